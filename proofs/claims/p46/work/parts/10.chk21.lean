theorem mjK_128 {pc : Nat} {q : MjI} (hq : mjCd_128 pc = some q) : decode mjM_128.2.1 pc = .ok (q.1, q.2.1) ∧ mjOk mjMt mjM_128 q pc = true := mjOk_of (N := 57) (fun pc h => by unfold mjCd_128; rw [h]; rfl) (by decide +kernel) hq
theorem mjN_128 : mjMOk mjM_128 = true := by decide +kernel
theorem mjK_129 {pc : Nat} {q : MjI} (hq : mjCd_129 pc = some q) : decode mjM_129.2.1 pc = .ok (q.1, q.2.1) ∧ mjOk mjMt mjM_129 q pc = true := mjOk_of (N := 40) (fun pc h => by unfold mjCd_129; rw [h]; rfl) (by decide +kernel) hq
theorem mjN_129 : mjMOk mjM_129 = true := by decide +kernel
theorem mjK_130 {pc : Nat} {q : MjI} (hq : mjCd_130 pc = some q) : decode mjM_130.2.1 pc = .ok (q.1, q.2.1) ∧ mjOk mjMt mjM_130 q pc = true := mjOk_of (N := 67) (fun pc h => by unfold mjCd_130; rw [h]; rfl) (by decide +kernel) hq
theorem mjN_130 : mjMOk mjM_130 = true := by decide +kernel
theorem mjK_131 {pc : Nat} {q : MjI} (hq : mjCd_131 pc = some q) : decode mjM_131.2.1 pc = .ok (q.1, q.2.1) ∧ mjOk mjMt mjM_131 q pc = true := mjOk_of (N := 29) (fun pc h => by unfold mjCd_131; rw [h]; rfl) (by decide +kernel) hq
theorem mjN_131 : mjMOk mjM_131 = true := by decide +kernel
theorem mjK_132 {pc : Nat} {q : MjI} (hq : mjCd_132 pc = some q) : decode mjM_132.2.1 pc = .ok (q.1, q.2.1) ∧ mjOk mjMt mjM_132 q pc = true := mjOk_of (N := 60) (fun pc h => by unfold mjCd_132; rw [h]; rfl) (by decide +kernel) hq
theorem mjN_132 : mjMOk mjM_132 = true := by decide +kernel
theorem mjK_133 {pc : Nat} {q : MjI} (hq : mjCd_133 pc = some q) : decode mjM_133.2.1 pc = .ok (q.1, q.2.1) ∧ mjOk mjMt mjM_133 q pc = true := mjOk_of (N := 100) (fun pc h => by unfold mjCd_133; rw [h]; rfl) (by decide +kernel) hq
theorem mjN_133 : mjMOk mjM_133 = true := by decide +kernel
theorem mjK_134 {pc : Nat} {q : MjI} (hq : mjCd_134 pc = some q) : decode mjM_134.2.1 pc = .ok (q.1, q.2.1) ∧ mjOk mjMt mjM_134 q pc = true := mjOk_of (N := 100) (fun pc h => by unfold mjCd_134; rw [h]; rfl) (by decide +kernel) hq
theorem mjN_134 : mjMOk mjM_134 = true := by decide +kernel
theorem mjK_135 {pc : Nat} {q : MjI} (hq : mjCd_135 pc = some q) : decode mjM_135.2.1 pc = .ok (q.1, q.2.1) ∧ mjOk mjMt mjM_135 q pc = true := mjOk_of (N := 110) (fun pc h => by unfold mjCd_135; rw [h]; rfl) (by decide +kernel) hq
theorem mjN_135 : mjMOk mjM_135 = true := by decide +kernel
theorem mjK_136 {pc : Nat} {q : MjI} (hq : mjCd_136 pc = some q) : decode mjM_136.2.1 pc = .ok (q.1, q.2.1) ∧ mjOk mjMt mjM_136 q pc = true := mjOk_of (N := 120) (fun pc h => by unfold mjCd_136; rw [h]; rfl) (by decide +kernel) hq
theorem mjN_136 : mjMOk mjM_136 = true := by decide +kernel
theorem mjK_137 {pc : Nat} {q : MjI} (hq : mjCd_137 pc = some q) : decode mjM_137.2.1 pc = .ok (q.1, q.2.1) ∧ mjOk mjMt mjM_137 q pc = true := mjOk_of (N := 36) (fun pc h => by unfold mjCd_137; rw [h]; rfl) (by decide +kernel) hq
theorem mjN_137 : mjMOk mjM_137 = true := by decide +kernel
theorem mjK_138 {pc : Nat} {q : MjI} (hq : mjCd_138 pc = some q) : decode mjM_138.2.1 pc = .ok (q.1, q.2.1) ∧ mjOk mjMt mjM_138 q pc = true := mjOk_of (N := 71) (fun pc h => by unfold mjCd_138; rw [h]; rfl) (by decide +kernel) hq
theorem mjN_138 : mjMOk mjM_138 = true := by decide +kernel
theorem mjK_139 {pc : Nat} {q : MjI} (hq : mjCd_139 pc = some q) : decode mjM_139.2.1 pc = .ok (q.1, q.2.1) ∧ mjOk mjMt mjM_139 q pc = true := mjOk_of (N := 27) (fun pc h => by unfold mjCd_139; rw [h]; rfl) (by decide +kernel) hq
theorem mjN_139 : mjMOk mjM_139 = true := by decide +kernel
theorem mjK_140 {pc : Nat} {q : MjI} (hq : mjCd_140 pc = some q) : decode mjM_140.2.1 pc = .ok (q.1, q.2.1) ∧ mjOk mjMt mjM_140 q pc = true := mjOk_of (N := 31) (fun pc h => by unfold mjCd_140; rw [h]; rfl) (by decide +kernel) hq
theorem mjN_140 : mjMOk mjM_140 = true := by decide +kernel
theorem mjK_141 {pc : Nat} {q : MjI} (hq : mjCd_141 pc = some q) : decode mjM_141.2.1 pc = .ok (q.1, q.2.1) ∧ mjOk mjMt mjM_141 q pc = true := mjOk_of (N := 56) (fun pc h => by unfold mjCd_141; rw [h]; rfl) (by decide +kernel) hq
theorem mjN_141 : mjMOk mjM_141 = true := by decide +kernel
theorem mjK_142 {pc : Nat} {q : MjI} (hq : mjCd_142 pc = some q) : decode mjM_142.2.1 pc = .ok (q.1, q.2.1) ∧ mjOk mjMt mjM_142 q pc = true := mjOk_of (N := 96) (fun pc h => by unfold mjCd_142; rw [h]; rfl) (by decide +kernel) hq
theorem mjN_142 : mjMOk mjM_142 = true := by decide +kernel
theorem mjK_143 {pc : Nat} {q : MjI} (hq : mjCd_143 pc = some q) : decode mjM_143.2.1 pc = .ok (q.1, q.2.1) ∧ mjOk mjMt mjM_143 q pc = true := mjOk_of (N := 120) (fun pc h => by unfold mjCd_143; rw [h]; rfl) (by decide +kernel) hq
theorem mjN_143 : mjMOk mjM_143 = true := by decide +kernel
theorem mjK_144 {pc : Nat} {q : MjI} (hq : mjCd_144 pc = some q) : decode mjM_144.2.1 pc = .ok (q.1, q.2.1) ∧ mjOk mjMt mjM_144 q pc = true := mjOk_of (N := 87) (fun pc h => by unfold mjCd_144; rw [h]; rfl) (by decide +kernel) hq
theorem mjN_144 : mjMOk mjM_144 = true := by decide +kernel
theorem mjK_145_0 : (List.range' 0 60).all (mjAtOk mjM_145 mjCd_145) = true := by decide +kernel
theorem mjK_145_60 : (List.range' 60 60).all (mjAtOk mjM_145 mjCd_145) = true := by decide +kernel
theorem mjK_145_120 : (List.range' 120 13).all (mjAtOk mjM_145 mjCd_145) = true := by decide +kernel
theorem mjK_145 {pc : Nat} {q : MjI} (hq : mjCd_145 pc = some q) : decode mjM_145.2.1 pc = .ok (q.1, q.2.1) ∧ mjOk mjMt mjM_145 q pc = true := by
  refine mjOk_of (N := 133) (fun pc h => by unfold mjCd_145; rw [h]; rfl) ?_ hq
  rw [show List.range 133 = List.range' 0 60 ++ List.range' 60 60 ++ List.range' 120 13 from by decide +kernel]
  simp only [List.all_append, mjK_145_0, mjK_145_60, mjK_145_120, Bool.and_self]
theorem mjN_145 : mjMOk mjM_145 = true := by decide +kernel
theorem mjK_146_0 : (List.range' 0 60).all (mjAtOk mjM_146 mjCd_146) = true := by decide +kernel
theorem mjK_146_60 : (List.range' 60 60).all (mjAtOk mjM_146 mjCd_146) = true := by decide +kernel
