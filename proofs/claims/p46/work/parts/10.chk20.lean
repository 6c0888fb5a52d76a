theorem mjK_109 {pc : Nat} {q : MjI} (hq : mjCd_109 pc = some q) : decode mjM_109.2.1 pc = .ok (q.1, q.2.1) ∧ mjOk mjMt mjM_109 q pc = true := mjOk_of (N := 22) (fun pc h => by unfold mjCd_109; rw [h]; rfl) (by decide +kernel) hq
theorem mjN_109 : mjMOk mjM_109 = true := by decide +kernel
theorem mjK_110 {pc : Nat} {q : MjI} (hq : mjCd_110 pc = some q) : decode mjM_110.2.1 pc = .ok (q.1, q.2.1) ∧ mjOk mjMt mjM_110 q pc = true := mjOk_of (N := 39) (fun pc h => by unfold mjCd_110; rw [h]; rfl) (by decide +kernel) hq
theorem mjN_110 : mjMOk mjM_110 = true := by decide +kernel
theorem mjK_111 {pc : Nat} {q : MjI} (hq : mjCd_111 pc = some q) : decode mjM_111.2.1 pc = .ok (q.1, q.2.1) ∧ mjOk mjMt mjM_111 q pc = true := mjOk_of (N := 48) (fun pc h => by unfold mjCd_111; rw [h]; rfl) (by decide +kernel) hq
theorem mjN_111 : mjMOk mjM_111 = true := by decide +kernel
theorem mjK_112 {pc : Nat} {q : MjI} (hq : mjCd_112 pc = some q) : decode mjM_112.2.1 pc = .ok (q.1, q.2.1) ∧ mjOk mjMt mjM_112 q pc = true := mjOk_of (N := 20) (fun pc h => by unfold mjCd_112; rw [h]; rfl) (by decide +kernel) hq
theorem mjN_112 : mjMOk mjM_112 = true := by decide +kernel
theorem mjK_113 {pc : Nat} {q : MjI} (hq : mjCd_113 pc = some q) : decode mjM_113.2.1 pc = .ok (q.1, q.2.1) ∧ mjOk mjMt mjM_113 q pc = true := mjOk_of (N := 23) (fun pc h => by unfold mjCd_113; rw [h]; rfl) (by decide +kernel) hq
theorem mjN_113 : mjMOk mjM_113 = true := by decide +kernel
theorem mjK_114 {pc : Nat} {q : MjI} (hq : mjCd_114 pc = some q) : decode mjM_114.2.1 pc = .ok (q.1, q.2.1) ∧ mjOk mjMt mjM_114 q pc = true := mjOk_of (N := 21) (fun pc h => by unfold mjCd_114; rw [h]; rfl) (by decide +kernel) hq
theorem mjN_114 : mjMOk mjM_114 = true := by decide +kernel
theorem mjK_115 {pc : Nat} {q : MjI} (hq : mjCd_115 pc = some q) : decode mjM_115.2.1 pc = .ok (q.1, q.2.1) ∧ mjOk mjMt mjM_115 q pc = true := mjOk_of (N := 101) (fun pc h => by unfold mjCd_115; rw [h]; rfl) (by decide +kernel) hq
theorem mjN_115 : mjMOk mjM_115 = true := by decide +kernel
theorem mjK_116 {pc : Nat} {q : MjI} (hq : mjCd_116 pc = some q) : decode mjM_116.2.1 pc = .ok (q.1, q.2.1) ∧ mjOk mjMt mjM_116 q pc = true := mjOk_of (N := 61) (fun pc h => by unfold mjCd_116; rw [h]; rfl) (by decide +kernel) hq
theorem mjN_116 : mjMOk mjM_116 = true := by decide +kernel
theorem mjK_117 {pc : Nat} {q : MjI} (hq : mjCd_117 pc = some q) : decode mjM_117.2.1 pc = .ok (q.1, q.2.1) ∧ mjOk mjMt mjM_117 q pc = true := mjOk_of (N := 76) (fun pc h => by unfold mjCd_117; rw [h]; rfl) (by decide +kernel) hq
theorem mjN_117 : mjMOk mjM_117 = true := by decide +kernel
theorem mjK_118 {pc : Nat} {q : MjI} (hq : mjCd_118 pc = some q) : decode mjM_118.2.1 pc = .ok (q.1, q.2.1) ∧ mjOk mjMt mjM_118 q pc = true := mjOk_of (N := 73) (fun pc h => by unfold mjCd_118; rw [h]; rfl) (by decide +kernel) hq
theorem mjN_118 : mjMOk mjM_118 = true := by decide +kernel
theorem mjK_119 {pc : Nat} {q : MjI} (hq : mjCd_119 pc = some q) : decode mjM_119.2.1 pc = .ok (q.1, q.2.1) ∧ mjOk mjMt mjM_119 q pc = true := mjOk_of (N := 8) (fun pc h => by unfold mjCd_119; rw [h]; rfl) (by decide +kernel) hq
theorem mjN_119 : mjMOk mjM_119 = true := by decide +kernel
theorem mjK_120 {pc : Nat} {q : MjI} (hq : mjCd_120 pc = some q) : decode mjM_120.2.1 pc = .ok (q.1, q.2.1) ∧ mjOk mjMt mjM_120 q pc = true := mjOk_of (N := 81) (fun pc h => by unfold mjCd_120; rw [h]; rfl) (by decide +kernel) hq
theorem mjN_120 : mjMOk mjM_120 = true := by decide +kernel
theorem mjK_121 {pc : Nat} {q : MjI} (hq : mjCd_121 pc = some q) : decode mjM_121.2.1 pc = .ok (q.1, q.2.1) ∧ mjOk mjMt mjM_121 q pc = true := mjOk_of (N := 71) (fun pc h => by unfold mjCd_121; rw [h]; rfl) (by decide +kernel) hq
theorem mjN_121 : mjMOk mjM_121 = true := by decide +kernel
theorem mjK_122_0 : (List.range' 0 60).all (mjAtOk mjM_122 mjCd_122) = true := by decide +kernel
theorem mjK_122_60 : (List.range' 60 60).all (mjAtOk mjM_122 mjCd_122) = true := by decide +kernel
theorem mjK_122_120 : (List.range' 120 60).all (mjAtOk mjM_122 mjCd_122) = true := by decide +kernel
theorem mjK_122_180 : (List.range' 180 24).all (mjAtOk mjM_122 mjCd_122) = true := by decide +kernel
theorem mjK_122 {pc : Nat} {q : MjI} (hq : mjCd_122 pc = some q) : decode mjM_122.2.1 pc = .ok (q.1, q.2.1) ∧ mjOk mjMt mjM_122 q pc = true := by
  refine mjOk_of (N := 204) (fun pc h => by unfold mjCd_122; rw [h]; rfl) ?_ hq
  rw [show List.range 204 = List.range' 0 60 ++ List.range' 60 60 ++ List.range' 120 60 ++ List.range' 180 24 from by decide +kernel]
  simp only [List.all_append, mjK_122_0, mjK_122_60, mjK_122_120, mjK_122_180, Bool.and_self]
theorem mjN_122 : mjMOk mjM_122 = true := by decide +kernel
theorem mjK_123 {pc : Nat} {q : MjI} (hq : mjCd_123 pc = some q) : decode mjM_123.2.1 pc = .ok (q.1, q.2.1) ∧ mjOk mjMt mjM_123 q pc = true := mjOk_of (N := 20) (fun pc h => by unfold mjCd_123; rw [h]; rfl) (by decide +kernel) hq
theorem mjN_123 : mjMOk mjM_123 = true := by decide +kernel
theorem mjK_124 {pc : Nat} {q : MjI} (hq : mjCd_124 pc = some q) : decode mjM_124.2.1 pc = .ok (q.1, q.2.1) ∧ mjOk mjMt mjM_124 q pc = true := mjOk_of (N := 73) (fun pc h => by unfold mjCd_124; rw [h]; rfl) (by decide +kernel) hq
theorem mjN_124 : mjMOk mjM_124 = true := by decide +kernel
theorem mjK_125 {pc : Nat} {q : MjI} (hq : mjCd_125 pc = some q) : decode mjM_125.2.1 pc = .ok (q.1, q.2.1) ∧ mjOk mjMt mjM_125 q pc = true := mjOk_of (N := 35) (fun pc h => by unfold mjCd_125; rw [h]; rfl) (by decide +kernel) hq
theorem mjN_125 : mjMOk mjM_125 = true := by decide +kernel
theorem mjK_126_0 : (List.range' 0 60).all (mjAtOk mjM_126 mjCd_126) = true := by decide +kernel
theorem mjK_126_60 : (List.range' 60 60).all (mjAtOk mjM_126 mjCd_126) = true := by decide +kernel
theorem mjK_126_120 : (List.range' 120 60).all (mjAtOk mjM_126 mjCd_126) = true := by decide +kernel
theorem mjK_126_180 : (List.range' 180 14).all (mjAtOk mjM_126 mjCd_126) = true := by decide +kernel
theorem mjK_126 {pc : Nat} {q : MjI} (hq : mjCd_126 pc = some q) : decode mjM_126.2.1 pc = .ok (q.1, q.2.1) ∧ mjOk mjMt mjM_126 q pc = true := by
  refine mjOk_of (N := 194) (fun pc h => by unfold mjCd_126; rw [h]; rfl) ?_ hq
  rw [show List.range 194 = List.range' 0 60 ++ List.range' 60 60 ++ List.range' 120 60 ++ List.range' 180 14 from by decide +kernel]
  simp only [List.all_append, mjK_126_0, mjK_126_60, mjK_126_120, mjK_126_180, Bool.and_self]
theorem mjN_126 : mjMOk mjM_126 = true := by decide +kernel
theorem mjK_127 {pc : Nat} {q : MjI} (hq : mjCd_127 pc = some q) : decode mjM_127.2.1 pc = .ok (q.1, q.2.1) ∧ mjOk mjMt mjM_127 q pc = true := mjOk_of (N := 80) (fun pc h => by unfold mjCd_127; rw [h]; rfl) (by decide +kernel) hq
theorem mjN_127 : mjMOk mjM_127 = true := by decide +kernel
