theorem mjK_146_120 : (List.range' 120 2).all (mjAtOk mjM_146 mjCd_146) = true := by decide +kernel
theorem mjK_146 {pc : Nat} {q : MjI} (hq : mjCd_146 pc = some q) : decode mjM_146.2.1 pc = .ok (q.1, q.2.1) ∧ mjOk mjMt mjM_146 q pc = true := by
  refine mjOk_of (N := 122) (fun pc h => by unfold mjCd_146; rw [h]; rfl) ?_ hq
  rw [show List.range 122 = List.range' 0 60 ++ List.range' 60 60 ++ List.range' 120 2 from by decide +kernel]
  simp only [List.all_append, mjK_146_0, mjK_146_60, mjK_146_120, Bool.and_self]
theorem mjN_146 : mjMOk mjM_146 = true := by decide +kernel
theorem mjK_147 {pc : Nat} {q : MjI} (hq : mjCd_147 pc = some q) : decode mjM_147.2.1 pc = .ok (q.1, q.2.1) ∧ mjOk mjMt mjM_147 q pc = true := mjOk_of (N := 84) (fun pc h => by unfold mjCd_147; rw [h]; rfl) (by decide +kernel) hq
theorem mjN_147 : mjMOk mjM_147 = true := by decide +kernel
theorem mjK_148_0 : (List.range' 0 60).all (mjAtOk mjM_148 mjCd_148) = true := by decide +kernel
theorem mjK_148_60 : (List.range' 60 60).all (mjAtOk mjM_148 mjCd_148) = true := by decide +kernel
theorem mjK_148_120 : (List.range' 120 6).all (mjAtOk mjM_148 mjCd_148) = true := by decide +kernel
theorem mjK_148 {pc : Nat} {q : MjI} (hq : mjCd_148 pc = some q) : decode mjM_148.2.1 pc = .ok (q.1, q.2.1) ∧ mjOk mjMt mjM_148 q pc = true := by
  refine mjOk_of (N := 126) (fun pc h => by unfold mjCd_148; rw [h]; rfl) ?_ hq
  rw [show List.range 126 = List.range' 0 60 ++ List.range' 60 60 ++ List.range' 120 6 from by decide +kernel]
  simp only [List.all_append, mjK_148_0, mjK_148_60, mjK_148_120, Bool.and_self]
theorem mjN_148 : mjMOk mjM_148 = true := by decide +kernel
theorem mjK_149 {pc : Nat} {q : MjI} (hq : mjCd_149 pc = some q) : decode mjM_149.2.1 pc = .ok (q.1, q.2.1) ∧ mjOk mjMt mjM_149 q pc = true := mjOk_of (N := 76) (fun pc h => by unfold mjCd_149; rw [h]; rfl) (by decide +kernel) hq
theorem mjN_149 : mjMOk mjM_149 = true := by decide +kernel
theorem mjK_150 {pc : Nat} {q : MjI} (hq : mjCd_150 pc = some q) : decode mjM_150.2.1 pc = .ok (q.1, q.2.1) ∧ mjOk mjMt mjM_150 q pc = true := mjOk_of (N := 39) (fun pc h => by unfold mjCd_150; rw [h]; rfl) (by decide +kernel) hq
theorem mjN_150 : mjMOk mjM_150 = true := by decide +kernel
theorem mjK_151 {pc : Nat} {q : MjI} (hq : mjCd_151 pc = some q) : decode mjM_151.2.1 pc = .ok (q.1, q.2.1) ∧ mjOk mjMt mjM_151 q pc = true := mjOk_of (N := 24) (fun pc h => by unfold mjCd_151; rw [h]; rfl) (by decide +kernel) hq
theorem mjN_151 : mjMOk mjM_151 = true := by decide +kernel
theorem mjK_152 {pc : Nat} {q : MjI} (hq : mjCd_152 pc = some q) : decode mjM_152.2.1 pc = .ok (q.1, q.2.1) ∧ mjOk mjMt mjM_152 q pc = true := mjOk_of (N := 30) (fun pc h => by unfold mjCd_152; rw [h]; rfl) (by decide +kernel) hq
theorem mjN_152 : mjMOk mjM_152 = true := by decide +kernel
theorem mjK_153 {pc : Nat} {q : MjI} (hq : mjCd_153 pc = some q) : decode mjM_153.2.1 pc = .ok (q.1, q.2.1) ∧ mjOk mjMt mjM_153 q pc = true := mjOk_of (N := 55) (fun pc h => by unfold mjCd_153; rw [h]; rfl) (by decide +kernel) hq
theorem mjN_153 : mjMOk mjM_153 = true := by decide +kernel
theorem mjK_154 {pc : Nat} {q : MjI} (hq : mjCd_154 pc = some q) : decode mjM_154.2.1 pc = .ok (q.1, q.2.1) ∧ mjOk mjMt mjM_154 q pc = true := mjOk_of (N := 49) (fun pc h => by unfold mjCd_154; rw [h]; rfl) (by decide +kernel) hq
theorem mjN_154 : mjMOk mjM_154 = true := by decide +kernel
theorem mjK_155 {pc : Nat} {q : MjI} (hq : mjCd_155 pc = some q) : decode mjM_155.2.1 pc = .ok (q.1, q.2.1) ∧ mjOk mjMt mjM_155 q pc = true := mjOk_of (N := 92) (fun pc h => by unfold mjCd_155; rw [h]; rfl) (by decide +kernel) hq
theorem mjN_155 : mjMOk mjM_155 = true := by decide +kernel
theorem mjK_156 {pc : Nat} {q : MjI} (hq : mjCd_156 pc = some q) : decode mjM_156.2.1 pc = .ok (q.1, q.2.1) ∧ mjOk mjMt mjM_156 q pc = true := mjOk_of (N := 36) (fun pc h => by unfold mjCd_156; rw [h]; rfl) (by decide +kernel) hq
theorem mjN_156 : mjMOk mjM_156 = true := by decide +kernel
theorem mjK_157 {pc : Nat} {q : MjI} (hq : mjCd_157 pc = some q) : decode mjM_157.2.1 pc = .ok (q.1, q.2.1) ∧ mjOk mjMt mjM_157 q pc = true := mjOk_of (N := 29) (fun pc h => by unfold mjCd_157; rw [h]; rfl) (by decide +kernel) hq
theorem mjN_157 : mjMOk mjM_157 = true := by decide +kernel
theorem mjK_158 {pc : Nat} {q : MjI} (hq : mjCd_158 pc = some q) : decode mjM_158.2.1 pc = .ok (q.1, q.2.1) ∧ mjOk mjMt mjM_158 q pc = true := mjOk_of (N := 34) (fun pc h => by unfold mjCd_158; rw [h]; rfl) (by decide +kernel) hq
theorem mjN_158 : mjMOk mjM_158 = true := by decide +kernel
theorem mjK_159 {pc : Nat} {q : MjI} (hq : mjCd_159 pc = some q) : decode mjM_159.2.1 pc = .ok (q.1, q.2.1) ∧ mjOk mjMt mjM_159 q pc = true := mjOk_of (N := 81) (fun pc h => by unfold mjCd_159; rw [h]; rfl) (by decide +kernel) hq
theorem mjN_159 : mjMOk mjM_159 = true := by decide +kernel
theorem mjK_160 {pc : Nat} {q : MjI} (hq : mjCd_160 pc = some q) : decode mjM_160.2.1 pc = .ok (q.1, q.2.1) ∧ mjOk mjMt mjM_160 q pc = true := mjOk_of (N := 9) (fun pc h => by unfold mjCd_160; rw [h]; rfl) (by decide +kernel) hq
theorem mjN_160 : mjMOk mjM_160 = true := by decide +kernel
theorem mjK_161 {pc : Nat} {q : MjI} (hq : mjCd_161 pc = some q) : decode mjM_161.2.1 pc = .ok (q.1, q.2.1) ∧ mjOk mjMt mjM_161 q pc = true := mjOk_of (N := 36) (fun pc h => by unfold mjCd_161; rw [h]; rfl) (by decide +kernel) hq
theorem mjN_161 : mjMOk mjM_161 = true := by decide +kernel
theorem mjK_162 {pc : Nat} {q : MjI} (hq : mjCd_162 pc = some q) : decode mjM_162.2.1 pc = .ok (q.1, q.2.1) ∧ mjOk mjMt mjM_162 q pc = true := mjOk_of (N := 49) (fun pc h => by unfold mjCd_162; rw [h]; rfl) (by decide +kernel) hq
theorem mjN_162 : mjMOk mjM_162 = true := by decide +kernel
theorem mjK_163 {pc : Nat} {q : MjI} (hq : mjCd_163 pc = some q) : decode mjM_163.2.1 pc = .ok (q.1, q.2.1) ∧ mjOk mjMt mjM_163 q pc = true := mjOk_of (N := 17) (fun pc h => by unfold mjCd_163; rw [h]; rfl) (by decide +kernel) hq
theorem mjN_163 : mjMOk mjM_163 = true := by decide +kernel
theorem mjK_164 {pc : Nat} {q : MjI} (hq : mjCd_164 pc = some q) : decode mjM_164.2.1 pc = .ok (q.1, q.2.1) ∧ mjOk mjMt mjM_164 q pc = true := mjOk_of (N := 65) (fun pc h => by unfold mjCd_164; rw [h]; rfl) (by decide +kernel) hq
theorem mjN_164 : mjMOk mjM_164 = true := by decide +kernel
theorem mjK_165 {pc : Nat} {q : MjI} (hq : mjCd_165 pc = some q) : decode mjM_165.2.1 pc = .ok (q.1, q.2.1) ∧ mjOk mjMt mjM_165 q pc = true := mjOk_of (N := 115) (fun pc h => by unfold mjCd_165; rw [h]; rfl) (by decide +kernel) hq
theorem mjN_165 : mjMOk mjM_165 = true := by decide +kernel
theorem mjK_166 {pc : Nat} {q : MjI} (hq : mjCd_166 pc = some q) : decode mjM_166.2.1 pc = .ok (q.1, q.2.1) ∧ mjOk mjMt mjM_166 q pc = true := mjOk_of (N := 108) (fun pc h => by unfold mjCd_166; rw [h]; rfl) (by decide +kernel) hq
theorem mjN_166 : mjMOk mjM_166 = true := by decide +kernel
theorem mjK_167 {pc : Nat} {q : MjI} (hq : mjCd_167 pc = some q) : decode mjM_167.2.1 pc = .ok (q.1, q.2.1) ∧ mjOk mjMt mjM_167 q pc = true := mjOk_of (N := 58) (fun pc h => by unfold mjCd_167; rw [h]; rfl) (by decide +kernel) hq
theorem mjN_167 : mjMOk mjM_167 = true := by decide +kernel
theorem mjK_168 {pc : Nat} {q : MjI} (hq : mjCd_168 pc = some q) : decode mjM_168.2.1 pc = .ok (q.1, q.2.1) ∧ mjOk mjMt mjM_168 q pc = true := mjOk_of (N := 23) (fun pc h => by unfold mjCd_168; rw [h]; rfl) (by decide +kernel) hq
theorem mjN_168 : mjMOk mjM_168 = true := by decide +kernel
theorem mjK_169 {pc : Nat} {q : MjI} (hq : mjCd_169 pc = some q) : decode mjM_169.2.1 pc = .ok (q.1, q.2.1) ∧ mjOk mjMt mjM_169 q pc = true := mjOk_of (N := 59) (fun pc h => by unfold mjCd_169; rw [h]; rfl) (by decide +kernel) hq
theorem mjN_169 : mjMOk mjM_169 = true := by decide +kernel
theorem mjK_170 {pc : Nat} {q : MjI} (hq : mjCd_170 pc = some q) : decode mjM_170.2.1 pc = .ok (q.1, q.2.1) ∧ mjOk mjMt mjM_170 q pc = true := mjOk_of (N := 45) (fun pc h => by unfold mjCd_170; rw [h]; rfl) (by decide +kernel) hq
theorem mjN_170 : mjMOk mjM_170 = true := by decide +kernel
theorem mjK_171 {pc : Nat} {q : MjI} (hq : mjCd_171 pc = some q) : decode mjM_171.2.1 pc = .ok (q.1, q.2.1) ∧ mjOk mjMt mjM_171 q pc = true := mjOk_of (N := 111) (fun pc h => by unfold mjCd_171; rw [h]; rfl) (by decide +kernel) hq
theorem mjN_171 : mjMOk mjM_171 = true := by decide +kernel
theorem mjK_172 {pc : Nat} {q : MjI} (hq : mjCd_172 pc = some q) : decode mjM_172.2.1 pc = .ok (q.1, q.2.1) ∧ mjOk mjMt mjM_172 q pc = true := mjOk_of (N := 50) (fun pc h => by unfold mjCd_172; rw [h]; rfl) (by decide +kernel) hq
theorem mjN_172 : mjMOk mjM_172 = true := by decide +kernel
theorem mjK_173 {pc : Nat} {q : MjI} (hq : mjCd_173 pc = some q) : decode mjM_173.2.1 pc = .ok (q.1, q.2.1) ∧ mjOk mjMt mjM_173 q pc = true := mjOk_of (N := 46) (fun pc h => by unfold mjCd_173; rw [h]; rfl) (by decide +kernel) hq
theorem mjN_173 : mjMOk mjM_173 = true := by decide +kernel
theorem mjK_174_0 : (List.range' 0 60).all (mjAtOk mjM_174 mjCd_174) = true := by decide +kernel
