theorem mjK_181_300 : (List.range' 300 60).all (mjAtOk mjM_181 mjCd_181) = true := by decide +kernel
theorem mjK_181_360 : (List.range' 360 18).all (mjAtOk mjM_181 mjCd_181) = true := by decide +kernel
theorem mjK_181 {pc : Nat} {q : MjI} (hq : mjCd_181 pc = some q) : decode mjM_181.2.1 pc = .ok (q.1, q.2.1) ∧ mjOk mjMt mjM_181 q pc = true := by
  refine mjOk_of (N := 378) (fun pc h => by unfold mjCd_181; rw [h]; rfl) ?_ hq
  rw [show List.range 378 = List.range' 0 60 ++ List.range' 60 60 ++ List.range' 120 60 ++ List.range' 180 60 ++ List.range' 240 60 ++ List.range' 300 60 ++ List.range' 360 18 from by decide +kernel]
  simp only [List.all_append, mjK_181_0, mjK_181_60, mjK_181_120, mjK_181_180, mjK_181_240, mjK_181_300, mjK_181_360, Bool.and_self]
theorem mjN_181 : mjMOk mjM_181 = true := by decide +kernel
theorem mjK_182 {pc : Nat} {q : MjI} (hq : mjCd_182 pc = some q) : decode mjM_182.2.1 pc = .ok (q.1, q.2.1) ∧ mjOk mjMt mjM_182 q pc = true := mjOk_of (N := 23) (fun pc h => by unfold mjCd_182; rw [h]; rfl) (by decide +kernel) hq
theorem mjN_182 : mjMOk mjM_182 = true := by decide +kernel
theorem mjK_183 {pc : Nat} {q : MjI} (hq : mjCd_183 pc = some q) : decode mjM_183.2.1 pc = .ok (q.1, q.2.1) ∧ mjOk mjMt mjM_183 q pc = true := mjOk_of (N := 18) (fun pc h => by unfold mjCd_183; rw [h]; rfl) (by decide +kernel) hq
theorem mjN_183 : mjMOk mjM_183 = true := by decide +kernel
theorem mjK_184_0 : (List.range' 0 60).all (mjAtOk mjM_184 mjCd_184) = true := by decide +kernel
theorem mjK_184_60 : (List.range' 60 60).all (mjAtOk mjM_184 mjCd_184) = true := by decide +kernel
theorem mjK_184_120 : (List.range' 120 60).all (mjAtOk mjM_184 mjCd_184) = true := by decide +kernel
theorem mjK_184_180 : (List.range' 180 52).all (mjAtOk mjM_184 mjCd_184) = true := by decide +kernel
theorem mjK_184 {pc : Nat} {q : MjI} (hq : mjCd_184 pc = some q) : decode mjM_184.2.1 pc = .ok (q.1, q.2.1) ∧ mjOk mjMt mjM_184 q pc = true := by
  refine mjOk_of (N := 232) (fun pc h => by unfold mjCd_184; rw [h]; rfl) ?_ hq
  rw [show List.range 232 = List.range' 0 60 ++ List.range' 60 60 ++ List.range' 120 60 ++ List.range' 180 52 from by decide +kernel]
  simp only [List.all_append, mjK_184_0, mjK_184_60, mjK_184_120, mjK_184_180, Bool.and_self]
theorem mjN_184 : mjMOk mjM_184 = true := by decide +kernel
theorem mjK_185 {pc : Nat} {q : MjI} (hq : mjCd_185 pc = some q) : decode mjM_185.2.1 pc = .ok (q.1, q.2.1) ∧ mjOk mjMt mjM_185 q pc = true := mjOk_of (N := 18) (fun pc h => by unfold mjCd_185; rw [h]; rfl) (by decide +kernel) hq
theorem mjN_185 : mjMOk mjM_185 = true := by decide +kernel
theorem mjK_186 {pc : Nat} {q : MjI} (hq : mjCd_186 pc = some q) : decode mjM_186.2.1 pc = .ok (q.1, q.2.1) ∧ mjOk mjMt mjM_186 q pc = true := mjOk_of (N := 72) (fun pc h => by unfold mjCd_186; rw [h]; rfl) (by decide +kernel) hq
theorem mjN_186 : mjMOk mjM_186 = true := by decide +kernel
theorem mjK_187 {pc : Nat} {q : MjI} (hq : mjCd_187 pc = some q) : decode mjM_187.2.1 pc = .ok (q.1, q.2.1) ∧ mjOk mjMt mjM_187 q pc = true := mjOk_of (N := 13) (fun pc h => by unfold mjCd_187; rw [h]; rfl) (by decide +kernel) hq
theorem mjN_187 : mjMOk mjM_187 = true := by decide +kernel
theorem mjK_188_0 : (List.range' 0 60).all (mjAtOk mjM_188 mjCd_188) = true := by decide +kernel
theorem mjK_188_60 : (List.range' 60 60).all (mjAtOk mjM_188 mjCd_188) = true := by decide +kernel
theorem mjK_188_120 : (List.range' 120 60).all (mjAtOk mjM_188 mjCd_188) = true := by decide +kernel
