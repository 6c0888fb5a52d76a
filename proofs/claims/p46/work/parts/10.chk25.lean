theorem mjK_178_60 : (List.range' 60 60).all (mjAtOk mjM_178 mjCd_178) = true := by decide +kernel
theorem mjK_178_120 : (List.range' 120 15).all (mjAtOk mjM_178 mjCd_178) = true := by decide +kernel
theorem mjK_178 {pc : Nat} {q : MjI} (hq : mjCd_178 pc = some q) : decode mjM_178.2.1 pc = .ok (q.1, q.2.1) ∧ mjOk mjMt mjM_178 q pc = true := by
  refine mjOk_of (N := 135) (fun pc h => by unfold mjCd_178; rw [h]; rfl) ?_ hq
  rw [show List.range 135 = List.range' 0 60 ++ List.range' 60 60 ++ List.range' 120 15 from by decide +kernel]
  simp only [List.all_append, mjK_178_0, mjK_178_60, mjK_178_120, Bool.and_self]
theorem mjN_178 : mjMOk mjM_178 = true := by decide +kernel
theorem mjK_179 {pc : Nat} {q : MjI} (hq : mjCd_179 pc = some q) : decode mjM_179.2.1 pc = .ok (q.1, q.2.1) ∧ mjOk mjMt mjM_179 q pc = true := mjOk_of (N := 10) (fun pc h => by unfold mjCd_179; rw [h]; rfl) (by decide +kernel) hq
theorem mjN_179 : mjMOk mjM_179 = true := by decide +kernel
theorem mjK_180_0 : (List.range' 0 60).all (mjAtOk mjM_180 mjCd_180) = true := by decide +kernel
theorem mjK_180_60 : (List.range' 60 60).all (mjAtOk mjM_180 mjCd_180) = true := by decide +kernel
theorem mjK_180_120 : (List.range' 120 6).all (mjAtOk mjM_180 mjCd_180) = true := by decide +kernel
theorem mjK_180 {pc : Nat} {q : MjI} (hq : mjCd_180 pc = some q) : decode mjM_180.2.1 pc = .ok (q.1, q.2.1) ∧ mjOk mjMt mjM_180 q pc = true := by
  refine mjOk_of (N := 126) (fun pc h => by unfold mjCd_180; rw [h]; rfl) ?_ hq
  rw [show List.range 126 = List.range' 0 60 ++ List.range' 60 60 ++ List.range' 120 6 from by decide +kernel]
  simp only [List.all_append, mjK_180_0, mjK_180_60, mjK_180_120, Bool.and_self]
theorem mjN_180 : mjMOk mjM_180 = true := by decide +kernel
theorem mjK_181_0 : (List.range' 0 60).all (mjAtOk mjM_181 mjCd_181) = true := by decide +kernel
theorem mjK_181_60 : (List.range' 60 60).all (mjAtOk mjM_181 mjCd_181) = true := by decide +kernel
theorem mjK_181_120 : (List.range' 120 60).all (mjAtOk mjM_181 mjCd_181) = true := by decide +kernel
theorem mjK_181_180 : (List.range' 180 60).all (mjAtOk mjM_181 mjCd_181) = true := by decide +kernel
theorem mjK_181_240 : (List.range' 240 60).all (mjAtOk mjM_181 mjCd_181) = true := by decide +kernel
