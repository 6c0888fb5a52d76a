theorem mjK_175_240 : (List.range' 240 60).all (mjAtOk mjM_175 mjCd_175) = true := by decide +kernel
theorem mjK_175_300 : (List.range' 300 60).all (mjAtOk mjM_175 mjCd_175) = true := by decide +kernel
theorem mjK_175_360 : (List.range' 360 46).all (mjAtOk mjM_175 mjCd_175) = true := by decide +kernel
theorem mjK_175 {pc : Nat} {q : MjI} (hq : mjCd_175 pc = some q) : decode mjM_175.2.1 pc = .ok (q.1, q.2.1) ∧ mjOk mjMt mjM_175 q pc = true := by
  refine mjOk_of (N := 406) (fun pc h => by unfold mjCd_175; rw [h]; rfl) ?_ hq
  rw [show List.range 406 = List.range' 0 60 ++ List.range' 60 60 ++ List.range' 120 60 ++ List.range' 180 60 ++ List.range' 240 60 ++ List.range' 300 60 ++ List.range' 360 46 from by decide +kernel]
  simp only [List.all_append, mjK_175_0, mjK_175_60, mjK_175_120, mjK_175_180, mjK_175_240, mjK_175_300, mjK_175_360, Bool.and_self]
theorem mjN_175 : mjMOk mjM_175 = true := by decide +kernel
theorem mjK_176_0 : (List.range' 0 60).all (mjAtOk mjM_176 mjCd_176) = true := by decide +kernel
theorem mjK_176_60 : (List.range' 60 60).all (mjAtOk mjM_176 mjCd_176) = true := by decide +kernel
theorem mjK_176_120 : (List.range' 120 60).all (mjAtOk mjM_176 mjCd_176) = true := by decide +kernel
theorem mjK_176_180 : (List.range' 180 53).all (mjAtOk mjM_176 mjCd_176) = true := by decide +kernel
theorem mjK_176 {pc : Nat} {q : MjI} (hq : mjCd_176 pc = some q) : decode mjM_176.2.1 pc = .ok (q.1, q.2.1) ∧ mjOk mjMt mjM_176 q pc = true := by
  refine mjOk_of (N := 233) (fun pc h => by unfold mjCd_176; rw [h]; rfl) ?_ hq
  rw [show List.range 233 = List.range' 0 60 ++ List.range' 60 60 ++ List.range' 120 60 ++ List.range' 180 53 from by decide +kernel]
  simp only [List.all_append, mjK_176_0, mjK_176_60, mjK_176_120, mjK_176_180, Bool.and_self]
theorem mjN_176 : mjMOk mjM_176 = true := by decide +kernel
theorem mjK_177 {pc : Nat} {q : MjI} (hq : mjCd_177 pc = some q) : decode mjM_177.2.1 pc = .ok (q.1, q.2.1) ∧ mjOk mjMt mjM_177 q pc = true := mjOk_of (N := 45) (fun pc h => by unfold mjCd_177; rw [h]; rfl) (by decide +kernel) hq
theorem mjN_177 : mjMOk mjM_177 = true := by decide +kernel
theorem mjK_178_0 : (List.range' 0 60).all (mjAtOk mjM_178 mjCd_178) = true := by decide +kernel
