theorem mjK_174_60 : (List.range' 60 60).all (mjAtOk mjM_174 mjCd_174) = true := by decide +kernel
theorem mjK_174_120 : (List.range' 120 60).all (mjAtOk mjM_174 mjCd_174) = true := by decide +kernel
theorem mjK_174_180 : (List.range' 180 60).all (mjAtOk mjM_174 mjCd_174) = true := by decide +kernel
theorem mjK_174_240 : (List.range' 240 20).all (mjAtOk mjM_174 mjCd_174) = true := by decide +kernel
theorem mjK_174 {pc : Nat} {q : MjI} (hq : mjCd_174 pc = some q) : decode mjM_174.2.1 pc = .ok (q.1, q.2.1) ∧ mjOk mjMt mjM_174 q pc = true := by
  refine mjOk_of (N := 260) (fun pc h => by unfold mjCd_174; rw [h]; rfl) ?_ hq
  rw [show List.range 260 = List.range' 0 60 ++ List.range' 60 60 ++ List.range' 120 60 ++ List.range' 180 60 ++ List.range' 240 20 from by decide +kernel]
  simp only [List.all_append, mjK_174_0, mjK_174_60, mjK_174_120, mjK_174_180, mjK_174_240, Bool.and_self]
theorem mjN_174 : mjMOk mjM_174 = true := by decide +kernel
theorem mjK_175_0 : (List.range' 0 60).all (mjAtOk mjM_175 mjCd_175) = true := by decide +kernel
theorem mjK_175_60 : (List.range' 60 60).all (mjAtOk mjM_175 mjCd_175) = true := by decide +kernel
theorem mjK_175_120 : (List.range' 120 60).all (mjAtOk mjM_175 mjCd_175) = true := by decide +kernel
theorem mjK_175_180 : (List.range' 180 60).all (mjAtOk mjM_175 mjCd_175) = true := by decide +kernel
