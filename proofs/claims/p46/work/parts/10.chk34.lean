theorem mjK_310_60 : (List.range' 60 60).all (mjAtOk mjM_310 mjCd_310) = true := by decide +kernel
theorem mjK_310_120 : (List.range' 120 60).all (mjAtOk mjM_310 mjCd_310) = true := by decide +kernel
theorem mjK_310_180 : (List.range' 180 35).all (mjAtOk mjM_310 mjCd_310) = true := by decide +kernel
theorem mjK_310 {pc : Nat} {q : MjI} (hq : mjCd_310 pc = some q) : decode mjM_310.2.1 pc = .ok (q.1, q.2.1) ∧ mjOk mjMt mjM_310 q pc = true := by
  refine mjOk_of (N := 215) (fun pc h => by unfold mjCd_310; rw [h]; rfl) ?_ hq
  rw [show List.range 215 = List.range' 0 60 ++ List.range' 60 60 ++ List.range' 120 60 ++ List.range' 180 35 from by decide +kernel]
  simp only [List.all_append, mjK_310_0, mjK_310_60, mjK_310_120, mjK_310_180, Bool.and_self]
theorem mjN_310 : mjMOk mjM_310 = true := by decide +kernel
theorem mjK_311_0 : (List.range' 0 60).all (mjAtOk mjM_311 mjCd_311) = true := by decide +kernel
theorem mjK_311_60 : (List.range' 60 60).all (mjAtOk mjM_311 mjCd_311) = true := by decide +kernel
theorem mjK_311_120 : (List.range' 120 1).all (mjAtOk mjM_311 mjCd_311) = true := by decide +kernel
theorem mjK_311 {pc : Nat} {q : MjI} (hq : mjCd_311 pc = some q) : decode mjM_311.2.1 pc = .ok (q.1, q.2.1) ∧ mjOk mjMt mjM_311 q pc = true := by
  refine mjOk_of (N := 121) (fun pc h => by unfold mjCd_311; rw [h]; rfl) ?_ hq
  rw [show List.range 121 = List.range' 0 60 ++ List.range' 60 60 ++ List.range' 120 1 from by decide +kernel]
  simp only [List.all_append, mjK_311_0, mjK_311_60, mjK_311_120, Bool.and_self]
theorem mjN_311 : mjMOk mjM_311 = true := by decide +kernel
theorem mjK_312 {pc : Nat} {q : MjI} (hq : mjCd_312 pc = some q) : decode mjM_312.2.1 pc = .ok (q.1, q.2.1) ∧ mjOk mjMt mjM_312 q pc = true := mjOk_of (N := 21) (fun pc h => by unfold mjCd_312; rw [h]; rfl) (by decide +kernel) hq
theorem mjN_312 : mjMOk mjM_312 = true := by decide +kernel
