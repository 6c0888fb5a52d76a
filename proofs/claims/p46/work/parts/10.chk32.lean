theorem mjK_277 {pc : Nat} {q : MjI} (hq : mjCd_277 pc = some q) : decode mjM_277.2.1 pc = .ok (q.1, q.2.1) ∧ mjOk mjMt mjM_277 q pc = true := mjOk_of (N := 6) (fun pc h => by unfold mjCd_277; rw [h]; rfl) (by decide +kernel) hq
theorem mjN_277 : mjMOk mjM_277 = true := by decide +kernel
theorem mjK_278 {pc : Nat} {q : MjI} (hq : mjCd_278 pc = some q) : decode mjM_278.2.1 pc = .ok (q.1, q.2.1) ∧ mjOk mjMt mjM_278 q pc = true := mjOk_of (N := 60) (fun pc h => by unfold mjCd_278; rw [h]; rfl) (by decide +kernel) hq
theorem mjN_278 : mjMOk mjM_278 = true := by decide +kernel
theorem mjK_279 {pc : Nat} {q : MjI} (hq : mjCd_279 pc = some q) : decode mjM_279.2.1 pc = .ok (q.1, q.2.1) ∧ mjOk mjMt mjM_279 q pc = true := mjOk_of (N := 18) (fun pc h => by unfold mjCd_279; rw [h]; rfl) (by decide +kernel) hq
theorem mjN_279 : mjMOk mjM_279 = true := by decide +kernel
theorem mjK_280 {pc : Nat} {q : MjI} (hq : mjCd_280 pc = some q) : decode mjM_280.2.1 pc = .ok (q.1, q.2.1) ∧ mjOk mjMt mjM_280 q pc = true := mjOk_of (N := 29) (fun pc h => by unfold mjCd_280; rw [h]; rfl) (by decide +kernel) hq
theorem mjN_280 : mjMOk mjM_280 = true := by decide +kernel
theorem mjK_281 {pc : Nat} {q : MjI} (hq : mjCd_281 pc = some q) : decode mjM_281.2.1 pc = .ok (q.1, q.2.1) ∧ mjOk mjMt mjM_281 q pc = true := mjOk_of (N := 41) (fun pc h => by unfold mjCd_281; rw [h]; rfl) (by decide +kernel) hq
theorem mjN_281 : mjMOk mjM_281 = true := by decide +kernel
theorem mjK_282 {pc : Nat} {q : MjI} (hq : mjCd_282 pc = some q) : decode mjM_282.2.1 pc = .ok (q.1, q.2.1) ∧ mjOk mjMt mjM_282 q pc = true := mjOk_of (N := 62) (fun pc h => by unfold mjCd_282; rw [h]; rfl) (by decide +kernel) hq
theorem mjN_282 : mjMOk mjM_282 = true := by decide +kernel
theorem mjK_283 {pc : Nat} {q : MjI} (hq : mjCd_283 pc = some q) : decode mjM_283.2.1 pc = .ok (q.1, q.2.1) ∧ mjOk mjMt mjM_283 q pc = true := mjOk_of (N := 31) (fun pc h => by unfold mjCd_283; rw [h]; rfl) (by decide +kernel) hq
theorem mjN_283 : mjMOk mjM_283 = true := by decide +kernel
theorem mjK_284 {pc : Nat} {q : MjI} (hq : mjCd_284 pc = some q) : decode mjM_284.2.1 pc = .ok (q.1, q.2.1) ∧ mjOk mjMt mjM_284 q pc = true := mjOk_of (N := 26) (fun pc h => by unfold mjCd_284; rw [h]; rfl) (by decide +kernel) hq
theorem mjN_284 : mjMOk mjM_284 = true := by decide +kernel
theorem mjK_285_0 : (List.range' 0 60).all (mjAtOk mjM_285 mjCd_285) = true := by decide +kernel
theorem mjK_285_60 : (List.range' 60 60).all (mjAtOk mjM_285 mjCd_285) = true := by decide +kernel
theorem mjK_285_120 : (List.range' 120 60).all (mjAtOk mjM_285 mjCd_285) = true := by decide +kernel
theorem mjK_285_180 : (List.range' 180 17).all (mjAtOk mjM_285 mjCd_285) = true := by decide +kernel
theorem mjK_285 {pc : Nat} {q : MjI} (hq : mjCd_285 pc = some q) : decode mjM_285.2.1 pc = .ok (q.1, q.2.1) ∧ mjOk mjMt mjM_285 q pc = true := by
  refine mjOk_of (N := 197) (fun pc h => by unfold mjCd_285; rw [h]; rfl) ?_ hq
  rw [show List.range 197 = List.range' 0 60 ++ List.range' 60 60 ++ List.range' 120 60 ++ List.range' 180 17 from by decide +kernel]
  simp only [List.all_append, mjK_285_0, mjK_285_60, mjK_285_120, mjK_285_180, Bool.and_self]
theorem mjN_285 : mjMOk mjM_285 = true := by decide +kernel
theorem mjK_286 {pc : Nat} {q : MjI} (hq : mjCd_286 pc = some q) : decode mjM_286.2.1 pc = .ok (q.1, q.2.1) ∧ mjOk mjMt mjM_286 q pc = true := mjOk_of (N := 21) (fun pc h => by unfold mjCd_286; rw [h]; rfl) (by decide +kernel) hq
theorem mjN_286 : mjMOk mjM_286 = true := by decide +kernel
theorem mjK_287 {pc : Nat} {q : MjI} (hq : mjCd_287 pc = some q) : decode mjM_287.2.1 pc = .ok (q.1, q.2.1) ∧ mjOk mjMt mjM_287 q pc = true := mjOk_of (N := 37) (fun pc h => by unfold mjCd_287; rw [h]; rfl) (by decide +kernel) hq
theorem mjN_287 : mjMOk mjM_287 = true := by decide +kernel
theorem mjK_288 {pc : Nat} {q : MjI} (hq : mjCd_288 pc = some q) : decode mjM_288.2.1 pc = .ok (q.1, q.2.1) ∧ mjOk mjMt mjM_288 q pc = true := mjOk_of (N := 23) (fun pc h => by unfold mjCd_288; rw [h]; rfl) (by decide +kernel) hq
theorem mjN_288 : mjMOk mjM_288 = true := by decide +kernel
theorem mjK_289_0 : (List.range' 0 60).all (mjAtOk mjM_289 mjCd_289) = true := by decide +kernel
theorem mjK_289_60 : (List.range' 60 60).all (mjAtOk mjM_289 mjCd_289) = true := by decide +kernel
theorem mjK_289_120 : (List.range' 120 43).all (mjAtOk mjM_289 mjCd_289) = true := by decide +kernel
theorem mjK_289 {pc : Nat} {q : MjI} (hq : mjCd_289 pc = some q) : decode mjM_289.2.1 pc = .ok (q.1, q.2.1) ∧ mjOk mjMt mjM_289 q pc = true := by
  refine mjOk_of (N := 163) (fun pc h => by unfold mjCd_289; rw [h]; rfl) ?_ hq
  rw [show List.range 163 = List.range' 0 60 ++ List.range' 60 60 ++ List.range' 120 43 from by decide +kernel]
  simp only [List.all_append, mjK_289_0, mjK_289_60, mjK_289_120, Bool.and_self]
theorem mjN_289 : mjMOk mjM_289 = true := by decide +kernel
theorem mjK_290_0 : (List.range' 0 60).all (mjAtOk mjM_290 mjCd_290) = true := by decide +kernel
theorem mjK_290_60 : (List.range' 60 60).all (mjAtOk mjM_290 mjCd_290) = true := by decide +kernel
theorem mjK_290_120 : (List.range' 120 60).all (mjAtOk mjM_290 mjCd_290) = true := by decide +kernel
theorem mjK_290_180 : (List.range' 180 15).all (mjAtOk mjM_290 mjCd_290) = true := by decide +kernel
theorem mjK_290 {pc : Nat} {q : MjI} (hq : mjCd_290 pc = some q) : decode mjM_290.2.1 pc = .ok (q.1, q.2.1) ∧ mjOk mjMt mjM_290 q pc = true := by
  refine mjOk_of (N := 195) (fun pc h => by unfold mjCd_290; rw [h]; rfl) ?_ hq
  rw [show List.range 195 = List.range' 0 60 ++ List.range' 60 60 ++ List.range' 120 60 ++ List.range' 180 15 from by decide +kernel]
  simp only [List.all_append, mjK_290_0, mjK_290_60, mjK_290_120, mjK_290_180, Bool.and_self]
theorem mjN_290 : mjMOk mjM_290 = true := by decide +kernel
theorem mjK_291_0 : (List.range' 0 60).all (mjAtOk mjM_291 mjCd_291) = true := by decide +kernel
theorem mjK_291_60 : (List.range' 60 60).all (mjAtOk mjM_291 mjCd_291) = true := by decide +kernel
