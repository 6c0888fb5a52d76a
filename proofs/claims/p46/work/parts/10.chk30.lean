theorem mjK_230_120 : (List.range' 120 17).all (mjAtOk mjM_230 mjCd_230) = true := by decide +kernel
theorem mjK_230 {pc : Nat} {q : MjI} (hq : mjCd_230 pc = some q) : decode mjM_230.2.1 pc = .ok (q.1, q.2.1) ∧ mjOk mjMt mjM_230 q pc = true := by
  refine mjOk_of (N := 137) (fun pc h => by unfold mjCd_230; rw [h]; rfl) ?_ hq
  rw [show List.range 137 = List.range' 0 60 ++ List.range' 60 60 ++ List.range' 120 17 from by decide +kernel]
  simp only [List.all_append, mjK_230_0, mjK_230_60, mjK_230_120, Bool.and_self]
theorem mjN_230 : mjMOk mjM_230 = true := by decide +kernel
theorem mjK_231_0 : (List.range' 0 60).all (mjAtOk mjM_231 mjCd_231) = true := by decide +kernel
theorem mjK_231_60 : (List.range' 60 60).all (mjAtOk mjM_231 mjCd_231) = true := by decide +kernel
theorem mjK_231_120 : (List.range' 120 54).all (mjAtOk mjM_231 mjCd_231) = true := by decide +kernel
theorem mjK_231 {pc : Nat} {q : MjI} (hq : mjCd_231 pc = some q) : decode mjM_231.2.1 pc = .ok (q.1, q.2.1) ∧ mjOk mjMt mjM_231 q pc = true := by
  refine mjOk_of (N := 174) (fun pc h => by unfold mjCd_231; rw [h]; rfl) ?_ hq
  rw [show List.range 174 = List.range' 0 60 ++ List.range' 60 60 ++ List.range' 120 54 from by decide +kernel]
  simp only [List.all_append, mjK_231_0, mjK_231_60, mjK_231_120, Bool.and_self]
theorem mjN_231 : mjMOk mjM_231 = true := by decide +kernel
theorem mjK_232_0 : (List.range' 0 60).all (mjAtOk mjM_232 mjCd_232) = true := by decide +kernel
theorem mjK_232_60 : (List.range' 60 60).all (mjAtOk mjM_232 mjCd_232) = true := by decide +kernel
theorem mjK_232_120 : (List.range' 120 60).all (mjAtOk mjM_232 mjCd_232) = true := by decide +kernel
theorem mjK_232_180 : (List.range' 180 37).all (mjAtOk mjM_232 mjCd_232) = true := by decide +kernel
theorem mjK_232 {pc : Nat} {q : MjI} (hq : mjCd_232 pc = some q) : decode mjM_232.2.1 pc = .ok (q.1, q.2.1) ∧ mjOk mjMt mjM_232 q pc = true := by
  refine mjOk_of (N := 217) (fun pc h => by unfold mjCd_232; rw [h]; rfl) ?_ hq
  rw [show List.range 217 = List.range' 0 60 ++ List.range' 60 60 ++ List.range' 120 60 ++ List.range' 180 37 from by decide +kernel]
  simp only [List.all_append, mjK_232_0, mjK_232_60, mjK_232_120, mjK_232_180, Bool.and_self]
theorem mjN_232 : mjMOk mjM_232 = true := by decide +kernel
theorem mjK_233 {pc : Nat} {q : MjI} (hq : mjCd_233 pc = some q) : decode mjM_233.2.1 pc = .ok (q.1, q.2.1) ∧ mjOk mjMt mjM_233 q pc = true := mjOk_of (N := 94) (fun pc h => by unfold mjCd_233; rw [h]; rfl) (by decide +kernel) hq
theorem mjN_233 : mjMOk mjM_233 = true := by decide +kernel
theorem mjK_234 {pc : Nat} {q : MjI} (hq : mjCd_234 pc = some q) : decode mjM_234.2.1 pc = .ok (q.1, q.2.1) ∧ mjOk mjMt mjM_234 q pc = true := mjOk_of (N := 12) (fun pc h => by unfold mjCd_234; rw [h]; rfl) (by decide +kernel) hq
theorem mjN_234 : mjMOk mjM_234 = true := by decide +kernel
theorem mjK_235 {pc : Nat} {q : MjI} (hq : mjCd_235 pc = some q) : decode mjM_235.2.1 pc = .ok (q.1, q.2.1) ∧ mjOk mjMt mjM_235 q pc = true := mjOk_of (N := 98) (fun pc h => by unfold mjCd_235; rw [h]; rfl) (by decide +kernel) hq
theorem mjN_235 : mjMOk mjM_235 = true := by decide +kernel
theorem mjK_236 {pc : Nat} {q : MjI} (hq : mjCd_236 pc = some q) : decode mjM_236.2.1 pc = .ok (q.1, q.2.1) ∧ mjOk mjMt mjM_236 q pc = true := mjOk_of (N := 17) (fun pc h => by unfold mjCd_236; rw [h]; rfl) (by decide +kernel) hq
theorem mjN_236 : mjMOk mjM_236 = true := by decide +kernel
theorem mjK_237 {pc : Nat} {q : MjI} (hq : mjCd_237 pc = some q) : decode mjM_237.2.1 pc = .ok (q.1, q.2.1) ∧ mjOk mjMt mjM_237 q pc = true := mjOk_of (N := 18) (fun pc h => by unfold mjCd_237; rw [h]; rfl) (by decide +kernel) hq
theorem mjN_237 : mjMOk mjM_237 = true := by decide +kernel
theorem mjK_238 {pc : Nat} {q : MjI} (hq : mjCd_238 pc = some q) : decode mjM_238.2.1 pc = .ok (q.1, q.2.1) ∧ mjOk mjMt mjM_238 q pc = true := mjOk_of (N := 52) (fun pc h => by unfold mjCd_238; rw [h]; rfl) (by decide +kernel) hq
theorem mjN_238 : mjMOk mjM_238 = true := by decide +kernel
theorem mjK_239 {pc : Nat} {q : MjI} (hq : mjCd_239 pc = some q) : decode mjM_239.2.1 pc = .ok (q.1, q.2.1) ∧ mjOk mjMt mjM_239 q pc = true := mjOk_of (N := 39) (fun pc h => by unfold mjCd_239; rw [h]; rfl) (by decide +kernel) hq
theorem mjN_239 : mjMOk mjM_239 = true := by decide +kernel
theorem mjK_240 {pc : Nat} {q : MjI} (hq : mjCd_240 pc = some q) : decode mjM_240.2.1 pc = .ok (q.1, q.2.1) ∧ mjOk mjMt mjM_240 q pc = true := mjOk_of (N := 44) (fun pc h => by unfold mjCd_240; rw [h]; rfl) (by decide +kernel) hq
theorem mjN_240 : mjMOk mjM_240 = true := by decide +kernel
theorem mjK_241_0 : (List.range' 0 60).all (mjAtOk mjM_241 mjCd_241) = true := by decide +kernel
theorem mjK_241_60 : (List.range' 60 60).all (mjAtOk mjM_241 mjCd_241) = true := by decide +kernel
theorem mjK_241_120 : (List.range' 120 46).all (mjAtOk mjM_241 mjCd_241) = true := by decide +kernel
