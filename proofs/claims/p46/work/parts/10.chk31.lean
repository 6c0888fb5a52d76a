theorem mjK_241 {pc : Nat} {q : MjI} (hq : mjCd_241 pc = some q) : decode mjM_241.2.1 pc = .ok (q.1, q.2.1) ∧ mjOk mjMt mjM_241 q pc = true := by
  refine mjOk_of (N := 166) (fun pc h => by unfold mjCd_241; rw [h]; rfl) ?_ hq
  rw [show List.range 166 = List.range' 0 60 ++ List.range' 60 60 ++ List.range' 120 46 from by decide +kernel]
  simp only [List.all_append, mjK_241_0, mjK_241_60, mjK_241_120, Bool.and_self]
theorem mjN_241 : mjMOk mjM_241 = true := by decide +kernel
theorem mjK_242 {pc : Nat} {q : MjI} (hq : mjCd_242 pc = some q) : decode mjM_242.2.1 pc = .ok (q.1, q.2.1) ∧ mjOk mjMt mjM_242 q pc = true := mjOk_of (N := 96) (fun pc h => by unfold mjCd_242; rw [h]; rfl) (by decide +kernel) hq
theorem mjN_242 : mjMOk mjM_242 = true := by decide +kernel
theorem mjK_243 {pc : Nat} {q : MjI} (hq : mjCd_243 pc = some q) : decode mjM_243.2.1 pc = .ok (q.1, q.2.1) ∧ mjOk mjMt mjM_243 q pc = true := mjOk_of (N := 37) (fun pc h => by unfold mjCd_243; rw [h]; rfl) (by decide +kernel) hq
theorem mjN_243 : mjMOk mjM_243 = true := by decide +kernel
theorem mjK_244 {pc : Nat} {q : MjI} (hq : mjCd_244 pc = some q) : decode mjM_244.2.1 pc = .ok (q.1, q.2.1) ∧ mjOk mjMt mjM_244 q pc = true := mjOk_of (N := 30) (fun pc h => by unfold mjCd_244; rw [h]; rfl) (by decide +kernel) hq
theorem mjN_244 : mjMOk mjM_244 = true := by decide +kernel
theorem mjK_245 {pc : Nat} {q : MjI} (hq : mjCd_245 pc = some q) : decode mjM_245.2.1 pc = .ok (q.1, q.2.1) ∧ mjOk mjMt mjM_245 q pc = true := mjOk_of (N := 44) (fun pc h => by unfold mjCd_245; rw [h]; rfl) (by decide +kernel) hq
theorem mjN_245 : mjMOk mjM_245 = true := by decide +kernel
theorem mjK_246 {pc : Nat} {q : MjI} (hq : mjCd_246 pc = some q) : decode mjM_246.2.1 pc = .ok (q.1, q.2.1) ∧ mjOk mjMt mjM_246 q pc = true := mjOk_of (N := 99) (fun pc h => by unfold mjCd_246; rw [h]; rfl) (by decide +kernel) hq
theorem mjN_246 : mjMOk mjM_246 = true := by decide +kernel
theorem mjK_247_0 : (List.range' 0 60).all (mjAtOk mjM_247 mjCd_247) = true := by decide +kernel
theorem mjK_247_60 : (List.range' 60 60).all (mjAtOk mjM_247 mjCd_247) = true := by decide +kernel
theorem mjK_247_120 : (List.range' 120 60).all (mjAtOk mjM_247 mjCd_247) = true := by decide +kernel
theorem mjK_247_180 : (List.range' 180 41).all (mjAtOk mjM_247 mjCd_247) = true := by decide +kernel
theorem mjK_247 {pc : Nat} {q : MjI} (hq : mjCd_247 pc = some q) : decode mjM_247.2.1 pc = .ok (q.1, q.2.1) ∧ mjOk mjMt mjM_247 q pc = true := by
  refine mjOk_of (N := 221) (fun pc h => by unfold mjCd_247; rw [h]; rfl) ?_ hq
  rw [show List.range 221 = List.range' 0 60 ++ List.range' 60 60 ++ List.range' 120 60 ++ List.range' 180 41 from by decide +kernel]
  simp only [List.all_append, mjK_247_0, mjK_247_60, mjK_247_120, mjK_247_180, Bool.and_self]
theorem mjN_247 : mjMOk mjM_247 = true := by decide +kernel
theorem mjK_248 {pc : Nat} {q : MjI} (hq : mjCd_248 pc = some q) : decode mjM_248.2.1 pc = .ok (q.1, q.2.1) ∧ mjOk mjMt mjM_248 q pc = true := mjOk_of (N := 27) (fun pc h => by unfold mjCd_248; rw [h]; rfl) (by decide +kernel) hq
theorem mjN_248 : mjMOk mjM_248 = true := by decide +kernel
theorem mjK_249 {pc : Nat} {q : MjI} (hq : mjCd_249 pc = some q) : decode mjM_249.2.1 pc = .ok (q.1, q.2.1) ∧ mjOk mjMt mjM_249 q pc = true := mjOk_of (N := 20) (fun pc h => by unfold mjCd_249; rw [h]; rfl) (by decide +kernel) hq
theorem mjN_249 : mjMOk mjM_249 = true := by decide +kernel
theorem mjK_250_0 : (List.range' 0 60).all (mjAtOk mjM_250 mjCd_250) = true := by decide +kernel
theorem mjK_250_60 : (List.range' 60 60).all (mjAtOk mjM_250 mjCd_250) = true := by decide +kernel
theorem mjK_250_120 : (List.range' 120 3).all (mjAtOk mjM_250 mjCd_250) = true := by decide +kernel
theorem mjK_250 {pc : Nat} {q : MjI} (hq : mjCd_250 pc = some q) : decode mjM_250.2.1 pc = .ok (q.1, q.2.1) ∧ mjOk mjMt mjM_250 q pc = true := by
  refine mjOk_of (N := 123) (fun pc h => by unfold mjCd_250; rw [h]; rfl) ?_ hq
  rw [show List.range 123 = List.range' 0 60 ++ List.range' 60 60 ++ List.range' 120 3 from by decide +kernel]
  simp only [List.all_append, mjK_250_0, mjK_250_60, mjK_250_120, Bool.and_self]
theorem mjN_250 : mjMOk mjM_250 = true := by decide +kernel
theorem mjK_251 {pc : Nat} {q : MjI} (hq : mjCd_251 pc = some q) : decode mjM_251.2.1 pc = .ok (q.1, q.2.1) ∧ mjOk mjMt mjM_251 q pc = true := mjOk_of (N := 48) (fun pc h => by unfold mjCd_251; rw [h]; rfl) (by decide +kernel) hq
theorem mjN_251 : mjMOk mjM_251 = true := by decide +kernel
theorem mjK_252 {pc : Nat} {q : MjI} (hq : mjCd_252 pc = some q) : decode mjM_252.2.1 pc = .ok (q.1, q.2.1) ∧ mjOk mjMt mjM_252 q pc = true := mjOk_of (N := 31) (fun pc h => by unfold mjCd_252; rw [h]; rfl) (by decide +kernel) hq
theorem mjN_252 : mjMOk mjM_252 = true := by decide +kernel
theorem mjK_253 {pc : Nat} {q : MjI} (hq : mjCd_253 pc = some q) : decode mjM_253.2.1 pc = .ok (q.1, q.2.1) ∧ mjOk mjMt mjM_253 q pc = true := mjOk_of (N := 46) (fun pc h => by unfold mjCd_253; rw [h]; rfl) (by decide +kernel) hq
theorem mjN_253 : mjMOk mjM_253 = true := by decide +kernel
theorem mjK_254 {pc : Nat} {q : MjI} (hq : mjCd_254 pc = some q) : decode mjM_254.2.1 pc = .ok (q.1, q.2.1) ∧ mjOk mjMt mjM_254 q pc = true := mjOk_of (N := 65) (fun pc h => by unfold mjCd_254; rw [h]; rfl) (by decide +kernel) hq
theorem mjN_254 : mjMOk mjM_254 = true := by decide +kernel
theorem mjK_255 {pc : Nat} {q : MjI} (hq : mjCd_255 pc = some q) : decode mjM_255.2.1 pc = .ok (q.1, q.2.1) ∧ mjOk mjMt mjM_255 q pc = true := mjOk_of (N := 51) (fun pc h => by unfold mjCd_255; rw [h]; rfl) (by decide +kernel) hq
theorem mjN_255 : mjMOk mjM_255 = true := by decide +kernel
theorem mjK_256 {pc : Nat} {q : MjI} (hq : mjCd_256 pc = some q) : decode mjM_256.2.1 pc = .ok (q.1, q.2.1) ∧ mjOk mjMt mjM_256 q pc = true := mjOk_of (N := 22) (fun pc h => by unfold mjCd_256; rw [h]; rfl) (by decide +kernel) hq
theorem mjN_256 : mjMOk mjM_256 = true := by decide +kernel
theorem mjK_257 {pc : Nat} {q : MjI} (hq : mjCd_257 pc = some q) : decode mjM_257.2.1 pc = .ok (q.1, q.2.1) ∧ mjOk mjMt mjM_257 q pc = true := mjOk_of (N := 32) (fun pc h => by unfold mjCd_257; rw [h]; rfl) (by decide +kernel) hq
theorem mjN_257 : mjMOk mjM_257 = true := by decide +kernel
theorem mjK_258 {pc : Nat} {q : MjI} (hq : mjCd_258 pc = some q) : decode mjM_258.2.1 pc = .ok (q.1, q.2.1) ∧ mjOk mjMt mjM_258 q pc = true := mjOk_of (N := 25) (fun pc h => by unfold mjCd_258; rw [h]; rfl) (by decide +kernel) hq
theorem mjN_258 : mjMOk mjM_258 = true := by decide +kernel
theorem mjK_259 {pc : Nat} {q : MjI} (hq : mjCd_259 pc = some q) : decode mjM_259.2.1 pc = .ok (q.1, q.2.1) ∧ mjOk mjMt mjM_259 q pc = true := mjOk_of (N := 32) (fun pc h => by unfold mjCd_259; rw [h]; rfl) (by decide +kernel) hq
theorem mjN_259 : mjMOk mjM_259 = true := by decide +kernel
theorem mjK_260 {pc : Nat} {q : MjI} (hq : mjCd_260 pc = some q) : decode mjM_260.2.1 pc = .ok (q.1, q.2.1) ∧ mjOk mjMt mjM_260 q pc = true := mjOk_of (N := 59) (fun pc h => by unfold mjCd_260; rw [h]; rfl) (by decide +kernel) hq
theorem mjN_260 : mjMOk mjM_260 = true := by decide +kernel
theorem mjK_261 {pc : Nat} {q : MjI} (hq : mjCd_261 pc = some q) : decode mjM_261.2.1 pc = .ok (q.1, q.2.1) ∧ mjOk mjMt mjM_261 q pc = true := mjOk_of (N := 46) (fun pc h => by unfold mjCd_261; rw [h]; rfl) (by decide +kernel) hq
theorem mjN_261 : mjMOk mjM_261 = true := by decide +kernel
theorem mjK_262 {pc : Nat} {q : MjI} (hq : mjCd_262 pc = some q) : decode mjM_262.2.1 pc = .ok (q.1, q.2.1) ∧ mjOk mjMt mjM_262 q pc = true := mjOk_of (N := 35) (fun pc h => by unfold mjCd_262; rw [h]; rfl) (by decide +kernel) hq
theorem mjN_262 : mjMOk mjM_262 = true := by decide +kernel
theorem mjK_263 {pc : Nat} {q : MjI} (hq : mjCd_263 pc = some q) : decode mjM_263.2.1 pc = .ok (q.1, q.2.1) ∧ mjOk mjMt mjM_263 q pc = true := mjOk_of (N := 57) (fun pc h => by unfold mjCd_263; rw [h]; rfl) (by decide +kernel) hq
theorem mjN_263 : mjMOk mjM_263 = true := by decide +kernel
theorem mjK_264 {pc : Nat} {q : MjI} (hq : mjCd_264 pc = some q) : decode mjM_264.2.1 pc = .ok (q.1, q.2.1) ∧ mjOk mjMt mjM_264 q pc = true := mjOk_of (N := 35) (fun pc h => by unfold mjCd_264; rw [h]; rfl) (by decide +kernel) hq
theorem mjN_264 : mjMOk mjM_264 = true := by decide +kernel
theorem mjK_265 {pc : Nat} {q : MjI} (hq : mjCd_265 pc = some q) : decode mjM_265.2.1 pc = .ok (q.1, q.2.1) ∧ mjOk mjMt mjM_265 q pc = true := mjOk_of (N := 66) (fun pc h => by unfold mjCd_265; rw [h]; rfl) (by decide +kernel) hq
theorem mjN_265 : mjMOk mjM_265 = true := by decide +kernel
theorem mjK_266 {pc : Nat} {q : MjI} (hq : mjCd_266 pc = some q) : decode mjM_266.2.1 pc = .ok (q.1, q.2.1) ∧ mjOk mjMt mjM_266 q pc = true := mjOk_of (N := 27) (fun pc h => by unfold mjCd_266; rw [h]; rfl) (by decide +kernel) hq
theorem mjN_266 : mjMOk mjM_266 = true := by decide +kernel
theorem mjK_267 {pc : Nat} {q : MjI} (hq : mjCd_267 pc = some q) : decode mjM_267.2.1 pc = .ok (q.1, q.2.1) ∧ mjOk mjMt mjM_267 q pc = true := mjOk_of (N := 27) (fun pc h => by unfold mjCd_267; rw [h]; rfl) (by decide +kernel) hq
theorem mjN_267 : mjMOk mjM_267 = true := by decide +kernel
theorem mjK_268 {pc : Nat} {q : MjI} (hq : mjCd_268 pc = some q) : decode mjM_268.2.1 pc = .ok (q.1, q.2.1) ∧ mjOk mjMt mjM_268 q pc = true := mjOk_of (N := 45) (fun pc h => by unfold mjCd_268; rw [h]; rfl) (by decide +kernel) hq
theorem mjN_268 : mjMOk mjM_268 = true := by decide +kernel
theorem mjK_269 {pc : Nat} {q : MjI} (hq : mjCd_269 pc = some q) : decode mjM_269.2.1 pc = .ok (q.1, q.2.1) ∧ mjOk mjMt mjM_269 q pc = true := mjOk_of (N := 19) (fun pc h => by unfold mjCd_269; rw [h]; rfl) (by decide +kernel) hq
theorem mjN_269 : mjMOk mjM_269 = true := by decide +kernel
theorem mjK_270 {pc : Nat} {q : MjI} (hq : mjCd_270 pc = some q) : decode mjM_270.2.1 pc = .ok (q.1, q.2.1) ∧ mjOk mjMt mjM_270 q pc = true := mjOk_of (N := 20) (fun pc h => by unfold mjCd_270; rw [h]; rfl) (by decide +kernel) hq
theorem mjN_270 : mjMOk mjM_270 = true := by decide +kernel
theorem mjK_271 {pc : Nat} {q : MjI} (hq : mjCd_271 pc = some q) : decode mjM_271.2.1 pc = .ok (q.1, q.2.1) ∧ mjOk mjMt mjM_271 q pc = true := mjOk_of (N := 16) (fun pc h => by unfold mjCd_271; rw [h]; rfl) (by decide +kernel) hq
theorem mjN_271 : mjMOk mjM_271 = true := by decide +kernel
theorem mjK_272 {pc : Nat} {q : MjI} (hq : mjCd_272 pc = some q) : decode mjM_272.2.1 pc = .ok (q.1, q.2.1) ∧ mjOk mjMt mjM_272 q pc = true := mjOk_of (N := 10) (fun pc h => by unfold mjCd_272; rw [h]; rfl) (by decide +kernel) hq
theorem mjN_272 : mjMOk mjM_272 = true := by decide +kernel
theorem mjK_273 {pc : Nat} {q : MjI} (hq : mjCd_273 pc = some q) : decode mjM_273.2.1 pc = .ok (q.1, q.2.1) ∧ mjOk mjMt mjM_273 q pc = true := mjOk_of (N := 35) (fun pc h => by unfold mjCd_273; rw [h]; rfl) (by decide +kernel) hq
theorem mjN_273 : mjMOk mjM_273 = true := by decide +kernel
theorem mjK_274 {pc : Nat} {q : MjI} (hq : mjCd_274 pc = some q) : decode mjM_274.2.1 pc = .ok (q.1, q.2.1) ∧ mjOk mjMt mjM_274 q pc = true := mjOk_of (N := 18) (fun pc h => by unfold mjCd_274; rw [h]; rfl) (by decide +kernel) hq
theorem mjN_274 : mjMOk mjM_274 = true := by decide +kernel
theorem mjK_275 {pc : Nat} {q : MjI} (hq : mjCd_275 pc = some q) : decode mjM_275.2.1 pc = .ok (q.1, q.2.1) ∧ mjOk mjMt mjM_275 q pc = true := mjOk_of (N := 47) (fun pc h => by unfold mjCd_275; rw [h]; rfl) (by decide +kernel) hq
theorem mjN_275 : mjMOk mjM_275 = true := by decide +kernel
theorem mjK_276 {pc : Nat} {q : MjI} (hq : mjCd_276 pc = some q) : decode mjM_276.2.1 pc = .ok (q.1, q.2.1) ∧ mjOk mjMt mjM_276 q pc = true := mjOk_of (N := 50) (fun pc h => by unfold mjCd_276; rw [h]; rfl) (by decide +kernel) hq
theorem mjN_276 : mjMOk mjM_276 = true := by decide +kernel
