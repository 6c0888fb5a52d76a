theorem mjK_291_120 : (List.range' 120 16).all (mjAtOk mjM_291 mjCd_291) = true := by decide +kernel
theorem mjK_291 {pc : Nat} {q : MjI} (hq : mjCd_291 pc = some q) : decode mjM_291.2.1 pc = .ok (q.1, q.2.1) ∧ mjOk mjMt mjM_291 q pc = true := by
  refine mjOk_of (N := 136) (fun pc h => by unfold mjCd_291; rw [h]; rfl) ?_ hq
  rw [show List.range 136 = List.range' 0 60 ++ List.range' 60 60 ++ List.range' 120 16 from by decide +kernel]
  simp only [List.all_append, mjK_291_0, mjK_291_60, mjK_291_120, Bool.and_self]
theorem mjN_291 : mjMOk mjM_291 = true := by decide +kernel
theorem mjK_292 {pc : Nat} {q : MjI} (hq : mjCd_292 pc = some q) : decode mjM_292.2.1 pc = .ok (q.1, q.2.1) ∧ mjOk mjMt mjM_292 q pc = true := mjOk_of (N := 50) (fun pc h => by unfold mjCd_292; rw [h]; rfl) (by decide +kernel) hq
theorem mjN_292 : mjMOk mjM_292 = true := by decide +kernel
theorem mjK_293_0 : (List.range' 0 60).all (mjAtOk mjM_293 mjCd_293) = true := by decide +kernel
theorem mjK_293_60 : (List.range' 60 60).all (mjAtOk mjM_293 mjCd_293) = true := by decide +kernel
theorem mjK_293_120 : (List.range' 120 60).all (mjAtOk mjM_293 mjCd_293) = true := by decide +kernel
theorem mjK_293_180 : (List.range' 180 48).all (mjAtOk mjM_293 mjCd_293) = true := by decide +kernel
theorem mjK_293 {pc : Nat} {q : MjI} (hq : mjCd_293 pc = some q) : decode mjM_293.2.1 pc = .ok (q.1, q.2.1) ∧ mjOk mjMt mjM_293 q pc = true := by
  refine mjOk_of (N := 228) (fun pc h => by unfold mjCd_293; rw [h]; rfl) ?_ hq
  rw [show List.range 228 = List.range' 0 60 ++ List.range' 60 60 ++ List.range' 120 60 ++ List.range' 180 48 from by decide +kernel]
  simp only [List.all_append, mjK_293_0, mjK_293_60, mjK_293_120, mjK_293_180, Bool.and_self]
theorem mjN_293 : mjMOk mjM_293 = true := by decide +kernel
theorem mjK_294 {pc : Nat} {q : MjI} (hq : mjCd_294 pc = some q) : decode mjM_294.2.1 pc = .ok (q.1, q.2.1) ∧ mjOk mjMt mjM_294 q pc = true := mjOk_of (N := 33) (fun pc h => by unfold mjCd_294; rw [h]; rfl) (by decide +kernel) hq
theorem mjN_294 : mjMOk mjM_294 = true := by decide +kernel
theorem mjK_295 {pc : Nat} {q : MjI} (hq : mjCd_295 pc = some q) : decode mjM_295.2.1 pc = .ok (q.1, q.2.1) ∧ mjOk mjMt mjM_295 q pc = true := mjOk_of (N := 60) (fun pc h => by unfold mjCd_295; rw [h]; rfl) (by decide +kernel) hq
theorem mjN_295 : mjMOk mjM_295 = true := by decide +kernel
theorem mjK_296 {pc : Nat} {q : MjI} (hq : mjCd_296 pc = some q) : decode mjM_296.2.1 pc = .ok (q.1, q.2.1) ∧ mjOk mjMt mjM_296 q pc = true := mjOk_of (N := 63) (fun pc h => by unfold mjCd_296; rw [h]; rfl) (by decide +kernel) hq
theorem mjN_296 : mjMOk mjM_296 = true := by decide +kernel
theorem mjK_297 {pc : Nat} {q : MjI} (hq : mjCd_297 pc = some q) : decode mjM_297.2.1 pc = .ok (q.1, q.2.1) ∧ mjOk mjMt mjM_297 q pc = true := mjOk_of (N := 23) (fun pc h => by unfold mjCd_297; rw [h]; rfl) (by decide +kernel) hq
theorem mjN_297 : mjMOk mjM_297 = true := by decide +kernel
theorem mjK_298 {pc : Nat} {q : MjI} (hq : mjCd_298 pc = some q) : decode mjM_298.2.1 pc = .ok (q.1, q.2.1) ∧ mjOk mjMt mjM_298 q pc = true := mjOk_of (N := 107) (fun pc h => by unfold mjCd_298; rw [h]; rfl) (by decide +kernel) hq
theorem mjN_298 : mjMOk mjM_298 = true := by decide +kernel
theorem mjK_299 {pc : Nat} {q : MjI} (hq : mjCd_299 pc = some q) : decode mjM_299.2.1 pc = .ok (q.1, q.2.1) ∧ mjOk mjMt mjM_299 q pc = true := mjOk_of (N := 37) (fun pc h => by unfold mjCd_299; rw [h]; rfl) (by decide +kernel) hq
theorem mjN_299 : mjMOk mjM_299 = true := by decide +kernel
theorem mjK_300 {pc : Nat} {q : MjI} (hq : mjCd_300 pc = some q) : decode mjM_300.2.1 pc = .ok (q.1, q.2.1) ∧ mjOk mjMt mjM_300 q pc = true := mjOk_of (N := 40) (fun pc h => by unfold mjCd_300; rw [h]; rfl) (by decide +kernel) hq
theorem mjN_300 : mjMOk mjM_300 = true := by decide +kernel
theorem mjK_301 {pc : Nat} {q : MjI} (hq : mjCd_301 pc = some q) : decode mjM_301.2.1 pc = .ok (q.1, q.2.1) ∧ mjOk mjMt mjM_301 q pc = true := mjOk_of (N := 39) (fun pc h => by unfold mjCd_301; rw [h]; rfl) (by decide +kernel) hq
theorem mjN_301 : mjMOk mjM_301 = true := by decide +kernel
theorem mjK_302 {pc : Nat} {q : MjI} (hq : mjCd_302 pc = some q) : decode mjM_302.2.1 pc = .ok (q.1, q.2.1) ∧ mjOk mjMt mjM_302 q pc = true := mjOk_of (N := 80) (fun pc h => by unfold mjCd_302; rw [h]; rfl) (by decide +kernel) hq
theorem mjN_302 : mjMOk mjM_302 = true := by decide +kernel
theorem mjK_303 {pc : Nat} {q : MjI} (hq : mjCd_303 pc = some q) : decode mjM_303.2.1 pc = .ok (q.1, q.2.1) ∧ mjOk mjMt mjM_303 q pc = true := mjOk_of (N := 81) (fun pc h => by unfold mjCd_303; rw [h]; rfl) (by decide +kernel) hq
theorem mjN_303 : mjMOk mjM_303 = true := by decide +kernel
theorem mjK_304 {pc : Nat} {q : MjI} (hq : mjCd_304 pc = some q) : decode mjM_304.2.1 pc = .ok (q.1, q.2.1) ∧ mjOk mjMt mjM_304 q pc = true := mjOk_of (N := 12) (fun pc h => by unfold mjCd_304; rw [h]; rfl) (by decide +kernel) hq
theorem mjN_304 : mjMOk mjM_304 = true := by decide +kernel
theorem mjK_305 {pc : Nat} {q : MjI} (hq : mjCd_305 pc = some q) : decode mjM_305.2.1 pc = .ok (q.1, q.2.1) ∧ mjOk mjMt mjM_305 q pc = true := mjOk_of (N := 56) (fun pc h => by unfold mjCd_305; rw [h]; rfl) (by decide +kernel) hq
theorem mjN_305 : mjMOk mjM_305 = true := by decide +kernel
theorem mjK_306 {pc : Nat} {q : MjI} (hq : mjCd_306 pc = some q) : decode mjM_306.2.1 pc = .ok (q.1, q.2.1) ∧ mjOk mjMt mjM_306 q pc = true := mjOk_of (N := 71) (fun pc h => by unfold mjCd_306; rw [h]; rfl) (by decide +kernel) hq
theorem mjN_306 : mjMOk mjM_306 = true := by decide +kernel
theorem mjK_307 {pc : Nat} {q : MjI} (hq : mjCd_307 pc = some q) : decode mjM_307.2.1 pc = .ok (q.1, q.2.1) ∧ mjOk mjMt mjM_307 q pc = true := mjOk_of (N := 93) (fun pc h => by unfold mjCd_307; rw [h]; rfl) (by decide +kernel) hq
theorem mjN_307 : mjMOk mjM_307 = true := by decide +kernel
theorem mjK_308 {pc : Nat} {q : MjI} (hq : mjCd_308 pc = some q) : decode mjM_308.2.1 pc = .ok (q.1, q.2.1) ∧ mjOk mjMt mjM_308 q pc = true := mjOk_of (N := 57) (fun pc h => by unfold mjCd_308; rw [h]; rfl) (by decide +kernel) hq
theorem mjN_308 : mjMOk mjM_308 = true := by decide +kernel
theorem mjK_309 {pc : Nat} {q : MjI} (hq : mjCd_309 pc = some q) : decode mjM_309.2.1 pc = .ok (q.1, q.2.1) ∧ mjOk mjMt mjM_309 q pc = true := mjOk_of (N := 69) (fun pc h => by unfold mjCd_309; rw [h]; rfl) (by decide +kernel) hq
theorem mjN_309 : mjMOk mjM_309 = true := by decide +kernel
theorem mjK_310_0 : (List.range' 0 60).all (mjAtOk mjM_310 mjCd_310) = true := by decide +kernel
