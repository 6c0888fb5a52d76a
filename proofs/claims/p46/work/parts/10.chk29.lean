theorem mjK_209_180 : (List.range' 180 60).all (mjAtOk mjM_209 mjCd_209) = true := by decide +kernel
theorem mjK_209_240 : (List.range' 240 30).all (mjAtOk mjM_209 mjCd_209) = true := by decide +kernel
theorem mjK_209 {pc : Nat} {q : MjI} (hq : mjCd_209 pc = some q) : decode mjM_209.2.1 pc = .ok (q.1, q.2.1) ∧ mjOk mjMt mjM_209 q pc = true := by
  refine mjOk_of (N := 270) (fun pc h => by unfold mjCd_209; rw [h]; rfl) ?_ hq
  rw [show List.range 270 = List.range' 0 60 ++ List.range' 60 60 ++ List.range' 120 60 ++ List.range' 180 60 ++ List.range' 240 30 from by decide +kernel]
  simp only [List.all_append, mjK_209_0, mjK_209_60, mjK_209_120, mjK_209_180, mjK_209_240, Bool.and_self]
theorem mjN_209 : mjMOk mjM_209 = true := by decide +kernel
theorem mjK_210 {pc : Nat} {q : MjI} (hq : mjCd_210 pc = some q) : decode mjM_210.2.1 pc = .ok (q.1, q.2.1) ∧ mjOk mjMt mjM_210 q pc = true := mjOk_of (N := 26) (fun pc h => by unfold mjCd_210; rw [h]; rfl) (by decide +kernel) hq
theorem mjN_210 : mjMOk mjM_210 = true := by decide +kernel
theorem mjK_211 {pc : Nat} {q : MjI} (hq : mjCd_211 pc = some q) : decode mjM_211.2.1 pc = .ok (q.1, q.2.1) ∧ mjOk mjMt mjM_211 q pc = true := mjOk_of (N := 82) (fun pc h => by unfold mjCd_211; rw [h]; rfl) (by decide +kernel) hq
theorem mjN_211 : mjMOk mjM_211 = true := by decide +kernel
theorem mjK_212 {pc : Nat} {q : MjI} (hq : mjCd_212 pc = some q) : decode mjM_212.2.1 pc = .ok (q.1, q.2.1) ∧ mjOk mjMt mjM_212 q pc = true := mjOk_of (N := 31) (fun pc h => by unfold mjCd_212; rw [h]; rfl) (by decide +kernel) hq
theorem mjN_212 : mjMOk mjM_212 = true := by decide +kernel
theorem mjK_213_0 : (List.range' 0 60).all (mjAtOk mjM_213 mjCd_213) = true := by decide +kernel
theorem mjK_213_60 : (List.range' 60 60).all (mjAtOk mjM_213 mjCd_213) = true := by decide +kernel
theorem mjK_213_120 : (List.range' 120 60).all (mjAtOk mjM_213 mjCd_213) = true := by decide +kernel
theorem mjK_213_180 : (List.range' 180 13).all (mjAtOk mjM_213 mjCd_213) = true := by decide +kernel
theorem mjK_213 {pc : Nat} {q : MjI} (hq : mjCd_213 pc = some q) : decode mjM_213.2.1 pc = .ok (q.1, q.2.1) ∧ mjOk mjMt mjM_213 q pc = true := by
  refine mjOk_of (N := 193) (fun pc h => by unfold mjCd_213; rw [h]; rfl) ?_ hq
  rw [show List.range 193 = List.range' 0 60 ++ List.range' 60 60 ++ List.range' 120 60 ++ List.range' 180 13 from by decide +kernel]
  simp only [List.all_append, mjK_213_0, mjK_213_60, mjK_213_120, mjK_213_180, Bool.and_self]
theorem mjN_213 : mjMOk mjM_213 = true := by decide +kernel
theorem mjK_214 {pc : Nat} {q : MjI} (hq : mjCd_214 pc = some q) : decode mjM_214.2.1 pc = .ok (q.1, q.2.1) ∧ mjOk mjMt mjM_214 q pc = true := mjOk_of (N := 107) (fun pc h => by unfold mjCd_214; rw [h]; rfl) (by decide +kernel) hq
theorem mjN_214 : mjMOk mjM_214 = true := by decide +kernel
theorem mjK_215 {pc : Nat} {q : MjI} (hq : mjCd_215 pc = some q) : decode mjM_215.2.1 pc = .ok (q.1, q.2.1) ∧ mjOk mjMt mjM_215 q pc = true := mjOk_of (N := 50) (fun pc h => by unfold mjCd_215; rw [h]; rfl) (by decide +kernel) hq
theorem mjN_215 : mjMOk mjM_215 = true := by decide +kernel
theorem mjK_216 {pc : Nat} {q : MjI} (hq : mjCd_216 pc = some q) : decode mjM_216.2.1 pc = .ok (q.1, q.2.1) ∧ mjOk mjMt mjM_216 q pc = true := mjOk_of (N := 25) (fun pc h => by unfold mjCd_216; rw [h]; rfl) (by decide +kernel) hq
theorem mjN_216 : mjMOk mjM_216 = true := by decide +kernel
theorem mjK_217 {pc : Nat} {q : MjI} (hq : mjCd_217 pc = some q) : decode mjM_217.2.1 pc = .ok (q.1, q.2.1) ∧ mjOk mjMt mjM_217 q pc = true := mjOk_of (N := 90) (fun pc h => by unfold mjCd_217; rw [h]; rfl) (by decide +kernel) hq
theorem mjN_217 : mjMOk mjM_217 = true := by decide +kernel
theorem mjK_218 {pc : Nat} {q : MjI} (hq : mjCd_218 pc = some q) : decode mjM_218.2.1 pc = .ok (q.1, q.2.1) ∧ mjOk mjMt mjM_218 q pc = true := mjOk_of (N := 28) (fun pc h => by unfold mjCd_218; rw [h]; rfl) (by decide +kernel) hq
theorem mjN_218 : mjMOk mjM_218 = true := by decide +kernel
theorem mjK_219 {pc : Nat} {q : MjI} (hq : mjCd_219 pc = some q) : decode mjM_219.2.1 pc = .ok (q.1, q.2.1) ∧ mjOk mjMt mjM_219 q pc = true := mjOk_of (N := 12) (fun pc h => by unfold mjCd_219; rw [h]; rfl) (by decide +kernel) hq
theorem mjN_219 : mjMOk mjM_219 = true := by decide +kernel
theorem mjK_220 {pc : Nat} {q : MjI} (hq : mjCd_220 pc = some q) : decode mjM_220.2.1 pc = .ok (q.1, q.2.1) ∧ mjOk mjMt mjM_220 q pc = true := mjOk_of (N := 10) (fun pc h => by unfold mjCd_220; rw [h]; rfl) (by decide +kernel) hq
theorem mjN_220 : mjMOk mjM_220 = true := by decide +kernel
theorem mjK_221 {pc : Nat} {q : MjI} (hq : mjCd_221 pc = some q) : decode mjM_221.2.1 pc = .ok (q.1, q.2.1) ∧ mjOk mjMt mjM_221 q pc = true := mjOk_of (N := 16) (fun pc h => by unfold mjCd_221; rw [h]; rfl) (by decide +kernel) hq
theorem mjN_221 : mjMOk mjM_221 = true := by decide +kernel
theorem mjK_222 {pc : Nat} {q : MjI} (hq : mjCd_222 pc = some q) : decode mjM_222.2.1 pc = .ok (q.1, q.2.1) ∧ mjOk mjMt mjM_222 q pc = true := mjOk_of (N := 10) (fun pc h => by unfold mjCd_222; rw [h]; rfl) (by decide +kernel) hq
theorem mjN_222 : mjMOk mjM_222 = true := by decide +kernel
theorem mjK_223 {pc : Nat} {q : MjI} (hq : mjCd_223 pc = some q) : decode mjM_223.2.1 pc = .ok (q.1, q.2.1) ∧ mjOk mjMt mjM_223 q pc = true := mjOk_of (N := 13) (fun pc h => by unfold mjCd_223; rw [h]; rfl) (by decide +kernel) hq
theorem mjN_223 : mjMOk mjM_223 = true := by decide +kernel
theorem mjK_224 {pc : Nat} {q : MjI} (hq : mjCd_224 pc = some q) : decode mjM_224.2.1 pc = .ok (q.1, q.2.1) ∧ mjOk mjMt mjM_224 q pc = true := mjOk_of (N := 14) (fun pc h => by unfold mjCd_224; rw [h]; rfl) (by decide +kernel) hq
theorem mjN_224 : mjMOk mjM_224 = true := by decide +kernel
theorem mjK_225 {pc : Nat} {q : MjI} (hq : mjCd_225 pc = some q) : decode mjM_225.2.1 pc = .ok (q.1, q.2.1) ∧ mjOk mjMt mjM_225 q pc = true := mjOk_of (N := 92) (fun pc h => by unfold mjCd_225; rw [h]; rfl) (by decide +kernel) hq
theorem mjN_225 : mjMOk mjM_225 = true := by decide +kernel
theorem mjK_226 {pc : Nat} {q : MjI} (hq : mjCd_226 pc = some q) : decode mjM_226.2.1 pc = .ok (q.1, q.2.1) ∧ mjOk mjMt mjM_226 q pc = true := mjOk_of (N := 81) (fun pc h => by unfold mjCd_226; rw [h]; rfl) (by decide +kernel) hq
theorem mjN_226 : mjMOk mjM_226 = true := by decide +kernel
theorem mjK_227 {pc : Nat} {q : MjI} (hq : mjCd_227 pc = some q) : decode mjM_227.2.1 pc = .ok (q.1, q.2.1) ∧ mjOk mjMt mjM_227 q pc = true := mjOk_of (N := 15) (fun pc h => by unfold mjCd_227; rw [h]; rfl) (by decide +kernel) hq
theorem mjN_227 : mjMOk mjM_227 = true := by decide +kernel
theorem mjK_228 {pc : Nat} {q : MjI} (hq : mjCd_228 pc = some q) : decode mjM_228.2.1 pc = .ok (q.1, q.2.1) ∧ mjOk mjMt mjM_228 q pc = true := mjOk_of (N := 63) (fun pc h => by unfold mjCd_228; rw [h]; rfl) (by decide +kernel) hq
theorem mjN_228 : mjMOk mjM_228 = true := by decide +kernel
theorem mjK_229 {pc : Nat} {q : MjI} (hq : mjCd_229 pc = some q) : decode mjM_229.2.1 pc = .ok (q.1, q.2.1) ∧ mjOk mjMt mjM_229 q pc = true := mjOk_of (N := 20) (fun pc h => by unfold mjCd_229; rw [h]; rfl) (by decide +kernel) hq
theorem mjN_229 : mjMOk mjM_229 = true := by decide +kernel
theorem mjK_230_0 : (List.range' 0 60).all (mjAtOk mjM_230 mjCd_230) = true := by decide +kernel
theorem mjK_230_60 : (List.range' 60 60).all (mjAtOk mjM_230 mjCd_230) = true := by decide +kernel
