theorem mjK_188_180 : (List.range' 180 60).all (mjAtOk mjM_188 mjCd_188) = true := by decide +kernel
theorem mjK_188_240 : (List.range' 240 50).all (mjAtOk mjM_188 mjCd_188) = true := by decide +kernel
theorem mjK_188 {pc : Nat} {q : MjI} (hq : mjCd_188 pc = some q) : decode mjM_188.2.1 pc = .ok (q.1, q.2.1) ∧ mjOk mjMt mjM_188 q pc = true := by
  refine mjOk_of (N := 290) (fun pc h => by unfold mjCd_188; rw [h]; rfl) ?_ hq
  rw [show List.range 290 = List.range' 0 60 ++ List.range' 60 60 ++ List.range' 120 60 ++ List.range' 180 60 ++ List.range' 240 50 from by decide +kernel]
  simp only [List.all_append, mjK_188_0, mjK_188_60, mjK_188_120, mjK_188_180, mjK_188_240, Bool.and_self]
theorem mjN_188 : mjMOk mjM_188 = true := by decide +kernel
theorem mjK_189_0 : (List.range' 0 60).all (mjAtOk mjM_189 mjCd_189) = true := by decide +kernel
theorem mjK_189_60 : (List.range' 60 60).all (mjAtOk mjM_189 mjCd_189) = true := by decide +kernel
theorem mjK_189_120 : (List.range' 120 60).all (mjAtOk mjM_189 mjCd_189) = true := by decide +kernel
theorem mjK_189_180 : (List.range' 180 60).all (mjAtOk mjM_189 mjCd_189) = true := by decide +kernel
theorem mjK_189_240 : (List.range' 240 33).all (mjAtOk mjM_189 mjCd_189) = true := by decide +kernel
theorem mjK_189 {pc : Nat} {q : MjI} (hq : mjCd_189 pc = some q) : decode mjM_189.2.1 pc = .ok (q.1, q.2.1) ∧ mjOk mjMt mjM_189 q pc = true := by
  refine mjOk_of (N := 273) (fun pc h => by unfold mjCd_189; rw [h]; rfl) ?_ hq
  rw [show List.range 273 = List.range' 0 60 ++ List.range' 60 60 ++ List.range' 120 60 ++ List.range' 180 60 ++ List.range' 240 33 from by decide +kernel]
  simp only [List.all_append, mjK_189_0, mjK_189_60, mjK_189_120, mjK_189_180, mjK_189_240, Bool.and_self]
theorem mjN_189 : mjMOk mjM_189 = true := by decide +kernel
theorem mjK_190 {pc : Nat} {q : MjI} (hq : mjCd_190 pc = some q) : decode mjM_190.2.1 pc = .ok (q.1, q.2.1) ∧ mjOk mjMt mjM_190 q pc = true := mjOk_of (N := 23) (fun pc h => by unfold mjCd_190; rw [h]; rfl) (by decide +kernel) hq
theorem mjN_190 : mjMOk mjM_190 = true := by decide +kernel
theorem mjK_191 {pc : Nat} {q : MjI} (hq : mjCd_191 pc = some q) : decode mjM_191.2.1 pc = .ok (q.1, q.2.1) ∧ mjOk mjMt mjM_191 q pc = true := mjOk_of (N := 15) (fun pc h => by unfold mjCd_191; rw [h]; rfl) (by decide +kernel) hq
theorem mjN_191 : mjMOk mjM_191 = true := by decide +kernel
theorem mjK_192 {pc : Nat} {q : MjI} (hq : mjCd_192 pc = some q) : decode mjM_192.2.1 pc = .ok (q.1, q.2.1) ∧ mjOk mjMt mjM_192 q pc = true := mjOk_of (N := 22) (fun pc h => by unfold mjCd_192; rw [h]; rfl) (by decide +kernel) hq
theorem mjN_192 : mjMOk mjM_192 = true := by decide +kernel
theorem mjK_193 {pc : Nat} {q : MjI} (hq : mjCd_193 pc = some q) : decode mjM_193.2.1 pc = .ok (q.1, q.2.1) ∧ mjOk mjMt mjM_193 q pc = true := mjOk_of (N := 19) (fun pc h => by unfold mjCd_193; rw [h]; rfl) (by decide +kernel) hq
theorem mjN_193 : mjMOk mjM_193 = true := by decide +kernel
theorem mjK_194 {pc : Nat} {q : MjI} (hq : mjCd_194 pc = some q) : decode mjM_194.2.1 pc = .ok (q.1, q.2.1) ∧ mjOk mjMt mjM_194 q pc = true := mjOk_of (N := 23) (fun pc h => by unfold mjCd_194; rw [h]; rfl) (by decide +kernel) hq
theorem mjN_194 : mjMOk mjM_194 = true := by decide +kernel
theorem mjK_195 {pc : Nat} {q : MjI} (hq : mjCd_195 pc = some q) : decode mjM_195.2.1 pc = .ok (q.1, q.2.1) ∧ mjOk mjMt mjM_195 q pc = true := mjOk_of (N := 120) (fun pc h => by unfold mjCd_195; rw [h]; rfl) (by decide +kernel) hq
theorem mjN_195 : mjMOk mjM_195 = true := by decide +kernel
theorem mjK_196 {pc : Nat} {q : MjI} (hq : mjCd_196 pc = some q) : decode mjM_196.2.1 pc = .ok (q.1, q.2.1) ∧ mjOk mjMt mjM_196 q pc = true := mjOk_of (N := 65) (fun pc h => by unfold mjCd_196; rw [h]; rfl) (by decide +kernel) hq
theorem mjN_196 : mjMOk mjM_196 = true := by decide +kernel
theorem mjK_197 {pc : Nat} {q : MjI} (hq : mjCd_197 pc = some q) : decode mjM_197.2.1 pc = .ok (q.1, q.2.1) ∧ mjOk mjMt mjM_197 q pc = true := mjOk_of (N := 18) (fun pc h => by unfold mjCd_197; rw [h]; rfl) (by decide +kernel) hq
theorem mjN_197 : mjMOk mjM_197 = true := by decide +kernel
theorem mjK_198 {pc : Nat} {q : MjI} (hq : mjCd_198 pc = some q) : decode mjM_198.2.1 pc = .ok (q.1, q.2.1) ∧ mjOk mjMt mjM_198 q pc = true := mjOk_of (N := 24) (fun pc h => by unfold mjCd_198; rw [h]; rfl) (by decide +kernel) hq
theorem mjN_198 : mjMOk mjM_198 = true := by decide +kernel
theorem mjK_199 {pc : Nat} {q : MjI} (hq : mjCd_199 pc = some q) : decode mjM_199.2.1 pc = .ok (q.1, q.2.1) ∧ mjOk mjMt mjM_199 q pc = true := mjOk_of (N := 91) (fun pc h => by unfold mjCd_199; rw [h]; rfl) (by decide +kernel) hq
theorem mjN_199 : mjMOk mjM_199 = true := by decide +kernel
