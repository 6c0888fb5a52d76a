theorem mjK_200 {pc : Nat} {q : MjI} (hq : mjCd_200 pc = some q) : decode mjM_200.2.1 pc = .ok (q.1, q.2.1) ∧ mjOk mjMt mjM_200 q pc = true := mjOk_of (N := 14) (fun pc h => by unfold mjCd_200; rw [h]; rfl) (by decide +kernel) hq
theorem mjN_200 : mjMOk mjM_200 = true := by decide +kernel
theorem mjK_201_0 : (List.range' 0 60).all (mjAtOk mjM_201 mjCd_201) = true := by decide +kernel
theorem mjK_201_60 : (List.range' 60 60).all (mjAtOk mjM_201 mjCd_201) = true := by decide +kernel
theorem mjK_201_120 : (List.range' 120 5).all (mjAtOk mjM_201 mjCd_201) = true := by decide +kernel
theorem mjK_201 {pc : Nat} {q : MjI} (hq : mjCd_201 pc = some q) : decode mjM_201.2.1 pc = .ok (q.1, q.2.1) ∧ mjOk mjMt mjM_201 q pc = true := by
  refine mjOk_of (N := 125) (fun pc h => by unfold mjCd_201; rw [h]; rfl) ?_ hq
  rw [show List.range 125 = List.range' 0 60 ++ List.range' 60 60 ++ List.range' 120 5 from by decide +kernel]
  simp only [List.all_append, mjK_201_0, mjK_201_60, mjK_201_120, Bool.and_self]
theorem mjN_201 : mjMOk mjM_201 = true := by decide +kernel
theorem mjK_202_0 : (List.range' 0 60).all (mjAtOk mjM_202 mjCd_202) = true := by decide +kernel
theorem mjK_202_60 : (List.range' 60 60).all (mjAtOk mjM_202 mjCd_202) = true := by decide +kernel
theorem mjK_202_120 : (List.range' 120 25).all (mjAtOk mjM_202 mjCd_202) = true := by decide +kernel
theorem mjK_202 {pc : Nat} {q : MjI} (hq : mjCd_202 pc = some q) : decode mjM_202.2.1 pc = .ok (q.1, q.2.1) ∧ mjOk mjMt mjM_202 q pc = true := by
  refine mjOk_of (N := 145) (fun pc h => by unfold mjCd_202; rw [h]; rfl) ?_ hq
  rw [show List.range 145 = List.range' 0 60 ++ List.range' 60 60 ++ List.range' 120 25 from by decide +kernel]
  simp only [List.all_append, mjK_202_0, mjK_202_60, mjK_202_120, Bool.and_self]
theorem mjN_202 : mjMOk mjM_202 = true := by decide +kernel
theorem mjK_203 {pc : Nat} {q : MjI} (hq : mjCd_203 pc = some q) : decode mjM_203.2.1 pc = .ok (q.1, q.2.1) ∧ mjOk mjMt mjM_203 q pc = true := mjOk_of (N := 42) (fun pc h => by unfold mjCd_203; rw [h]; rfl) (by decide +kernel) hq
theorem mjN_203 : mjMOk mjM_203 = true := by decide +kernel
theorem mjK_204 {pc : Nat} {q : MjI} (hq : mjCd_204 pc = some q) : decode mjM_204.2.1 pc = .ok (q.1, q.2.1) ∧ mjOk mjMt mjM_204 q pc = true := mjOk_of (N := 44) (fun pc h => by unfold mjCd_204; rw [h]; rfl) (by decide +kernel) hq
theorem mjN_204 : mjMOk mjM_204 = true := by decide +kernel
theorem mjK_205_0 : (List.range' 0 60).all (mjAtOk mjM_205 mjCd_205) = true := by decide +kernel
theorem mjK_205_60 : (List.range' 60 60).all (mjAtOk mjM_205 mjCd_205) = true := by decide +kernel
theorem mjK_205_120 : (List.range' 120 60).all (mjAtOk mjM_205 mjCd_205) = true := by decide +kernel
theorem mjK_205_180 : (List.range' 180 29).all (mjAtOk mjM_205 mjCd_205) = true := by decide +kernel
theorem mjK_205 {pc : Nat} {q : MjI} (hq : mjCd_205 pc = some q) : decode mjM_205.2.1 pc = .ok (q.1, q.2.1) ∧ mjOk mjMt mjM_205 q pc = true := by
  refine mjOk_of (N := 209) (fun pc h => by unfold mjCd_205; rw [h]; rfl) ?_ hq
  rw [show List.range 209 = List.range' 0 60 ++ List.range' 60 60 ++ List.range' 120 60 ++ List.range' 180 29 from by decide +kernel]
  simp only [List.all_append, mjK_205_0, mjK_205_60, mjK_205_120, mjK_205_180, Bool.and_self]
theorem mjN_205 : mjMOk mjM_205 = true := by decide +kernel
theorem mjK_206 {pc : Nat} {q : MjI} (hq : mjCd_206 pc = some q) : decode mjM_206.2.1 pc = .ok (q.1, q.2.1) ∧ mjOk mjMt mjM_206 q pc = true := mjOk_of (N := 49) (fun pc h => by unfold mjCd_206; rw [h]; rfl) (by decide +kernel) hq
theorem mjN_206 : mjMOk mjM_206 = true := by decide +kernel
theorem mjK_207 {pc : Nat} {q : MjI} (hq : mjCd_207 pc = some q) : decode mjM_207.2.1 pc = .ok (q.1, q.2.1) ∧ mjOk mjMt mjM_207 q pc = true := mjOk_of (N := 53) (fun pc h => by unfold mjCd_207; rw [h]; rfl) (by decide +kernel) hq
theorem mjN_207 : mjMOk mjM_207 = true := by decide +kernel
theorem mjK_208 {pc : Nat} {q : MjI} (hq : mjCd_208 pc = some q) : decode mjM_208.2.1 pc = .ok (q.1, q.2.1) ∧ mjOk mjMt mjM_208 q pc = true := mjOk_of (N := 31) (fun pc h => by unfold mjCd_208; rw [h]; rfl) (by decide +kernel) hq
theorem mjN_208 : mjMOk mjM_208 = true := by decide +kernel
theorem mjK_209_0 : (List.range' 0 60).all (mjAtOk mjM_209 mjCd_209) = true := by decide +kernel
theorem mjK_209_60 : (List.range' 60 60).all (mjAtOk mjM_209 mjCd_209) = true := by decide +kernel
theorem mjK_209_120 : (List.range' 120 60).all (mjAtOk mjM_209 mjCd_209) = true := by decide +kernel
