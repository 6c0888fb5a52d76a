theorem mjK_50_60 : (List.range' 60 60).all (mjAtOk mjM_50 mjCd_50) = true := by decide +kernel
theorem mjK_50_120 : (List.range' 120 45).all (mjAtOk mjM_50 mjCd_50) = true := by decide +kernel
theorem mjK_50 {pc : Nat} {q : MjI} (hq : mjCd_50 pc = some q) : decode mjM_50.2.1 pc = .ok (q.1, q.2.1) ∧ mjOk mjMt mjM_50 q pc = true := by
  refine mjOk_of (N := 165) (fun pc h => by unfold mjCd_50; rw [h]; rfl) ?_ hq
  rw [show List.range 165 = List.range' 0 60 ++ List.range' 60 60 ++ List.range' 120 45 from by decide +kernel]
  simp only [List.all_append, mjK_50_0, mjK_50_60, mjK_50_120, Bool.and_self]
theorem mjN_50 : mjMOk mjM_50 = true := by decide +kernel
theorem mjK_51 {pc : Nat} {q : MjI} (hq : mjCd_51 pc = some q) : decode mjM_51.2.1 pc = .ok (q.1, q.2.1) ∧ mjOk mjMt mjM_51 q pc = true := mjOk_of (N := 64) (fun pc h => by unfold mjCd_51; rw [h]; rfl) (by decide +kernel) hq
theorem mjN_51 : mjMOk mjM_51 = true := by decide +kernel
theorem mjK_52 {pc : Nat} {q : MjI} (hq : mjCd_52 pc = some q) : decode mjM_52.2.1 pc = .ok (q.1, q.2.1) ∧ mjOk mjMt mjM_52 q pc = true := mjOk_of (N := 28) (fun pc h => by unfold mjCd_52; rw [h]; rfl) (by decide +kernel) hq
theorem mjN_52 : mjMOk mjM_52 = true := by decide +kernel
theorem mjK_53 {pc : Nat} {q : MjI} (hq : mjCd_53 pc = some q) : decode mjM_53.2.1 pc = .ok (q.1, q.2.1) ∧ mjOk mjMt mjM_53 q pc = true := mjOk_of (N := 37) (fun pc h => by unfold mjCd_53; rw [h]; rfl) (by decide +kernel) hq
theorem mjN_53 : mjMOk mjM_53 = true := by decide +kernel
theorem mjK_54_0 : (List.range' 0 60).all (mjAtOk mjM_54 mjCd_54) = true := by decide +kernel
theorem mjK_54_60 : (List.range' 60 60).all (mjAtOk mjM_54 mjCd_54) = true := by decide +kernel
theorem mjK_54_120 : (List.range' 120 35).all (mjAtOk mjM_54 mjCd_54) = true := by decide +kernel
theorem mjK_54 {pc : Nat} {q : MjI} (hq : mjCd_54 pc = some q) : decode mjM_54.2.1 pc = .ok (q.1, q.2.1) ∧ mjOk mjMt mjM_54 q pc = true := by
  refine mjOk_of (N := 155) (fun pc h => by unfold mjCd_54; rw [h]; rfl) ?_ hq
  rw [show List.range 155 = List.range' 0 60 ++ List.range' 60 60 ++ List.range' 120 35 from by decide +kernel]
  simp only [List.all_append, mjK_54_0, mjK_54_60, mjK_54_120, Bool.and_self]
theorem mjN_54 : mjMOk mjM_54 = true := by decide +kernel
theorem mjK_55 {pc : Nat} {q : MjI} (hq : mjCd_55 pc = some q) : decode mjM_55.2.1 pc = .ok (q.1, q.2.1) ∧ mjOk mjMt mjM_55 q pc = true := mjOk_of (N := 65) (fun pc h => by unfold mjCd_55; rw [h]; rfl) (by decide +kernel) hq
theorem mjN_55 : mjMOk mjM_55 = true := by decide +kernel
theorem mjK_56_0 : (List.range' 0 60).all (mjAtOk mjM_56 mjCd_56) = true := by decide +kernel
theorem mjK_56_60 : (List.range' 60 60).all (mjAtOk mjM_56 mjCd_56) = true := by decide +kernel
theorem mjK_56_120 : (List.range' 120 39).all (mjAtOk mjM_56 mjCd_56) = true := by decide +kernel
theorem mjK_56 {pc : Nat} {q : MjI} (hq : mjCd_56 pc = some q) : decode mjM_56.2.1 pc = .ok (q.1, q.2.1) ∧ mjOk mjMt mjM_56 q pc = true := by
  refine mjOk_of (N := 159) (fun pc h => by unfold mjCd_56; rw [h]; rfl) ?_ hq
  rw [show List.range 159 = List.range' 0 60 ++ List.range' 60 60 ++ List.range' 120 39 from by decide +kernel]
  simp only [List.all_append, mjK_56_0, mjK_56_60, mjK_56_120, Bool.and_self]
theorem mjN_56 : mjMOk mjM_56 = true := by decide +kernel
theorem mjK_57_0 : (List.range' 0 60).all (mjAtOk mjM_57 mjCd_57) = true := by decide +kernel
theorem mjK_57_60 : (List.range' 60 60).all (mjAtOk mjM_57 mjCd_57) = true := by decide +kernel
theorem mjK_57_120 : (List.range' 120 60).all (mjAtOk mjM_57 mjCd_57) = true := by decide +kernel
theorem mjK_57_180 : (List.range' 180 47).all (mjAtOk mjM_57 mjCd_57) = true := by decide +kernel
theorem mjK_57 {pc : Nat} {q : MjI} (hq : mjCd_57 pc = some q) : decode mjM_57.2.1 pc = .ok (q.1, q.2.1) ∧ mjOk mjMt mjM_57 q pc = true := by
  refine mjOk_of (N := 227) (fun pc h => by unfold mjCd_57; rw [h]; rfl) ?_ hq
  rw [show List.range 227 = List.range' 0 60 ++ List.range' 60 60 ++ List.range' 120 60 ++ List.range' 180 47 from by decide +kernel]
  simp only [List.all_append, mjK_57_0, mjK_57_60, mjK_57_120, mjK_57_180, Bool.and_self]
theorem mjN_57 : mjMOk mjM_57 = true := by decide +kernel
theorem mjK_58 {pc : Nat} {q : MjI} (hq : mjCd_58 pc = some q) : decode mjM_58.2.1 pc = .ok (q.1, q.2.1) ∧ mjOk mjMt mjM_58 q pc = true := mjOk_of (N := 65) (fun pc h => by unfold mjCd_58; rw [h]; rfl) (by decide +kernel) hq
theorem mjN_58 : mjMOk mjM_58 = true := by decide +kernel
