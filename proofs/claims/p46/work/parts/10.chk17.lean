theorem mjK_59 {pc : Nat} {q : MjI} (hq : mjCd_59 pc = some q) : decode mjM_59.2.1 pc = .ok (q.1, q.2.1) ∧ mjOk mjMt mjM_59 q pc = true := mjOk_of (N := 36) (fun pc h => by unfold mjCd_59; rw [h]; rfl) (by decide +kernel) hq
theorem mjN_59 : mjMOk mjM_59 = true := by decide +kernel
theorem mjK_60_0 : (List.range' 0 60).all (mjAtOk mjM_60 mjCd_60) = true := by decide +kernel
theorem mjK_60_60 : (List.range' 60 60).all (mjAtOk mjM_60 mjCd_60) = true := by decide +kernel
theorem mjK_60_120 : (List.range' 120 8).all (mjAtOk mjM_60 mjCd_60) = true := by decide +kernel
theorem mjK_60 {pc : Nat} {q : MjI} (hq : mjCd_60 pc = some q) : decode mjM_60.2.1 pc = .ok (q.1, q.2.1) ∧ mjOk mjMt mjM_60 q pc = true := by
  refine mjOk_of (N := 128) (fun pc h => by unfold mjCd_60; rw [h]; rfl) ?_ hq
  rw [show List.range 128 = List.range' 0 60 ++ List.range' 60 60 ++ List.range' 120 8 from by decide +kernel]
  simp only [List.all_append, mjK_60_0, mjK_60_60, mjK_60_120, Bool.and_self]
theorem mjN_60 : mjMOk mjM_60 = true := by decide +kernel
theorem mjK_61_0 : (List.range' 0 60).all (mjAtOk mjM_61 mjCd_61) = true := by decide +kernel
theorem mjK_61_60 : (List.range' 60 60).all (mjAtOk mjM_61 mjCd_61) = true := by decide +kernel
theorem mjK_61_120 : (List.range' 120 41).all (mjAtOk mjM_61 mjCd_61) = true := by decide +kernel
theorem mjK_61 {pc : Nat} {q : MjI} (hq : mjCd_61 pc = some q) : decode mjM_61.2.1 pc = .ok (q.1, q.2.1) ∧ mjOk mjMt mjM_61 q pc = true := by
  refine mjOk_of (N := 161) (fun pc h => by unfold mjCd_61; rw [h]; rfl) ?_ hq
  rw [show List.range 161 = List.range' 0 60 ++ List.range' 60 60 ++ List.range' 120 41 from by decide +kernel]
  simp only [List.all_append, mjK_61_0, mjK_61_60, mjK_61_120, Bool.and_self]
theorem mjN_61 : mjMOk mjM_61 = true := by decide +kernel
theorem mjK_62_0 : (List.range' 0 60).all (mjAtOk mjM_62 mjCd_62) = true := by decide +kernel
theorem mjK_62_60 : (List.range' 60 60).all (mjAtOk mjM_62 mjCd_62) = true := by decide +kernel
theorem mjK_62_120 : (List.range' 120 60).all (mjAtOk mjM_62 mjCd_62) = true := by decide +kernel
theorem mjK_62_180 : (List.range' 180 56).all (mjAtOk mjM_62 mjCd_62) = true := by decide +kernel
theorem mjK_62 {pc : Nat} {q : MjI} (hq : mjCd_62 pc = some q) : decode mjM_62.2.1 pc = .ok (q.1, q.2.1) ∧ mjOk mjMt mjM_62 q pc = true := by
  refine mjOk_of (N := 236) (fun pc h => by unfold mjCd_62; rw [h]; rfl) ?_ hq
  rw [show List.range 236 = List.range' 0 60 ++ List.range' 60 60 ++ List.range' 120 60 ++ List.range' 180 56 from by decide +kernel]
  simp only [List.all_append, mjK_62_0, mjK_62_60, mjK_62_120, mjK_62_180, Bool.and_self]
theorem mjN_62 : mjMOk mjM_62 = true := by decide +kernel
theorem mjK_63 {pc : Nat} {q : MjI} (hq : mjCd_63 pc = some q) : decode mjM_63.2.1 pc = .ok (q.1, q.2.1) ∧ mjOk mjMt mjM_63 q pc = true := mjOk_of (N := 24) (fun pc h => by unfold mjCd_63; rw [h]; rfl) (by decide +kernel) hq
theorem mjN_63 : mjMOk mjM_63 = true := by decide +kernel
theorem mjK_64 {pc : Nat} {q : MjI} (hq : mjCd_64 pc = some q) : decode mjM_64.2.1 pc = .ok (q.1, q.2.1) ∧ mjOk mjMt mjM_64 q pc = true := mjOk_of (N := 85) (fun pc h => by unfold mjCd_64; rw [h]; rfl) (by decide +kernel) hq
theorem mjN_64 : mjMOk mjM_64 = true := by decide +kernel
theorem mjK_65 {pc : Nat} {q : MjI} (hq : mjCd_65 pc = some q) : decode mjM_65.2.1 pc = .ok (q.1, q.2.1) ∧ mjOk mjMt mjM_65 q pc = true := mjOk_of (N := 11) (fun pc h => by unfold mjCd_65; rw [h]; rfl) (by decide +kernel) hq
theorem mjN_65 : mjMOk mjM_65 = true := by decide +kernel
theorem mjK_66 {pc : Nat} {q : MjI} (hq : mjCd_66 pc = some q) : decode mjM_66.2.1 pc = .ok (q.1, q.2.1) ∧ mjOk mjMt mjM_66 q pc = true := mjOk_of (N := 50) (fun pc h => by unfold mjCd_66; rw [h]; rfl) (by decide +kernel) hq
theorem mjN_66 : mjMOk mjM_66 = true := by decide +kernel
theorem mjK_67 {pc : Nat} {q : MjI} (hq : mjCd_67 pc = some q) : decode mjM_67.2.1 pc = .ok (q.1, q.2.1) ∧ mjOk mjMt mjM_67 q pc = true := mjOk_of (N := 115) (fun pc h => by unfold mjCd_67; rw [h]; rfl) (by decide +kernel) hq
theorem mjN_67 : mjMOk mjM_67 = true := by decide +kernel
theorem mjK_68 {pc : Nat} {q : MjI} (hq : mjCd_68 pc = some q) : decode mjM_68.2.1 pc = .ok (q.1, q.2.1) ∧ mjOk mjMt mjM_68 q pc = true := mjOk_of (N := 31) (fun pc h => by unfold mjCd_68; rw [h]; rfl) (by decide +kernel) hq
theorem mjN_68 : mjMOk mjM_68 = true := by decide +kernel
theorem mjK_69 {pc : Nat} {q : MjI} (hq : mjCd_69 pc = some q) : decode mjM_69.2.1 pc = .ok (q.1, q.2.1) ∧ mjOk mjMt mjM_69 q pc = true := mjOk_of (N := 24) (fun pc h => by unfold mjCd_69; rw [h]; rfl) (by decide +kernel) hq
theorem mjN_69 : mjMOk mjM_69 = true := by decide +kernel
theorem mjK_70 {pc : Nat} {q : MjI} (hq : mjCd_70 pc = some q) : decode mjM_70.2.1 pc = .ok (q.1, q.2.1) ∧ mjOk mjMt mjM_70 q pc = true := mjOk_of (N := 10) (fun pc h => by unfold mjCd_70; rw [h]; rfl) (by decide +kernel) hq
theorem mjN_70 : mjMOk mjM_70 = true := by decide +kernel
theorem mjK_71 {pc : Nat} {q : MjI} (hq : mjCd_71 pc = some q) : decode mjM_71.2.1 pc = .ok (q.1, q.2.1) ∧ mjOk mjMt mjM_71 q pc = true := mjOk_of (N := 23) (fun pc h => by unfold mjCd_71; rw [h]; rfl) (by decide +kernel) hq
theorem mjN_71 : mjMOk mjM_71 = true := by decide +kernel
theorem mjK_72 {pc : Nat} {q : MjI} (hq : mjCd_72 pc = some q) : decode mjM_72.2.1 pc = .ok (q.1, q.2.1) ∧ mjOk mjMt mjM_72 q pc = true := mjOk_of (N := 18) (fun pc h => by unfold mjCd_72; rw [h]; rfl) (by decide +kernel) hq
theorem mjN_72 : mjMOk mjM_72 = true := by decide +kernel
theorem mjK_73 {pc : Nat} {q : MjI} (hq : mjCd_73 pc = some q) : decode mjM_73.2.1 pc = .ok (q.1, q.2.1) ∧ mjOk mjMt mjM_73 q pc = true := mjOk_of (N := 36) (fun pc h => by unfold mjCd_73; rw [h]; rfl) (by decide +kernel) hq
theorem mjN_73 : mjMOk mjM_73 = true := by decide +kernel
theorem mjK_74 {pc : Nat} {q : MjI} (hq : mjCd_74 pc = some q) : decode mjM_74.2.1 pc = .ok (q.1, q.2.1) ∧ mjOk mjMt mjM_74 q pc = true := mjOk_of (N := 92) (fun pc h => by unfold mjCd_74; rw [h]; rfl) (by decide +kernel) hq
theorem mjN_74 : mjMOk mjM_74 = true := by decide +kernel
