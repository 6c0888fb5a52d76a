theorem mjK_75 {pc : Nat} {q : MjI} (hq : mjCd_75 pc = some q) : decode mjM_75.2.1 pc = .ok (q.1, q.2.1) ∧ mjOk mjMt mjM_75 q pc = true := mjOk_of (N := 82) (fun pc h => by unfold mjCd_75; rw [h]; rfl) (by decide +kernel) hq
theorem mjN_75 : mjMOk mjM_75 = true := by decide +kernel
theorem mjK_76_0 : (List.range' 0 60).all (mjAtOk mjM_76 mjCd_76) = true := by decide +kernel
theorem mjK_76_60 : (List.range' 60 60).all (mjAtOk mjM_76 mjCd_76) = true := by decide +kernel
theorem mjK_76_120 : (List.range' 120 21).all (mjAtOk mjM_76 mjCd_76) = true := by decide +kernel
theorem mjK_76 {pc : Nat} {q : MjI} (hq : mjCd_76 pc = some q) : decode mjM_76.2.1 pc = .ok (q.1, q.2.1) ∧ mjOk mjMt mjM_76 q pc = true := by
  refine mjOk_of (N := 141) (fun pc h => by unfold mjCd_76; rw [h]; rfl) ?_ hq
  rw [show List.range 141 = List.range' 0 60 ++ List.range' 60 60 ++ List.range' 120 21 from by decide +kernel]
  simp only [List.all_append, mjK_76_0, mjK_76_60, mjK_76_120, Bool.and_self]
theorem mjN_76 : mjMOk mjM_76 = true := by decide +kernel
theorem mjK_77_0 : (List.range' 0 60).all (mjAtOk mjM_77 mjCd_77) = true := by decide +kernel
theorem mjK_77_60 : (List.range' 60 60).all (mjAtOk mjM_77 mjCd_77) = true := by decide +kernel
theorem mjK_77_120 : (List.range' 120 58).all (mjAtOk mjM_77 mjCd_77) = true := by decide +kernel
theorem mjK_77 {pc : Nat} {q : MjI} (hq : mjCd_77 pc = some q) : decode mjM_77.2.1 pc = .ok (q.1, q.2.1) ∧ mjOk mjMt mjM_77 q pc = true := by
  refine mjOk_of (N := 178) (fun pc h => by unfold mjCd_77; rw [h]; rfl) ?_ hq
  rw [show List.range 178 = List.range' 0 60 ++ List.range' 60 60 ++ List.range' 120 58 from by decide +kernel]
  simp only [List.all_append, mjK_77_0, mjK_77_60, mjK_77_120, Bool.and_self]
theorem mjN_77 : mjMOk mjM_77 = true := by decide +kernel
theorem mjK_78_0 : (List.range' 0 60).all (mjAtOk mjM_78 mjCd_78) = true := by decide +kernel
theorem mjK_78_60 : (List.range' 60 60).all (mjAtOk mjM_78 mjCd_78) = true := by decide +kernel
theorem mjK_78_120 : (List.range' 120 47).all (mjAtOk mjM_78 mjCd_78) = true := by decide +kernel
theorem mjK_78 {pc : Nat} {q : MjI} (hq : mjCd_78 pc = some q) : decode mjM_78.2.1 pc = .ok (q.1, q.2.1) ∧ mjOk mjMt mjM_78 q pc = true := by
  refine mjOk_of (N := 167) (fun pc h => by unfold mjCd_78; rw [h]; rfl) ?_ hq
  rw [show List.range 167 = List.range' 0 60 ++ List.range' 60 60 ++ List.range' 120 47 from by decide +kernel]
  simp only [List.all_append, mjK_78_0, mjK_78_60, mjK_78_120, Bool.and_self]
theorem mjN_78 : mjMOk mjM_78 = true := by decide +kernel
theorem mjK_79 {pc : Nat} {q : MjI} (hq : mjCd_79 pc = some q) : decode mjM_79.2.1 pc = .ok (q.1, q.2.1) ∧ mjOk mjMt mjM_79 q pc = true := mjOk_of (N := 103) (fun pc h => by unfold mjCd_79; rw [h]; rfl) (by decide +kernel) hq
theorem mjN_79 : mjMOk mjM_79 = true := by decide +kernel
theorem mjK_80 {pc : Nat} {q : MjI} (hq : mjCd_80 pc = some q) : decode mjM_80.2.1 pc = .ok (q.1, q.2.1) ∧ mjOk mjMt mjM_80 q pc = true := mjOk_of (N := 23) (fun pc h => by unfold mjCd_80; rw [h]; rfl) (by decide +kernel) hq
theorem mjN_80 : mjMOk mjM_80 = true := by decide +kernel
theorem mjK_81 {pc : Nat} {q : MjI} (hq : mjCd_81 pc = some q) : decode mjM_81.2.1 pc = .ok (q.1, q.2.1) ∧ mjOk mjMt mjM_81 q pc = true := mjOk_of (N := 17) (fun pc h => by unfold mjCd_81; rw [h]; rfl) (by decide +kernel) hq
theorem mjN_81 : mjMOk mjM_81 = true := by decide +kernel
theorem mjK_82 {pc : Nat} {q : MjI} (hq : mjCd_82 pc = some q) : decode mjM_82.2.1 pc = .ok (q.1, q.2.1) ∧ mjOk mjMt mjM_82 q pc = true := mjOk_of (N := 120) (fun pc h => by unfold mjCd_82; rw [h]; rfl) (by decide +kernel) hq
theorem mjN_82 : mjMOk mjM_82 = true := by decide +kernel
theorem mjK_83 {pc : Nat} {q : MjI} (hq : mjCd_83 pc = some q) : decode mjM_83.2.1 pc = .ok (q.1, q.2.1) ∧ mjOk mjMt mjM_83 q pc = true := mjOk_of (N := 24) (fun pc h => by unfold mjCd_83; rw [h]; rfl) (by decide +kernel) hq
theorem mjN_83 : mjMOk mjM_83 = true := by decide +kernel
theorem mjK_84 {pc : Nat} {q : MjI} (hq : mjCd_84 pc = some q) : decode mjM_84.2.1 pc = .ok (q.1, q.2.1) ∧ mjOk mjMt mjM_84 q pc = true := mjOk_of (N := 17) (fun pc h => by unfold mjCd_84; rw [h]; rfl) (by decide +kernel) hq
theorem mjN_84 : mjMOk mjM_84 = true := by decide +kernel
theorem mjK_85 {pc : Nat} {q : MjI} (hq : mjCd_85 pc = some q) : decode mjM_85.2.1 pc = .ok (q.1, q.2.1) ∧ mjOk mjMt mjM_85 q pc = true := mjOk_of (N := 41) (fun pc h => by unfold mjCd_85; rw [h]; rfl) (by decide +kernel) hq
theorem mjN_85 : mjMOk mjM_85 = true := by decide +kernel
theorem mjK_86 {pc : Nat} {q : MjI} (hq : mjCd_86 pc = some q) : decode mjM_86.2.1 pc = .ok (q.1, q.2.1) ∧ mjOk mjMt mjM_86 q pc = true := mjOk_of (N := 67) (fun pc h => by unfold mjCd_86; rw [h]; rfl) (by decide +kernel) hq
theorem mjN_86 : mjMOk mjM_86 = true := by decide +kernel
theorem mjK_87 {pc : Nat} {q : MjI} (hq : mjCd_87 pc = some q) : decode mjM_87.2.1 pc = .ok (q.1, q.2.1) ∧ mjOk mjMt mjM_87 q pc = true := mjOk_of (N := 76) (fun pc h => by unfold mjCd_87; rw [h]; rfl) (by decide +kernel) hq
theorem mjN_87 : mjMOk mjM_87 = true := by decide +kernel
theorem mjK_88_0 : (List.range' 0 60).all (mjAtOk mjM_88 mjCd_88) = true := by decide +kernel
