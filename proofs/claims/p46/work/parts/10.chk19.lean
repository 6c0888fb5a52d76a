theorem mjK_88_60 : (List.range' 60 60).all (mjAtOk mjM_88 mjCd_88) = true := by decide +kernel
theorem mjK_88_120 : (List.range' 120 60).all (mjAtOk mjM_88 mjCd_88) = true := by decide +kernel
theorem mjK_88_180 : (List.range' 180 46).all (mjAtOk mjM_88 mjCd_88) = true := by decide +kernel
theorem mjK_88 {pc : Nat} {q : MjI} (hq : mjCd_88 pc = some q) : decode mjM_88.2.1 pc = .ok (q.1, q.2.1) ∧ mjOk mjMt mjM_88 q pc = true := by
  refine mjOk_of (N := 226) (fun pc h => by unfold mjCd_88; rw [h]; rfl) ?_ hq
  rw [show List.range 226 = List.range' 0 60 ++ List.range' 60 60 ++ List.range' 120 60 ++ List.range' 180 46 from by decide +kernel]
  simp only [List.all_append, mjK_88_0, mjK_88_60, mjK_88_120, mjK_88_180, Bool.and_self]
theorem mjN_88 : mjMOk mjM_88 = true := by decide +kernel
theorem mjK_89 {pc : Nat} {q : MjI} (hq : mjCd_89 pc = some q) : decode mjM_89.2.1 pc = .ok (q.1, q.2.1) ∧ mjOk mjMt mjM_89 q pc = true := mjOk_of (N := 26) (fun pc h => by unfold mjCd_89; rw [h]; rfl) (by decide +kernel) hq
theorem mjN_89 : mjMOk mjM_89 = true := by decide +kernel
theorem mjK_90_0 : (List.range' 0 60).all (mjAtOk mjM_90 mjCd_90) = true := by decide +kernel
theorem mjK_90_60 : (List.range' 60 60).all (mjAtOk mjM_90 mjCd_90) = true := by decide +kernel
theorem mjK_90_120 : (List.range' 120 42).all (mjAtOk mjM_90 mjCd_90) = true := by decide +kernel
theorem mjK_90 {pc : Nat} {q : MjI} (hq : mjCd_90 pc = some q) : decode mjM_90.2.1 pc = .ok (q.1, q.2.1) ∧ mjOk mjMt mjM_90 q pc = true := by
  refine mjOk_of (N := 162) (fun pc h => by unfold mjCd_90; rw [h]; rfl) ?_ hq
  rw [show List.range 162 = List.range' 0 60 ++ List.range' 60 60 ++ List.range' 120 42 from by decide +kernel]
  simp only [List.all_append, mjK_90_0, mjK_90_60, mjK_90_120, Bool.and_self]
theorem mjN_90 : mjMOk mjM_90 = true := by decide +kernel
theorem mjK_91_0 : (List.range' 0 60).all (mjAtOk mjM_91 mjCd_91) = true := by decide +kernel
theorem mjK_91_60 : (List.range' 60 60).all (mjAtOk mjM_91 mjCd_91) = true := by decide +kernel
theorem mjK_91_120 : (List.range' 120 27).all (mjAtOk mjM_91 mjCd_91) = true := by decide +kernel
theorem mjK_91 {pc : Nat} {q : MjI} (hq : mjCd_91 pc = some q) : decode mjM_91.2.1 pc = .ok (q.1, q.2.1) ∧ mjOk mjMt mjM_91 q pc = true := by
  refine mjOk_of (N := 147) (fun pc h => by unfold mjCd_91; rw [h]; rfl) ?_ hq
  rw [show List.range 147 = List.range' 0 60 ++ List.range' 60 60 ++ List.range' 120 27 from by decide +kernel]
  simp only [List.all_append, mjK_91_0, mjK_91_60, mjK_91_120, Bool.and_self]
theorem mjN_91 : mjMOk mjM_91 = true := by decide +kernel
theorem mjK_92 {pc : Nat} {q : MjI} (hq : mjCd_92 pc = some q) : decode mjM_92.2.1 pc = .ok (q.1, q.2.1) ∧ mjOk mjMt mjM_92 q pc = true := mjOk_of (N := 33) (fun pc h => by unfold mjCd_92; rw [h]; rfl) (by decide +kernel) hq
theorem mjN_92 : mjMOk mjM_92 = true := by decide +kernel
theorem mjK_93 {pc : Nat} {q : MjI} (hq : mjCd_93 pc = some q) : decode mjM_93.2.1 pc = .ok (q.1, q.2.1) ∧ mjOk mjMt mjM_93 q pc = true := mjOk_of (N := 14) (fun pc h => by unfold mjCd_93; rw [h]; rfl) (by decide +kernel) hq
theorem mjN_93 : mjMOk mjM_93 = true := by decide +kernel
theorem mjK_94 {pc : Nat} {q : MjI} (hq : mjCd_94 pc = some q) : decode mjM_94.2.1 pc = .ok (q.1, q.2.1) ∧ mjOk mjMt mjM_94 q pc = true := mjOk_of (N := 43) (fun pc h => by unfold mjCd_94; rw [h]; rfl) (by decide +kernel) hq
theorem mjN_94 : mjMOk mjM_94 = true := by decide +kernel
theorem mjK_95 {pc : Nat} {q : MjI} (hq : mjCd_95 pc = some q) : decode mjM_95.2.1 pc = .ok (q.1, q.2.1) ∧ mjOk mjMt mjM_95 q pc = true := mjOk_of (N := 68) (fun pc h => by unfold mjCd_95; rw [h]; rfl) (by decide +kernel) hq
theorem mjN_95 : mjMOk mjM_95 = true := by decide +kernel
theorem mjK_96 {pc : Nat} {q : MjI} (hq : mjCd_96 pc = some q) : decode mjM_96.2.1 pc = .ok (q.1, q.2.1) ∧ mjOk mjMt mjM_96 q pc = true := mjOk_of (N := 36) (fun pc h => by unfold mjCd_96; rw [h]; rfl) (by decide +kernel) hq
theorem mjN_96 : mjMOk mjM_96 = true := by decide +kernel
theorem mjK_97 {pc : Nat} {q : MjI} (hq : mjCd_97 pc = some q) : decode mjM_97.2.1 pc = .ok (q.1, q.2.1) ∧ mjOk mjMt mjM_97 q pc = true := mjOk_of (N := 73) (fun pc h => by unfold mjCd_97; rw [h]; rfl) (by decide +kernel) hq
theorem mjN_97 : mjMOk mjM_97 = true := by decide +kernel
theorem mjK_98 {pc : Nat} {q : MjI} (hq : mjCd_98 pc = some q) : decode mjM_98.2.1 pc = .ok (q.1, q.2.1) ∧ mjOk mjMt mjM_98 q pc = true := mjOk_of (N := 65) (fun pc h => by unfold mjCd_98; rw [h]; rfl) (by decide +kernel) hq
theorem mjN_98 : mjMOk mjM_98 = true := by decide +kernel
theorem mjK_99 {pc : Nat} {q : MjI} (hq : mjCd_99 pc = some q) : decode mjM_99.2.1 pc = .ok (q.1, q.2.1) ∧ mjOk mjMt mjM_99 q pc = true := mjOk_of (N := 53) (fun pc h => by unfold mjCd_99; rw [h]; rfl) (by decide +kernel) hq
theorem mjN_99 : mjMOk mjM_99 = true := by decide +kernel
theorem mjK_100 {pc : Nat} {q : MjI} (hq : mjCd_100 pc = some q) : decode mjM_100.2.1 pc = .ok (q.1, q.2.1) ∧ mjOk mjMt mjM_100 q pc = true := mjOk_of (N := 52) (fun pc h => by unfold mjCd_100; rw [h]; rfl) (by decide +kernel) hq
theorem mjN_100 : mjMOk mjM_100 = true := by decide +kernel
theorem mjK_101 {pc : Nat} {q : MjI} (hq : mjCd_101 pc = some q) : decode mjM_101.2.1 pc = .ok (q.1, q.2.1) ∧ mjOk mjMt mjM_101 q pc = true := mjOk_of (N := 54) (fun pc h => by unfold mjCd_101; rw [h]; rfl) (by decide +kernel) hq
theorem mjN_101 : mjMOk mjM_101 = true := by decide +kernel
theorem mjK_102 {pc : Nat} {q : MjI} (hq : mjCd_102 pc = some q) : decode mjM_102.2.1 pc = .ok (q.1, q.2.1) ∧ mjOk mjMt mjM_102 q pc = true := mjOk_of (N := 70) (fun pc h => by unfold mjCd_102; rw [h]; rfl) (by decide +kernel) hq
theorem mjN_102 : mjMOk mjM_102 = true := by decide +kernel
theorem mjK_103 {pc : Nat} {q : MjI} (hq : mjCd_103 pc = some q) : decode mjM_103.2.1 pc = .ok (q.1, q.2.1) ∧ mjOk mjMt mjM_103 q pc = true := mjOk_of (N := 57) (fun pc h => by unfold mjCd_103; rw [h]; rfl) (by decide +kernel) hq
theorem mjN_103 : mjMOk mjM_103 = true := by decide +kernel
theorem mjK_104 {pc : Nat} {q : MjI} (hq : mjCd_104 pc = some q) : decode mjM_104.2.1 pc = .ok (q.1, q.2.1) ∧ mjOk mjMt mjM_104 q pc = true := mjOk_of (N := 8) (fun pc h => by unfold mjCd_104; rw [h]; rfl) (by decide +kernel) hq
theorem mjN_104 : mjMOk mjM_104 = true := by decide +kernel
theorem mjK_105 {pc : Nat} {q : MjI} (hq : mjCd_105 pc = some q) : decode mjM_105.2.1 pc = .ok (q.1, q.2.1) ∧ mjOk mjMt mjM_105 q pc = true := mjOk_of (N := 53) (fun pc h => by unfold mjCd_105; rw [h]; rfl) (by decide +kernel) hq
theorem mjN_105 : mjMOk mjM_105 = true := by decide +kernel
theorem mjK_106 {pc : Nat} {q : MjI} (hq : mjCd_106 pc = some q) : decode mjM_106.2.1 pc = .ok (q.1, q.2.1) ∧ mjOk mjMt mjM_106 q pc = true := mjOk_of (N := 8) (fun pc h => by unfold mjCd_106; rw [h]; rfl) (by decide +kernel) hq
theorem mjN_106 : mjMOk mjM_106 = true := by decide +kernel
theorem mjK_107 {pc : Nat} {q : MjI} (hq : mjCd_107 pc = some q) : decode mjM_107.2.1 pc = .ok (q.1, q.2.1) ∧ mjOk mjMt mjM_107 q pc = true := mjOk_of (N := 54) (fun pc h => by unfold mjCd_107; rw [h]; rfl) (by decide +kernel) hq
theorem mjN_107 : mjMOk mjM_107 = true := by decide +kernel
theorem mjK_108 {pc : Nat} {q : MjI} (hq : mjCd_108 pc = some q) : decode mjM_108.2.1 pc = .ok (q.1, q.2.1) ∧ mjOk mjMt mjM_108 q pc = true := mjOk_of (N := 75) (fun pc h => by unfold mjCd_108; rw [h]; rfl) (by decide +kernel) hq
theorem mjN_108 : mjMOk mjM_108 = true := by decide +kernel
