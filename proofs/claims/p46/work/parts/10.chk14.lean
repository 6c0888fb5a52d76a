theorem mjK_0 {pc : Nat} {q : MjI} (hq : mjCd_0 pc = some q) : decode mjM_0.2.1 pc = .ok (q.1, q.2.1) ∧ mjOk mjMt mjM_0 q pc = true := by
  refine mjOk_of (N := 1669) (fun pc h => by unfold mjCd_0; rw [h]; rfl) ?_ hq
  rw [show List.range 1669 = List.range' 0 60 ++ List.range' 60 60 ++ List.range' 120 60 ++ List.range' 180 60 ++ List.range' 240 60 ++ List.range' 300 60 ++ List.range' 360 60 ++ List.range' 420 60 ++ List.range' 480 60 ++ List.range' 540 60 ++ List.range' 600 60 ++ List.range' 660 60 ++ List.range' 720 60 ++ List.range' 780 60 ++ List.range' 840 60 ++ List.range' 900 60 ++ List.range' 960 60 ++ List.range' 1020 60 ++ List.range' 1080 60 ++ List.range' 1140 60 ++ List.range' 1200 60 ++ List.range' 1260 60 ++ List.range' 1320 60 ++ List.range' 1380 60 ++ List.range' 1440 60 ++ List.range' 1500 60 ++ List.range' 1560 60 ++ List.range' 1620 49 from by decide +kernel]
  simp only [List.all_append, mjK_0_0, mjK_0_60, mjK_0_120, mjK_0_180, mjK_0_240, mjK_0_300, mjK_0_360, mjK_0_420, mjK_0_480, mjK_0_540, mjK_0_600, mjK_0_660, mjK_0_720, mjK_0_780, mjK_0_840, mjK_0_900, mjK_0_960, mjK_0_1020, mjK_0_1080, mjK_0_1140, mjK_0_1200, mjK_0_1260, mjK_0_1320, mjK_0_1380, mjK_0_1440, mjK_0_1500, mjK_0_1560, mjK_0_1620, Bool.and_self]
theorem mjK_1_0 : (List.range' 0 60).all (mjAtOk mjM_1 mjCd_1) = true := by decide +kernel
theorem mjK_1_60 : (List.range' 60 60).all (mjAtOk mjM_1 mjCd_1) = true := by decide +kernel
theorem mjK_1_120 : (List.range' 120 20).all (mjAtOk mjM_1 mjCd_1) = true := by decide +kernel
theorem mjK_1 {pc : Nat} {q : MjI} (hq : mjCd_1 pc = some q) : decode mjM_1.2.1 pc = .ok (q.1, q.2.1) ∧ mjOk mjMt mjM_1 q pc = true := by
  refine mjOk_of (N := 140) (fun pc h => by unfold mjCd_1; rw [h]; rfl) ?_ hq
  rw [show List.range 140 = List.range' 0 60 ++ List.range' 60 60 ++ List.range' 120 20 from by decide +kernel]
  simp only [List.all_append, mjK_1_0, mjK_1_60, mjK_1_120, Bool.and_self]
theorem mjN_1 : mjMOk mjM_1 = true := by decide +kernel
theorem mjK_2 {pc : Nat} {q : MjI} (hq : mjCd_2 pc = some q) : decode mjM_2.2.1 pc = .ok (q.1, q.2.1) ∧ mjOk mjMt mjM_2 q pc = true := mjOk_of (N := 84) (fun pc h => by unfold mjCd_2; rw [h]; rfl) (by decide +kernel) hq
theorem mjN_2 : mjMOk mjM_2 = true := by decide +kernel
theorem mjK_3 {pc : Nat} {q : MjI} (hq : mjCd_3 pc = some q) : decode mjM_3.2.1 pc = .ok (q.1, q.2.1) ∧ mjOk mjMt mjM_3 q pc = true := mjOk_of (N := 31) (fun pc h => by unfold mjCd_3; rw [h]; rfl) (by decide +kernel) hq
theorem mjN_3 : mjMOk mjM_3 = true := by decide +kernel
theorem mjK_4 {pc : Nat} {q : MjI} (hq : mjCd_4 pc = some q) : decode mjM_4.2.1 pc = .ok (q.1, q.2.1) ∧ mjOk mjMt mjM_4 q pc = true := mjOk_of (N := 28) (fun pc h => by unfold mjCd_4; rw [h]; rfl) (by decide +kernel) hq
theorem mjN_4 : mjMOk mjM_4 = true := by decide +kernel
theorem mjK_5 {pc : Nat} {q : MjI} (hq : mjCd_5 pc = some q) : decode mjM_5.2.1 pc = .ok (q.1, q.2.1) ∧ mjOk mjMt mjM_5 q pc = true := mjOk_of (N := 53) (fun pc h => by unfold mjCd_5; rw [h]; rfl) (by decide +kernel) hq
theorem mjN_5 : mjMOk mjM_5 = true := by decide +kernel
theorem mjK_6 {pc : Nat} {q : MjI} (hq : mjCd_6 pc = some q) : decode mjM_6.2.1 pc = .ok (q.1, q.2.1) ∧ mjOk mjMt mjM_6 q pc = true := mjOk_of (N := 21) (fun pc h => by unfold mjCd_6; rw [h]; rfl) (by decide +kernel) hq
theorem mjN_6 : mjMOk mjM_6 = true := by decide +kernel
theorem mjK_7 {pc : Nat} {q : MjI} (hq : mjCd_7 pc = some q) : decode mjM_7.2.1 pc = .ok (q.1, q.2.1) ∧ mjOk mjMt mjM_7 q pc = true := mjOk_of (N := 15) (fun pc h => by unfold mjCd_7; rw [h]; rfl) (by decide +kernel) hq
theorem mjN_7 : mjMOk mjM_7 = true := by decide +kernel
theorem mjK_8 {pc : Nat} {q : MjI} (hq : mjCd_8 pc = some q) : decode mjM_8.2.1 pc = .ok (q.1, q.2.1) ∧ mjOk mjMt mjM_8 q pc = true := mjOk_of (N := 21) (fun pc h => by unfold mjCd_8; rw [h]; rfl) (by decide +kernel) hq
theorem mjN_8 : mjMOk mjM_8 = true := by decide +kernel
theorem mjK_9 {pc : Nat} {q : MjI} (hq : mjCd_9 pc = some q) : decode mjM_9.2.1 pc = .ok (q.1, q.2.1) ∧ mjOk mjMt mjM_9 q pc = true := mjOk_of (N := 50) (fun pc h => by unfold mjCd_9; rw [h]; rfl) (by decide +kernel) hq
theorem mjN_9 : mjMOk mjM_9 = true := by decide +kernel
theorem mjK_10 {pc : Nat} {q : MjI} (hq : mjCd_10 pc = some q) : decode mjM_10.2.1 pc = .ok (q.1, q.2.1) ∧ mjOk mjMt mjM_10 q pc = true := mjOk_of (N := 44) (fun pc h => by unfold mjCd_10; rw [h]; rfl) (by decide +kernel) hq
theorem mjN_10 : mjMOk mjM_10 = true := by decide +kernel
theorem mjK_11 {pc : Nat} {q : MjI} (hq : mjCd_11 pc = some q) : decode mjM_11.2.1 pc = .ok (q.1, q.2.1) ∧ mjOk mjMt mjM_11 q pc = true := mjOk_of (N := 54) (fun pc h => by unfold mjCd_11; rw [h]; rfl) (by decide +kernel) hq
theorem mjN_11 : mjMOk mjM_11 = true := by decide +kernel
theorem mjK_12 {pc : Nat} {q : MjI} (hq : mjCd_12 pc = some q) : decode mjM_12.2.1 pc = .ok (q.1, q.2.1) ∧ mjOk mjMt mjM_12 q pc = true := mjOk_of (N := 61) (fun pc h => by unfold mjCd_12; rw [h]; rfl) (by decide +kernel) hq
theorem mjN_12 : mjMOk mjM_12 = true := by decide +kernel
theorem mjK_13 {pc : Nat} {q : MjI} (hq : mjCd_13 pc = some q) : decode mjM_13.2.1 pc = .ok (q.1, q.2.1) ∧ mjOk mjMt mjM_13 q pc = true := mjOk_of (N := 41) (fun pc h => by unfold mjCd_13; rw [h]; rfl) (by decide +kernel) hq
theorem mjN_13 : mjMOk mjM_13 = true := by decide +kernel
theorem mjK_14 {pc : Nat} {q : MjI} (hq : mjCd_14 pc = some q) : decode mjM_14.2.1 pc = .ok (q.1, q.2.1) ∧ mjOk mjMt mjM_14 q pc = true := mjOk_of (N := 91) (fun pc h => by unfold mjCd_14; rw [h]; rfl) (by decide +kernel) hq
theorem mjN_14 : mjMOk mjM_14 = true := by decide +kernel
theorem mjK_15 {pc : Nat} {q : MjI} (hq : mjCd_15 pc = some q) : decode mjM_15.2.1 pc = .ok (q.1, q.2.1) ∧ mjOk mjMt mjM_15 q pc = true := mjOk_of (N := 11) (fun pc h => by unfold mjCd_15; rw [h]; rfl) (by decide +kernel) hq
theorem mjN_15 : mjMOk mjM_15 = true := by decide +kernel
theorem mjK_16 {pc : Nat} {q : MjI} (hq : mjCd_16 pc = some q) : decode mjM_16.2.1 pc = .ok (q.1, q.2.1) ∧ mjOk mjMt mjM_16 q pc = true := mjOk_of (N := 15) (fun pc h => by unfold mjCd_16; rw [h]; rfl) (by decide +kernel) hq
theorem mjN_16 : mjMOk mjM_16 = true := by decide +kernel
theorem mjK_17 {pc : Nat} {q : MjI} (hq : mjCd_17 pc = some q) : decode mjM_17.2.1 pc = .ok (q.1, q.2.1) ∧ mjOk mjMt mjM_17 q pc = true := mjOk_of (N := 25) (fun pc h => by unfold mjCd_17; rw [h]; rfl) (by decide +kernel) hq
theorem mjN_17 : mjMOk mjM_17 = true := by decide +kernel
theorem mjK_18 {pc : Nat} {q : MjI} (hq : mjCd_18 pc = some q) : decode mjM_18.2.1 pc = .ok (q.1, q.2.1) ∧ mjOk mjMt mjM_18 q pc = true := mjOk_of (N := 19) (fun pc h => by unfold mjCd_18; rw [h]; rfl) (by decide +kernel) hq
theorem mjN_18 : mjMOk mjM_18 = true := by decide +kernel
theorem mjK_19 {pc : Nat} {q : MjI} (hq : mjCd_19 pc = some q) : decode mjM_19.2.1 pc = .ok (q.1, q.2.1) ∧ mjOk mjMt mjM_19 q pc = true := mjOk_of (N := 15) (fun pc h => by unfold mjCd_19; rw [h]; rfl) (by decide +kernel) hq
theorem mjN_19 : mjMOk mjM_19 = true := by decide +kernel
theorem mjK_20 {pc : Nat} {q : MjI} (hq : mjCd_20 pc = some q) : decode mjM_20.2.1 pc = .ok (q.1, q.2.1) ∧ mjOk mjMt mjM_20 q pc = true := mjOk_of (N := 10) (fun pc h => by unfold mjCd_20; rw [h]; rfl) (by decide +kernel) hq
theorem mjN_20 : mjMOk mjM_20 = true := by decide +kernel
theorem mjK_21 {pc : Nat} {q : MjI} (hq : mjCd_21 pc = some q) : decode mjM_21.2.1 pc = .ok (q.1, q.2.1) ∧ mjOk mjMt mjM_21 q pc = true := mjOk_of (N := 18) (fun pc h => by unfold mjCd_21; rw [h]; rfl) (by decide +kernel) hq
theorem mjN_21 : mjMOk mjM_21 = true := by decide +kernel
theorem mjK_22 {pc : Nat} {q : MjI} (hq : mjCd_22 pc = some q) : decode mjM_22.2.1 pc = .ok (q.1, q.2.1) ∧ mjOk mjMt mjM_22 q pc = true := mjOk_of (N := 45) (fun pc h => by unfold mjCd_22; rw [h]; rfl) (by decide +kernel) hq
theorem mjN_22 : mjMOk mjM_22 = true := by decide +kernel
theorem mjK_23 {pc : Nat} {q : MjI} (hq : mjCd_23 pc = some q) : decode mjM_23.2.1 pc = .ok (q.1, q.2.1) ∧ mjOk mjMt mjM_23 q pc = true := mjOk_of (N := 47) (fun pc h => by unfold mjCd_23; rw [h]; rfl) (by decide +kernel) hq
theorem mjN_23 : mjMOk mjM_23 = true := by decide +kernel
theorem mjK_24 {pc : Nat} {q : MjI} (hq : mjCd_24 pc = some q) : decode mjM_24.2.1 pc = .ok (q.1, q.2.1) ∧ mjOk mjMt mjM_24 q pc = true := mjOk_of (N := 47) (fun pc h => by unfold mjCd_24; rw [h]; rfl) (by decide +kernel) hq
theorem mjN_24 : mjMOk mjM_24 = true := by decide +kernel
theorem mjK_25 {pc : Nat} {q : MjI} (hq : mjCd_25 pc = some q) : decode mjM_25.2.1 pc = .ok (q.1, q.2.1) ∧ mjOk mjMt mjM_25 q pc = true := mjOk_of (N := 21) (fun pc h => by unfold mjCd_25; rw [h]; rfl) (by decide +kernel) hq
theorem mjN_25 : mjMOk mjM_25 = true := by decide +kernel
theorem mjK_26 {pc : Nat} {q : MjI} (hq : mjCd_26 pc = some q) : decode mjM_26.2.1 pc = .ok (q.1, q.2.1) ∧ mjOk mjMt mjM_26 q pc = true := mjOk_of (N := 86) (fun pc h => by unfold mjCd_26; rw [h]; rfl) (by decide +kernel) hq
theorem mjN_26 : mjMOk mjM_26 = true := by decide +kernel
theorem mjK_27_0 : (List.range' 0 60).all (mjAtOk mjM_27 mjCd_27) = true := by decide +kernel
theorem mjK_27_60 : (List.range' 60 60).all (mjAtOk mjM_27 mjCd_27) = true := by decide +kernel
theorem mjK_27_120 : (List.range' 120 4).all (mjAtOk mjM_27 mjCd_27) = true := by decide +kernel
theorem mjK_27 {pc : Nat} {q : MjI} (hq : mjCd_27 pc = some q) : decode mjM_27.2.1 pc = .ok (q.1, q.2.1) ∧ mjOk mjMt mjM_27 q pc = true := by
  refine mjOk_of (N := 124) (fun pc h => by unfold mjCd_27; rw [h]; rfl) ?_ hq
  rw [show List.range 124 = List.range' 0 60 ++ List.range' 60 60 ++ List.range' 120 4 from by decide +kernel]
  simp only [List.all_append, mjK_27_0, mjK_27_60, mjK_27_120, Bool.and_self]
theorem mjN_27 : mjMOk mjM_27 = true := by decide +kernel
theorem mjK_28 {pc : Nat} {q : MjI} (hq : mjCd_28 pc = some q) : decode mjM_28.2.1 pc = .ok (q.1, q.2.1) ∧ mjOk mjMt mjM_28 q pc = true := mjOk_of (N := 43) (fun pc h => by unfold mjCd_28; rw [h]; rfl) (by decide +kernel) hq
theorem mjN_28 : mjMOk mjM_28 = true := by decide +kernel
theorem mjK_29 {pc : Nat} {q : MjI} (hq : mjCd_29 pc = some q) : decode mjM_29.2.1 pc = .ok (q.1, q.2.1) ∧ mjOk mjMt mjM_29 q pc = true := mjOk_of (N := 25) (fun pc h => by unfold mjCd_29; rw [h]; rfl) (by decide +kernel) hq
theorem mjN_29 : mjMOk mjM_29 = true := by decide +kernel
theorem mjK_30_0 : (List.range' 0 60).all (mjAtOk mjM_30 mjCd_30) = true := by decide +kernel
theorem mjK_30_60 : (List.range' 60 60).all (mjAtOk mjM_30 mjCd_30) = true := by decide +kernel
theorem mjK_30_120 : (List.range' 120 60).all (mjAtOk mjM_30 mjCd_30) = true := by decide +kernel
theorem mjK_30_180 : (List.range' 180 19).all (mjAtOk mjM_30 mjCd_30) = true := by decide +kernel
theorem mjK_30 {pc : Nat} {q : MjI} (hq : mjCd_30 pc = some q) : decode mjM_30.2.1 pc = .ok (q.1, q.2.1) ∧ mjOk mjMt mjM_30 q pc = true := by
  refine mjOk_of (N := 199) (fun pc h => by unfold mjCd_30; rw [h]; rfl) ?_ hq
  rw [show List.range 199 = List.range' 0 60 ++ List.range' 60 60 ++ List.range' 120 60 ++ List.range' 180 19 from by decide +kernel]
  simp only [List.all_append, mjK_30_0, mjK_30_60, mjK_30_120, mjK_30_180, Bool.and_self]
theorem mjN_30 : mjMOk mjM_30 = true := by decide +kernel
theorem mjK_31_0 : (List.range' 0 60).all (mjAtOk mjM_31 mjCd_31) = true := by decide +kernel
