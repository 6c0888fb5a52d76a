theorem mjK_31_60 : (List.range' 60 60).all (mjAtOk mjM_31 mjCd_31) = true := by decide +kernel
theorem mjK_31_120 : (List.range' 120 41).all (mjAtOk mjM_31 mjCd_31) = true := by decide +kernel
theorem mjK_31 {pc : Nat} {q : MjI} (hq : mjCd_31 pc = some q) : decode mjM_31.2.1 pc = .ok (q.1, q.2.1) ∧ mjOk mjMt mjM_31 q pc = true := by
  refine mjOk_of (N := 161) (fun pc h => by unfold mjCd_31; rw [h]; rfl) ?_ hq
  rw [show List.range 161 = List.range' 0 60 ++ List.range' 60 60 ++ List.range' 120 41 from by decide +kernel]
  simp only [List.all_append, mjK_31_0, mjK_31_60, mjK_31_120, Bool.and_self]
theorem mjN_31 : mjMOk mjM_31 = true := by decide +kernel
theorem mjK_32_0 : (List.range' 0 60).all (mjAtOk mjM_32 mjCd_32) = true := by decide +kernel
theorem mjK_32_60 : (List.range' 60 60).all (mjAtOk mjM_32 mjCd_32) = true := by decide +kernel
theorem mjK_32_120 : (List.range' 120 46).all (mjAtOk mjM_32 mjCd_32) = true := by decide +kernel
theorem mjK_32 {pc : Nat} {q : MjI} (hq : mjCd_32 pc = some q) : decode mjM_32.2.1 pc = .ok (q.1, q.2.1) ∧ mjOk mjMt mjM_32 q pc = true := by
  refine mjOk_of (N := 166) (fun pc h => by unfold mjCd_32; rw [h]; rfl) ?_ hq
  rw [show List.range 166 = List.range' 0 60 ++ List.range' 60 60 ++ List.range' 120 46 from by decide +kernel]
  simp only [List.all_append, mjK_32_0, mjK_32_60, mjK_32_120, Bool.and_self]
theorem mjN_32 : mjMOk mjM_32 = true := by decide +kernel
theorem mjK_33 {pc : Nat} {q : MjI} (hq : mjCd_33 pc = some q) : decode mjM_33.2.1 pc = .ok (q.1, q.2.1) ∧ mjOk mjMt mjM_33 q pc = true := mjOk_of (N := 7) (fun pc h => by unfold mjCd_33; rw [h]; rfl) (by decide +kernel) hq
theorem mjN_33 : mjMOk mjM_33 = true := by decide +kernel
theorem mjK_34 {pc : Nat} {q : MjI} (hq : mjCd_34 pc = some q) : decode mjM_34.2.1 pc = .ok (q.1, q.2.1) ∧ mjOk mjMt mjM_34 q pc = true := mjOk_of (N := 37) (fun pc h => by unfold mjCd_34; rw [h]; rfl) (by decide +kernel) hq
theorem mjN_34 : mjMOk mjM_34 = true := by decide +kernel
theorem mjK_35 {pc : Nat} {q : MjI} (hq : mjCd_35 pc = some q) : decode mjM_35.2.1 pc = .ok (q.1, q.2.1) ∧ mjOk mjMt mjM_35 q pc = true := mjOk_of (N := 37) (fun pc h => by unfold mjCd_35; rw [h]; rfl) (by decide +kernel) hq
theorem mjN_35 : mjMOk mjM_35 = true := by decide +kernel
theorem mjK_36 {pc : Nat} {q : MjI} (hq : mjCd_36 pc = some q) : decode mjM_36.2.1 pc = .ok (q.1, q.2.1) ∧ mjOk mjMt mjM_36 q pc = true := mjOk_of (N := 17) (fun pc h => by unfold mjCd_36; rw [h]; rfl) (by decide +kernel) hq
theorem mjN_36 : mjMOk mjM_36 = true := by decide +kernel
theorem mjK_37 {pc : Nat} {q : MjI} (hq : mjCd_37 pc = some q) : decode mjM_37.2.1 pc = .ok (q.1, q.2.1) ∧ mjOk mjMt mjM_37 q pc = true := mjOk_of (N := 33) (fun pc h => by unfold mjCd_37; rw [h]; rfl) (by decide +kernel) hq
theorem mjN_37 : mjMOk mjM_37 = true := by decide +kernel
theorem mjK_38_0 : (List.range' 0 60).all (mjAtOk mjM_38 mjCd_38) = true := by decide +kernel
theorem mjK_38_60 : (List.range' 60 60).all (mjAtOk mjM_38 mjCd_38) = true := by decide +kernel
theorem mjK_38_120 : (List.range' 120 50).all (mjAtOk mjM_38 mjCd_38) = true := by decide +kernel
theorem mjK_38 {pc : Nat} {q : MjI} (hq : mjCd_38 pc = some q) : decode mjM_38.2.1 pc = .ok (q.1, q.2.1) ∧ mjOk mjMt mjM_38 q pc = true := by
  refine mjOk_of (N := 170) (fun pc h => by unfold mjCd_38; rw [h]; rfl) ?_ hq
  rw [show List.range 170 = List.range' 0 60 ++ List.range' 60 60 ++ List.range' 120 50 from by decide +kernel]
  simp only [List.all_append, mjK_38_0, mjK_38_60, mjK_38_120, Bool.and_self]
theorem mjN_38 : mjMOk mjM_38 = true := by decide +kernel
theorem mjK_39 {pc : Nat} {q : MjI} (hq : mjCd_39 pc = some q) : decode mjM_39.2.1 pc = .ok (q.1, q.2.1) ∧ mjOk mjMt mjM_39 q pc = true := mjOk_of (N := 88) (fun pc h => by unfold mjCd_39; rw [h]; rfl) (by decide +kernel) hq
theorem mjN_39 : mjMOk mjM_39 = true := by decide +kernel
theorem mjK_40 {pc : Nat} {q : MjI} (hq : mjCd_40 pc = some q) : decode mjM_40.2.1 pc = .ok (q.1, q.2.1) ∧ mjOk mjMt mjM_40 q pc = true := mjOk_of (N := 98) (fun pc h => by unfold mjCd_40; rw [h]; rfl) (by decide +kernel) hq
theorem mjN_40 : mjMOk mjM_40 = true := by decide +kernel
theorem mjK_41 {pc : Nat} {q : MjI} (hq : mjCd_41 pc = some q) : decode mjM_41.2.1 pc = .ok (q.1, q.2.1) ∧ mjOk mjMt mjM_41 q pc = true := mjOk_of (N := 71) (fun pc h => by unfold mjCd_41; rw [h]; rfl) (by decide +kernel) hq
theorem mjN_41 : mjMOk mjM_41 = true := by decide +kernel
theorem mjK_42 {pc : Nat} {q : MjI} (hq : mjCd_42 pc = some q) : decode mjM_42.2.1 pc = .ok (q.1, q.2.1) ∧ mjOk mjMt mjM_42 q pc = true := mjOk_of (N := 28) (fun pc h => by unfold mjCd_42; rw [h]; rfl) (by decide +kernel) hq
theorem mjN_42 : mjMOk mjM_42 = true := by decide +kernel
theorem mjK_43 {pc : Nat} {q : MjI} (hq : mjCd_43 pc = some q) : decode mjM_43.2.1 pc = .ok (q.1, q.2.1) ∧ mjOk mjMt mjM_43 q pc = true := mjOk_of (N := 12) (fun pc h => by unfold mjCd_43; rw [h]; rfl) (by decide +kernel) hq
theorem mjN_43 : mjMOk mjM_43 = true := by decide +kernel
theorem mjK_44 {pc : Nat} {q : MjI} (hq : mjCd_44 pc = some q) : decode mjM_44.2.1 pc = .ok (q.1, q.2.1) ∧ mjOk mjMt mjM_44 q pc = true := mjOk_of (N := 22) (fun pc h => by unfold mjCd_44; rw [h]; rfl) (by decide +kernel) hq
theorem mjN_44 : mjMOk mjM_44 = true := by decide +kernel
theorem mjK_45 {pc : Nat} {q : MjI} (hq : mjCd_45 pc = some q) : decode mjM_45.2.1 pc = .ok (q.1, q.2.1) ∧ mjOk mjMt mjM_45 q pc = true := mjOk_of (N := 28) (fun pc h => by unfold mjCd_45; rw [h]; rfl) (by decide +kernel) hq
theorem mjN_45 : mjMOk mjM_45 = true := by decide +kernel
theorem mjK_46 {pc : Nat} {q : MjI} (hq : mjCd_46 pc = some q) : decode mjM_46.2.1 pc = .ok (q.1, q.2.1) ∧ mjOk mjMt mjM_46 q pc = true := mjOk_of (N := 69) (fun pc h => by unfold mjCd_46; rw [h]; rfl) (by decide +kernel) hq
theorem mjN_46 : mjMOk mjM_46 = true := by decide +kernel
theorem mjK_47 {pc : Nat} {q : MjI} (hq : mjCd_47 pc = some q) : decode mjM_47.2.1 pc = .ok (q.1, q.2.1) ∧ mjOk mjMt mjM_47 q pc = true := mjOk_of (N := 89) (fun pc h => by unfold mjCd_47; rw [h]; rfl) (by decide +kernel) hq
theorem mjN_47 : mjMOk mjM_47 = true := by decide +kernel
theorem mjK_48 {pc : Nat} {q : MjI} (hq : mjCd_48 pc = some q) : decode mjM_48.2.1 pc = .ok (q.1, q.2.1) ∧ mjOk mjMt mjM_48 q pc = true := mjOk_of (N := 6) (fun pc h => by unfold mjCd_48; rw [h]; rfl) (by decide +kernel) hq
theorem mjN_48 : mjMOk mjM_48 = true := by decide +kernel
theorem mjK_49 {pc : Nat} {q : MjI} (hq : mjCd_49 pc = some q) : decode mjM_49.2.1 pc = .ok (q.1, q.2.1) ∧ mjOk mjMt mjM_49 q pc = true := mjOk_of (N := 88) (fun pc h => by unfold mjCd_49; rw [h]; rfl) (by decide +kernel) hq
theorem mjN_49 : mjMOk mjM_49 = true := by decide +kernel
theorem mjK_50_0 : (List.range' 0 60).all (mjAtOk mjM_50 mjCd_50) = true := by decide +kernel
