/-! ===== the parser, by hand ===== -/
theorem H_emit {sc : List Int32} {w : MjW} {c n : Int32} (Tw : mjTyd m4S w) (hc : (m4X w 240 44).toInt ≤ 1119) : mjGo mjTb mjMt sc 0 212 (0, [some (.ref 240), some (.int c), some (.int n)], [], w) (fun r w1 => r = none ∧ mjTyd m4S w1 ∧ mjShp w1 = mjShp w ∧ (∀ a k : Nat, ¬ (a = 240 ∧ k = 44) → ¬ ((a = 269 ∨ a = 270) ∧ (k : Int) = (m4X w 240 44).toInt) → mjFld w1 a k = mjFld w a k) ∧ (m4X w1 240 44).toInt = (m4X w 240 44).toInt + 1 ∧ m4X w1 269 (m4X w 240 44).toInt.toNat = c) := by
  have k_1 := c_1
  refine g_L (v := .ref 240) (n := 1) M_212 q_212_0 rfl ?_
  refine h_get M_212 q_212_1 Tw ro_240 (by decide) kd_241 (fr_240_37 Tw) ?_
  refine g_L (v := .ref 240) (n := 1) M_212 q_212_4 rfl ?_
  have bw_240_44 := (fi_240_44 Tw).2
  refine h_get M_212 q_212_5 Tw ro_240 (by decide) kd_241 (fi_240_44 Tw).1 ?_
  refine g_L (v := .int c) (n := 1) M_212 q_212_8 rfl ?_
  refine h_ast (j := (m4X w 240 44).toInt.toNat) M_212 q_212_9 Tw ro_269 (by decide) kd_270 ln_270 (by omega) (by omega) (m4_hasI (ta_270 _) (mjB.all _).1 (mjB.all _).2) (fun w1 Tw1 Uw1 => ?_)
  have tw1_269_x := Uw1.at
  have tw1_240_44 := Uw1.ne (b := 240) (j := 44) (by first | decide | (left; decide) | (right; omega) | (left; omega))
  refine g_L (v := .ref 240) (n := 1) M_212 q_212_10 rfl ?_
  refine h_get M_212 q_212_11 Tw1 ro_240 (by decide) kd_241 (fr_240_38 Tw1) ?_
  refine g_L (v := .ref 240) (n := 1) M_212 q_212_14 rfl ?_
  have bw1_240_44 := (fi_240_44 Tw1).2
  refine h_get M_212 q_212_15 Tw1 ro_240 (by decide) kd_241 (fi_240_44 Tw1).1 ?_
  refine g_L (v := .int n) (n := 1) M_212 q_212_18 rfl ?_
  refine h_ast (j := (m4X w1 240 44).toInt.toNat) M_212 q_212_19 Tw1 ro_270 (by decide) kd_271 ln_271 (by omega) (by omega) (m4_hasI (ta_271 _) (mjB.all _).1 (mjB.all _).2) (fun w2 Tw2 Uw2 => ?_)
  have tw2_270_x := Uw2.at
  have tw2_240_44 := Uw2.ne (b := 240) (j := 44) (by first | decide | (left; decide) | (right; omega) | (left; omega))
  refine g_L (v := .ref 240) (n := 1) M_212 q_212_20 rfl ?_
  refine g_A (st1 := [.ref 240, .ref 240]) M_212 q_212_21 rfl ?_
  have bw2_240_44 := (fi_240_44 Tw2).2
  refine h_get M_212 q_212_22 Tw2 ro_240 (by decide) kd_241 (fi_240_44 Tw2).1 ?_
  refine g_A (st1 := [.int (1 : Int32), .int (m4X w2 240 44), .ref 240]) M_212 q_212_25 rfl ?_
  refine h_iadd M_212 q_212_26 (by omega) (by omega) (fun u3 hu3 => ?_)
  refine h_put M_212 q_212_27 Tw2 ro_240 (by decide) kd_241 ln_241 (by decide) (m4_fitI rfl) (m4_hasI ty_241_44 (by omega) (by omega)) (fun w4 Tw4 Uw4 => ?_)
  have tw4_240_44 := Uw4.at
  refine g_ret (v := none) M_212 q_212_30 rfl ?_
  refine ⟨rfl, Tw4, (Uw4.1.trans (Uw2.1.trans Uw1.1)), fun a k h1 h2 => ?_, by omega, ?_⟩
  · exact ((Uw4.fld (by omega)).trans (Uw2.fld (by omega))).trans (Uw1.fld (by omega))
  · rw [Uw4.X (Or.inl (by decide)), Uw2.X (Or.inl (by decide)), m4X_of Uw1.2.1]
theorem H_pushE {sc : List Int32} {w : MjW} {c n : Int32} (Tw : mjTyd m4S w) (hc : (m4X w 240 46).toInt ≤ 89) : mjGo mjTb mjMt sc 0 208 (0, [some (.ref 240), some (.int c), some (.int n)], [], w) (fun r w1 => r = none ∧ mjTyd m4S w1 ∧ mjShp w1 = mjShp w ∧ (∀ a k : Nat, ¬ (a = 240 ∧ k = 46) → ¬ ((a = 271 ∨ a = 272) ∧ (k : Int) = (m4X w 240 46).toInt) → mjFld w1 a k = mjFld w a k) ∧ (m4X w1 240 46).toInt = (m4X w 240 46).toInt + 1 ∧ m4X w1 271 (m4X w 240 46).toInt.toNat = c ∧ m4X w1 272 (m4X w 240 46).toInt.toNat = n) := by
  have k_1 := c_1
  refine g_L (v := .ref 240) (n := 1) M_208 q_208_0 rfl ?_
  refine h_get M_208 q_208_1 Tw ro_240 (by decide) kd_241 (fr_240_39 Tw) ?_
  refine g_L (v := .ref 240) (n := 1) M_208 q_208_4 rfl ?_
  have bw_240_46 := (fi_240_46 Tw).2
  refine h_get M_208 q_208_5 Tw ro_240 (by decide) kd_241 (fi_240_46 Tw).1 ?_
  refine g_L (v := .int c) (n := 1) M_208 q_208_8 rfl ?_
  refine h_ast (j := (m4X w 240 46).toInt.toNat) M_208 q_208_9 Tw ro_271 (by decide) kd_272 ln_272 (by omega) (by omega) (m4_hasI (ta_272 _) (mjB.all _).1 (mjB.all _).2) (fun w1 Tw1 Uw1 => ?_)
  have tw1_271_x := Uw1.at
  have tw1_240_46 := Uw1.ne (b := 240) (j := 46) (by first | decide | (left; decide) | (right; omega) | (left; omega))
  refine g_L (v := .ref 240) (n := 1) M_208 q_208_10 rfl ?_
  refine h_get M_208 q_208_11 Tw1 ro_240 (by decide) kd_241 (fr_240_40 Tw1) ?_
  refine g_L (v := .ref 240) (n := 1) M_208 q_208_14 rfl ?_
  have bw1_240_46 := (fi_240_46 Tw1).2
  refine h_get M_208 q_208_15 Tw1 ro_240 (by decide) kd_241 (fi_240_46 Tw1).1 ?_
  refine g_L (v := .int n) (n := 1) M_208 q_208_18 rfl ?_
  refine h_ast (j := (m4X w1 240 46).toInt.toNat) M_208 q_208_19 Tw1 ro_272 (by decide) kd_273 ln_273 (by omega) (by omega) (m4_hasI (ta_273 _) (mjB.all _).1 (mjB.all _).2) (fun w2 Tw2 Uw2 => ?_)
  have tw2_272_x := Uw2.at
  have tw2_240_46 := Uw2.ne (b := 240) (j := 46) (by first | decide | (left; decide) | (right; omega) | (left; omega))
  refine g_L (v := .ref 240) (n := 1) M_208 q_208_20 rfl ?_
  refine g_A (st1 := [.ref 240, .ref 240]) M_208 q_208_21 rfl ?_
  have bw2_240_46 := (fi_240_46 Tw2).2
  refine h_get M_208 q_208_22 Tw2 ro_240 (by decide) kd_241 (fi_240_46 Tw2).1 ?_
  refine g_A (st1 := [.int (1 : Int32), .int (m4X w2 240 46), .ref 240]) M_208 q_208_25 rfl ?_
  refine h_iadd M_208 q_208_26 (by omega) (by omega) (fun u3 hu3 => ?_)
  refine h_put M_208 q_208_27 Tw2 ro_240 (by decide) kd_241 ln_241 (by decide) (m4_fitI rfl) (m4_hasI ty_241_46 (by omega) (by omega)) (fun w4 Tw4 Uw4 => ?_)
  have tw4_240_46 := Uw4.at
  refine g_ret (v := none) M_208 q_208_30 rfl ?_
  have e46 : (m4X w1 240 46).toInt.toNat = (m4X w 240 46).toInt.toNat := by rw [Uw1.X (Or.inl (by decide))]
  refine ⟨rfl, Tw4, (Uw4.1.trans (Uw2.1.trans Uw1.1)), fun a k h1 h2 => ?_, by omega, ?_, ?_⟩
  · exact ((Uw4.fld (by omega)).trans (Uw2.fld (by omega))).trans (Uw1.fld (by omega))
  · rw [Uw4.X (Or.inl (by decide)), Uw2.X (Or.inl (by decide)), m4X_of Uw1.2.1]
  · rw [Uw4.X (Or.inl (by decide)), ← e46, m4X_of Uw2.2.1]
