/-! ===== by hand ===== -/
theorem H_sw1 {sc : List Int32} {d : Nat} {P : Option Value → MjW → Prop} (n : Nat) : ∀ (w : MjW) (i : Int32) (l2 : Option Value), mjTyd m4S w → (m4X w 240 60).toInt ≤ 40 → 0 ≤ i.toInt → i.toInt + n = 70 → (∀ w1 : MjW, mjTyd m4S w1 → mjKp m4S [(275, 255), (278, 255)] w w1 → P none w1) → mjGo mjTb mjMt sc d 263 (2, [some (.ref 240), some (.int i), l2], [], w) P := by
  induction n with
  | zero =>
    intro w i l2 Tw ha h0 h1 K
    have k_70 := c_70
    refine g_L (v := .int i) (n := 1) M_263 q_263_2 rfl ?_
    refine g_P (v := .int (70 : Int32)) (n := 2) M_263 q_263_3 rfl ?_
    refine g_icmp M_263 q_263_5 mjCi_ge (fun b1 => ?_) (fun b1 => ?_)
    · refine g_ret (v := none) M_263 q_263_56 rfl ?_
      exact K w Tw mjKp.refl
    · exfalso; omega
  | succ n ih =>
    intro w i l2 Tw ha h0 h1 K
    have k_70 := c_70
    refine g_L (v := .int i) (n := 1) M_263 q_263_2 rfl ?_
    refine g_P (v := .int (70 : Int32)) (n := 2) M_263 q_263_3 rfl ?_
    refine g_icmp M_263 q_263_5 mjCi_ge (fun b1 => ?_) (fun b1 => ?_)
    · exfalso; omega
    · refine g_L (v := .ref 240) (n := 1) M_263 q_263_8 rfl ?_
      refine h_get M_263 q_263_9 Tw ro_240 (by decide) kd_241 (fr_240_59 Tw) ?_
      refine g_P (v := .int (70 : Int32)) (n := 2) M_263 q_263_12 rfl ?_
      refine g_L (v := .ref 240) (n := 1) M_263 q_263_14 rfl ?_
      have bw_240_60 := (fi_240_60 Tw).2
      refine h_get M_263 q_263_15 Tw ro_240 (by decide) kd_241 (fi_240_60 Tw).1 ?_
      refine h_imulc (c := 70) M_263 q_263_18 c_70 (by omega) (by omega) (fun u2 hu2 => ?_)
      refine g_L (v := .int i) (n := 1) M_263 q_263_19 rfl ?_
      refine h_iadd M_263 q_263_20 (by omega) (by omega) (fun u3 hu3 => ?_)
      have e4 := ar_278 Tw ro_277 (j := u3.toInt.toNat) (by omega)
      refine h_ald (j := u3.toInt.toNat) M_263 q_263_21 Tw ro_277 (by decide) kd_278 (by omega) e4.1 ?_
      refine g_S (ls1 := [some (.ref 240), some (.int i), some (.int (m4X w 277 (u3.toInt.toNat)))]) (st1 := []) (n := 1) M_263 q_263_22 rfl ?_
      refine g_L (v := .ref 240) (n := 1) M_263 q_263_23 rfl ?_
      refine h_get M_263 q_263_24 Tw ro_240 (by decide) kd_241 (fr_240_59 Tw) ?_
      refine g_P (v := .int (70 : Int32)) (n := 2) M_263 q_263_27 rfl ?_
      refine g_L (v := .ref 240) (n := 1) M_263 q_263_29 rfl ?_
      have bw_240_60 := (fi_240_60 Tw).2
      refine h_get M_263 q_263_30 Tw ro_240 (by decide) kd_241 (fi_240_60 Tw).1 ?_
      refine h_imulc (c := 70) M_263 q_263_33 c_70 (by omega) (by omega) (fun u5 hu5 => ?_)
      refine g_L (v := .int i) (n := 1) M_263 q_263_34 rfl ?_
      refine h_iadd M_263 q_263_35 (by omega) (by omega) (fun u6 hu6 => ?_)
      refine g_L (v := .ref 240) (n := 1) M_263 q_263_36 rfl ?_
      refine h_get M_263 q_263_37 Tw ro_240 (by decide) kd_241 (fr_240_52 Tw) ?_
      refine g_L (v := .int i) (n := 1) M_263 q_263_40 rfl ?_
      have e7 := ar_275 Tw ro_274 (j := i.toInt.toNat) (by omega)
      refine h_ald (j := i.toInt.toNat) M_263 q_263_41 Tw ro_274 (by decide) kd_275 (by omega) e7.1 ?_
      refine h_ast (j := u6.toInt.toNat) M_263 q_263_42 Tw ro_277 (by decide) kd_278 ln_278 (by omega) (by omega) (m4_sameT (by omega) (e7.2)) (fun w8 Tw8 Uw8 => ?_)
      have tw8_277_x := Uw8.at
      have tw8_240_60 := Uw8.ne (b := 240) (j := 60) (by first | decide | (left; decide) | (right; omega) | (left; omega))
      refine g_L (v := .ref 240) (n := 1) M_263 q_263_43 rfl ?_
      refine h_get M_263 q_263_44 Tw8 ro_240 (by decide) kd_241 (fr_240_52 Tw8) ?_
      refine g_L (v := .int i) (n := 1) M_263 q_263_47 rfl ?_
      refine g_L (v := .int (m4X w 277 (u3.toInt.toNat))) (n := 1) M_263 q_263_48 rfl ?_
      refine h_ast (j := i.toInt.toNat) M_263 q_263_49 Tw8 ro_274 (by decide) kd_275 ln_275 (by omega) (by omega) (m4_sameT (by omega) (e4.2)) (fun w9 Tw9 Uw9 => ?_)
      have tw9_274_x := Uw9.at
      have tw9_240_60 := Uw9.ne (b := 240) (j := 60) (by first | decide | (left; decide) | (right; omega) | (left; omega))
      refine h_inc (x := i) M_263 q_263_50 rfl rfl (by omega) (by omega) rfl (fun u10 hu10 => ?_)
      show mjGo mjTb mjMt sc _ 263 (53, [some (.ref 240), some (.int u10), some (.int (m4X w 277 (u3.toInt.toNat)))], [], w9) _
      refine g_goto M_263 q_263_53 ?_
      exact ih w9 u10 _ Tw9 (by omega) (by omega) (by omega) (fun w1 t1 k1 => K w1 t1 (((Uw8.kp ro_277 rfl).trans (Uw9.kp ro_274 rfl)).trans k1))
theorem H_swap {sc : List Int32} {w : MjW} (Tw : mjTyd m4S w) (ha : (m4X w 240 60).toInt ≤ 40) : mjGo mjTb mjMt sc 0 263 (0, [some (.ref 240), none, none], [], w) (fun r w1 => r = none ∧ mjTyd m4S w1 ∧ mjKp m4S [(275, 255), (278, 255)] w w1) := by
  have k_0 := c_0
  refine g_A (st1 := [.int (0 : Int32)]) M_263 q_263_0 rfl ?_
  refine g_S (ls1 := [some (.ref 240), some (.int (0 : Int32)), none]) (st1 := []) (n := 1) M_263 q_263_1 rfl ?_
  exact H_sw1 70 w (0 : Int32) none Tw ha (by decide) (by decide) (fun w1 t1 k1 => ⟨rfl, t1, k1⟩)
theorem H_undo {t : Int} {sm : MjSm} (hs : sm = ([(3, 240, 240, 0, 0)], [], [((0, 0, 1, 0, 0), [], [])], [(241, 60), (241, 61), (275, 255), (278, 255)], 2)) : mjCtr m4S (m4J t) 262 sm := by
  subst hs
  intro sc w as M hI ha hf hM
  cases (M_262).symm.trans hM
  obtain rfl := m4_args1 ha
  have Tw := hI.1
  obtain ⟨-, -, -, ⟨j1, j2, j3⟩, -⟩ := id hI.2
  show mjGo mjTb mjMt sc 2 262 (0, [some (.ref 240)], [], w) _
  have k_0 := c_0
  have k_1 := c_1
  refine g_L (v := .ref 240) (n := 1) M_262 q_262_0 rfl ?_
  have bw_240_60 := (fi_240_60 Tw).2
  refine h_get M_262 q_262_1 Tw ro_240 (by decide) kd_241 (fi_240_60 Tw).1 ?_
  refine g_if M_262 q_262_4 mjCz_ne (fun b1 => ?_) (fun b1 => ?_)
  · refine g_L (v := .ref 240) (n := 1) M_262 q_262_9 rfl ?_
    refine g_A (st1 := [.ref 240, .ref 240]) M_262 q_262_10 rfl ?_
    have bw_240_60 := (fi_240_60 Tw).2
    refine h_get M_262 q_262_11 Tw ro_240 (by decide) kd_241 (fi_240_60 Tw).1 ?_
    refine g_A (st1 := [.int (1 : Int32), .int (m4X w 240 60), .ref 240]) M_262 q_262_14 rfl ?_
    refine h_isub M_262 q_262_15 (by omega) (by omega) (fun u2 hu2 => ?_)
    refine h_put M_262 q_262_16 Tw ro_240 (by decide) kd_241 ln_241 (by decide) (m4_fitI rfl) (m4_hasI ty_241_60 (by omega) (by omega)) (fun w3 Tw3 Uw3 => ?_)
    have tw3_240_60 := Uw3.at
    have tw3_240_61 := Uw3.ne (b := 240) (j := 61) (by decide)
    refine g_L (v := .ref 240) (n := 1) M_262 q_262_19 rfl ?_
    refine g_A (st1 := [.ref 240, .ref 240]) M_262 q_262_20 rfl ?_
    have bw3_240_61 := (fi_240_61 Tw3).2
    refine h_get M_262 q_262_21 Tw3 ro_240 (by decide) kd_241 (fi_240_61 Tw3).1 ?_
    refine g_A (st1 := [.int (1 : Int32), .int (m4X w3 240 61), .ref 240]) M_262 q_262_24 rfl ?_
    refine h_iadd M_262 q_262_25 (by omega) (by omega) (fun u4 hu4 => ?_)
    refine h_put M_262 q_262_26 Tw3 ro_240 (by decide) kd_241 ln_241 (by decide) (m4_fitI rfl) (m4_hasI ty_241_61 (by omega) (by omega)) (fun w5 Tw5 Uw5 => ?_)
    have tw5_240_61 := Uw5.at
    have tw5_240_60 := Uw5.ne (b := 240) (j := 60) (by decide)
    refine g_L (v := .ref 240) (n := 1) M_262 q_262_29 rfl ?_
    refine g_call (d := 1) (y1 := 263) (as := [.ref 240]) (rest := []) (M1 := mjM_263) (d1 := 0) (ls0 := [some (.ref 240), none, none]) M_262 q_262_30 (h_cv Tw5 ro_240 (by decide) kd_241 (by decide) (by decide) rfl (by decide)) M_263 (by decide) (by decide) rfl (by decide) (H_swap Tw5 (by omega)) ?_
    rintro r w6 ⟨rfl, Tw6, sw6⟩
    have tw6_240_60 := congrArg Int32.toInt (sw6.X (a := 240) (k := 60) ro_240 rfl)
    have tw6_240_61 := congrArg Int32.toInt (sw6.X (a := 240) (k := 61) ro_240 rfl)
    refine g_A (st1 := [.int (1 : Int32)]) M_262 q_262_33 rfl ?_
    refine g_ret (v := some (.int (1 : Int32))) M_262 q_262_34 (h_rtZ) ?_
    have kp : mjKp m4S [(241, 60), (241, 61), (275, 255), (278, 255)] w w6 := (((Uw3.kp ro_240 rfl).trans (Uw5.kp ro_240 rfl)).trans (aiModsIn_ok (by decide) sw6))
    exact m4_post rfl Tw6 (m4J_kp hI.2 kp (by decide) ⟨by omega, by omega, by omega⟩) kp (m4_ri (by omega) (by omega))
  · refine g_A (st1 := [.int (0 : Int32)]) M_262 q_262_7 rfl ?_
    refine g_ret (v := some (.int (0 : Int32))) M_262 q_262_8 (h_rtZ) ?_
    exact m4_post rfl hI.1 hI.2 mjKp.refl (m4_ri (by omega) (by omega))
theorem H_redo {t : Int} {sm : MjSm} (hs : sm = ([(3, 240, 240, 0, 0)], [], [((0, 0, 1, 0, 0), [], [])], [(241, 60), (241, 61), (275, 255), (278, 255)], 2)) : mjCtr m4S (m4J t) 264 sm := by
  subst hs
  intro sc w as M hI ha hf hM
  cases (M_264).symm.trans hM
  obtain rfl := m4_args1 ha
  have Tw := hI.1
  obtain ⟨-, -, -, ⟨j1, j2, j3⟩, -⟩ := id hI.2
  show mjGo mjTb mjMt sc 2 264 (0, [some (.ref 240)], [], w) _
  have k_0 := c_0
  have k_1 := c_1
  refine g_L (v := .ref 240) (n := 1) M_264 q_264_0 rfl ?_
  have bw_240_61 := (fi_240_61 Tw).2
  refine h_get M_264 q_264_1 Tw ro_240 (by decide) kd_241 (fi_240_61 Tw).1 ?_
  refine g_if M_264 q_264_4 mjCz_ne (fun b1 => ?_) (fun b1 => ?_)
  · refine g_L (v := .ref 240) (n := 1) M_264 q_264_9 rfl ?_
    refine g_call (d := 1) (y1 := 263) (as := [.ref 240]) (rest := []) (M1 := mjM_263) (d1 := 0) (ls0 := [some (.ref 240), none, none]) M_264 q_264_10 (h_cv Tw ro_240 (by decide) kd_241 (by decide) (by decide) rfl (by decide)) M_263 (by decide) (by decide) rfl (by decide) (H_swap Tw (by omega)) ?_
    rintro r w2 ⟨rfl, Tw2, sw2⟩
    have tw2_240_60 := congrArg Int32.toInt (sw2.X (a := 240) (k := 60) ro_240 rfl)
    have tw2_240_61 := congrArg Int32.toInt (sw2.X (a := 240) (k := 61) ro_240 rfl)
    refine g_L (v := .ref 240) (n := 1) M_264 q_264_13 rfl ?_
    refine g_A (st1 := [.ref 240, .ref 240]) M_264 q_264_14 rfl ?_
    have bw2_240_60 := (fi_240_60 Tw2).2
    refine h_get M_264 q_264_15 Tw2 ro_240 (by decide) kd_241 (fi_240_60 Tw2).1 ?_
    refine g_A (st1 := [.int (1 : Int32), .int (m4X w2 240 60), .ref 240]) M_264 q_264_18 rfl ?_
    refine h_iadd M_264 q_264_19 (by omega) (by omega) (fun u3 hu3 => ?_)
    refine h_put M_264 q_264_20 Tw2 ro_240 (by decide) kd_241 ln_241 (by decide) (m4_fitI rfl) (m4_hasI ty_241_60 (by omega) (by omega)) (fun w4 Tw4 Uw4 => ?_)
    have tw4_240_60 := Uw4.at
    have tw4_240_61 := Uw4.ne (b := 240) (j := 61) (by decide)
    refine g_L (v := .ref 240) (n := 1) M_264 q_264_23 rfl ?_
    refine g_A (st1 := [.ref 240, .ref 240]) M_264 q_264_24 rfl ?_
    have bw4_240_61 := (fi_240_61 Tw4).2
    refine h_get M_264 q_264_25 Tw4 ro_240 (by decide) kd_241 (fi_240_61 Tw4).1 ?_
    refine g_A (st1 := [.int (1 : Int32), .int (m4X w4 240 61), .ref 240]) M_264 q_264_28 rfl ?_
    refine h_isub M_264 q_264_29 (by omega) (by omega) (fun u5 hu5 => ?_)
    refine h_put M_264 q_264_30 Tw4 ro_240 (by decide) kd_241 ln_241 (by decide) (m4_fitI rfl) (m4_hasI ty_241_61 (by omega) (by omega)) (fun w6 Tw6 Uw6 => ?_)
    have tw6_240_61 := Uw6.at
    have tw6_240_60 := Uw6.ne (b := 240) (j := 60) (by decide)
    refine g_A (st1 := [.int (1 : Int32)]) M_264 q_264_33 rfl ?_
    refine g_ret (v := some (.int (1 : Int32))) M_264 q_264_34 (h_rtZ) ?_
    have kp : mjKp m4S [(241, 60), (241, 61), (275, 255), (278, 255)] w w6 := (((aiModsIn_ok (by decide) sw2).trans (Uw4.kp ro_240 rfl)).trans (Uw6.kp ro_240 rfl))
    exact m4_post rfl Tw6 (m4J_kp hI.2 kp (by decide) ⟨by omega, by omega, by omega⟩) kp (m4_ri (by omega) (by omega))
  · refine g_A (st1 := [.int (0 : Int32)]) M_264 q_264_7 rfl ?_
    refine g_ret (v := some (.int (0 : Int32))) M_264 q_264_8 (h_rtZ) ?_
    exact m4_post rfl hI.1 hI.2 mjKp.refl (m4_ri (by omega) (by omega))
