/-! ===== by hand ===== -/
theorem H_kA1 {sc : List Int32} {d : Nat} {P : Option Value → MjW → Prop} (n : Nat) : ∀ (w : MjW) (i : Int32), mjTyd m4S w → 0 ≤ i.toInt → i.toInt + n = 2800 → (∀ (w1 : MjW) (i1 : Int32), mjTyd m4S w1 → mjKp m4S [(278, 255)] w w1 → mjGo mjTb mjMt sc d 246 (39, [some (.ref 240), some (.int i1)], [], w1) P) → mjGo mjTb mjMt sc d 246 (11, [some (.ref 240), some (.int i)], [], w) P := by
  induction n with
  | zero =>
    intro w i Tw h0 h1 K
    have k_2800 := c_2800
    refine g_L (v := .int i) (n := 1) M_246 q_246_11 rfl ?_
    refine g_P (v := .int (2800 : Int32)) (n := 3) M_246 q_246_12 rfl ?_
    refine g_icmp M_246 q_246_15 mjCi_ge (fun b1 => ?_) (fun b1 => ?_)
    · exact K w i Tw mjKp.refl
    · exfalso; omega
  | succ n ih =>
    intro w i Tw h0 h1 K
    have k_70 := c_70
    have k_2800 := c_2800
    refine g_L (v := .int i) (n := 1) M_246 q_246_11 rfl ?_
    refine g_P (v := .int (2800 : Int32)) (n := 3) M_246 q_246_12 rfl ?_
    refine g_icmp M_246 q_246_15 mjCi_ge (fun b1 => ?_) (fun b1 => ?_)
    · exfalso; omega
    · refine g_L (v := .ref 240) (n := 1) M_246 q_246_18 rfl ?_
      refine h_get M_246 q_246_19 Tw ro_240 (by decide) kd_241 (fr_240_59 Tw) ?_
      refine g_L (v := .int i) (n := 1) M_246 q_246_22 rfl ?_
      refine g_L (v := .ref 240) (n := 1) M_246 q_246_23 rfl ?_
      refine h_get M_246 q_246_24 Tw ro_240 (by decide) kd_241 (fr_240_59 Tw) ?_
      refine g_L (v := .int i) (n := 1) M_246 q_246_27 rfl ?_
      refine g_P (v := .int (70 : Int32)) (n := 2) M_246 q_246_28 rfl ?_
      refine h_iadd M_246 q_246_30 (by omega) (by omega) (fun u2 hu2 => ?_)
      have e3 := ar_278 Tw ro_277 (j := u2.toInt.toNat) (by omega)
      refine h_ald (j := u2.toInt.toNat) M_246 q_246_31 Tw ro_277 (by decide) kd_278 (by omega) e3.1 ?_
      refine h_ast (j := i.toInt.toNat) M_246 q_246_32 Tw ro_277 (by decide) kd_278 ln_278 (by omega) (by omega) (m4_sameT (by omega) (e3.2)) (fun w4 Tw4 Uw4 => ?_)
      have tw4_277_x := Uw4.at
      refine h_inc (x := i) M_246 q_246_33 rfl rfl (by omega) (by omega) rfl (fun u5 hu5 => ?_)
      show mjGo mjTb mjMt sc _ 246 (36, [some (.ref 240), some (.int u5)], [], w4) _
      refine g_goto M_246 q_246_36 ?_
      exact ih w4 u5 Tw4 (by omega) (by omega) (fun w1 i1 t1 k1 => K w1 i1 t1 ((Uw4.kp ro_277 rfl).trans k1))
theorem H_kA2 {sc : List Int32} {d : Nat} {P : Option Value → MjW → Prop} (n : Nat) : ∀ (w : MjW) (i : Int32), mjTyd m4S w → (m4X w 240 60).toInt ≤ 40 → 0 ≤ i.toInt → i.toInt + n = 70 → (∀ (w1 : MjW) (i1 : Int32), mjTyd m4S w1 → mjKp m4S [(278, 255)] w w1 → mjGo mjTb mjMt sc d 246 (83, [some (.ref 240), some (.int i1)], [], w1) P) → mjGo mjTb mjMt sc d 246 (51, [some (.ref 240), some (.int i)], [], w) P := by
  induction n with
  | zero =>
    intro w i Tw ha h0 h1 K
    have k_70 := c_70
    refine g_L (v := .int i) (n := 1) M_246 q_246_51 rfl ?_
    refine g_P (v := .int (70 : Int32)) (n := 2) M_246 q_246_52 rfl ?_
    refine g_icmp M_246 q_246_54 mjCi_ge (fun b1 => ?_) (fun b1 => ?_)
    · exact K w i Tw mjKp.refl
    · exfalso; omega
  | succ n ih =>
    intro w i Tw ha h0 h1 K
    have k_70 := c_70
    refine g_L (v := .int i) (n := 1) M_246 q_246_51 rfl ?_
    refine g_P (v := .int (70 : Int32)) (n := 2) M_246 q_246_52 rfl ?_
    refine g_icmp M_246 q_246_54 mjCi_ge (fun b1 => ?_) (fun b1 => ?_)
    · exfalso; omega
    · refine g_L (v := .ref 240) (n := 1) M_246 q_246_57 rfl ?_
      refine h_get M_246 q_246_58 Tw ro_240 (by decide) kd_241 (fr_240_59 Tw) ?_
      refine g_P (v := .int (70 : Int32)) (n := 2) M_246 q_246_61 rfl ?_
      refine g_L (v := .ref 240) (n := 1) M_246 q_246_63 rfl ?_
      have bw_240_60 := (fi_240_60 Tw).2
      refine h_get M_246 q_246_64 Tw ro_240 (by decide) kd_241 (fi_240_60 Tw).1 ?_
      refine h_imulc (c := 70) M_246 q_246_67 c_70 (by omega) (by omega) (fun u2 hu2 => ?_)
      refine g_L (v := .int i) (n := 1) M_246 q_246_68 rfl ?_
      refine h_iadd M_246 q_246_69 (by omega) (by omega) (fun u3 hu3 => ?_)
      refine g_L (v := .ref 240) (n := 1) M_246 q_246_70 rfl ?_
      refine h_get M_246 q_246_71 Tw ro_240 (by decide) kd_241 (fr_240_52 Tw) ?_
      refine g_L (v := .int i) (n := 1) M_246 q_246_74 rfl ?_
      have e4 := ar_275 Tw ro_274 (j := i.toInt.toNat) (by omega)
      refine h_ald (j := i.toInt.toNat) M_246 q_246_75 Tw ro_274 (by decide) kd_275 (by omega) e4.1 ?_
      refine h_ast (j := u3.toInt.toNat) M_246 q_246_76 Tw ro_277 (by decide) kd_278 ln_278 (by omega) (by omega) (m4_sameT (by omega) (e4.2)) (fun w5 Tw5 Uw5 => ?_)
      have tw5_277_x := Uw5.at
      have tw5_240_60 := Uw5.ne (b := 240) (j := 60) (by first | decide | (left; decide) | (right; omega) | (left; omega))
      refine h_inc (x := i) M_246 q_246_77 rfl rfl (by omega) (by omega) rfl (fun u6 hu6 => ?_)
      show mjGo mjTb mjMt sc _ 246 (80, [some (.ref 240), some (.int u6)], [], w5) _
      refine g_goto M_246 q_246_80 ?_
      exact ih w5 u6 Tw5 (by omega) (by omega) (by omega) (fun w1 i1 t1 k1 => K w1 i1 t1 ((Uw5.kp ro_277 rfl).trans k1))
theorem H_kA4 {sc : List Int32} {d : Nat} {P : Option Value → MjW → Prop} {w : MjW} (Tw : mjTyd m4S w) (ha : (m4X w 240 60).toInt ≤ 39) (K : ∀ w1 : MjW, mjTyd m4S w1 → mjKp m4S [(241, 60), (241, 61), (278, 255)] w w1 → 0 ≤ (m4X w1 240 60).toInt → (m4X w1 240 60).toInt ≤ 40 → (m4X w1 240 61).toInt = 0 → P none w1) : mjGo mjTb mjMt sc d 246 (51, [some (.ref 240), some (.int (0 : Int32))], [], w) P := by
  refine H_kA2 70 w (0 : Int32) Tw (by omega) (by decide) (by decide) (fun w1 i1 Tw1 k1 => ?_)
  have e1 := k1.X (a := 240) (k := 60) ro_240 rfl
  have ha2 : (m4X w1 240 60).toInt ≤ 39 := by rw [e1]; exact ha
  have k_0 := c_0
  have k_1 := c_1
  refine g_L (v := .ref 240) (n := 1) M_246 q_246_83 rfl ?_
  refine g_A (st1 := [.ref 240, .ref 240]) M_246 q_246_84 rfl ?_
  have bw1_240_60 := (fi_240_60 Tw1).2
  refine h_get M_246 q_246_85 Tw1 ro_240 (by decide) kd_241 (fi_240_60 Tw1).1 ?_
  refine g_A (st1 := [.int (1 : Int32), .int (m4X w1 240 60), .ref 240]) M_246 q_246_88 rfl ?_
  refine h_iadd M_246 q_246_89 (by omega) (by omega) (fun u1 hu1 => ?_)
  refine h_put M_246 q_246_90 Tw1 ro_240 (by decide) kd_241 ln_241 (by decide) (m4_fitI rfl) (m4_hasI ty_241_60 (by omega) (by omega)) (fun w2 Tw2 Uw2 => ?_)
  have tw2_240_60 := Uw2.at
  have tw2_240_61 := Uw2.ne (b := 240) (j := 61) (by decide)
  refine g_L (v := .ref 240) (n := 1) M_246 q_246_93 rfl ?_
  refine g_A (st1 := [.int (0 : Int32), .ref 240]) M_246 q_246_94 rfl ?_
  refine h_put M_246 q_246_95 Tw2 ro_240 (by decide) kd_241 ln_241 (by decide) (m4_fitI rfl) (m4_hasI ty_241_61 (by omega) (by omega)) (fun w3 Tw3 Uw3 => ?_)
  have tw3_240_61 := Uw3.at
  have tw3_240_60 := Uw3.ne (b := 240) (j := 60) (by decide)
  refine g_ret (v := none) M_246 q_246_98 rfl ?_
  exact K w3 Tw3 ((aiModsIn_ok (by decide) k1).trans ((Uw2.kp ro_240 rfl).trans (Uw3.kp ro_240 rfl))) (by omega) (by omega) (by omega)
theorem H_kA5 {sc : List Int32} {d : Nat} {P : Option Value → MjW → Prop} {w : MjW} {i : Int32} (Tw : mjTyd m4S w) (ha0 : 1 ≤ (m4X w 240 60).toInt) (ha : (m4X w 240 60).toInt ≤ 40) (K : ∀ w1 : MjW, mjTyd m4S w1 → mjKp m4S [(241, 60), (241, 61), (278, 255)] w w1 → 0 ≤ (m4X w1 240 60).toInt → (m4X w1 240 60).toInt ≤ 40 → (m4X w1 240 61).toInt = 0 → P none w1) : mjGo mjTb mjMt sc d 246 (39, [some (.ref 240), some (.int i)], [], w) P := by
  have k_0 := c_0
  have k_1 := c_1
  refine g_L (v := .ref 240) (n := 1) M_246 q_246_39 rfl ?_
  refine g_A (st1 := [.ref 240, .ref 240]) M_246 q_246_40 rfl ?_
  have bw_240_60 := (fi_240_60 Tw).2
  refine h_get M_246 q_246_41 Tw ro_240 (by decide) kd_241 (fi_240_60 Tw).1 ?_
  refine g_A (st1 := [.int (1 : Int32), .int (m4X w 240 60), .ref 240]) M_246 q_246_44 rfl ?_
  refine h_isub M_246 q_246_45 (by omega) (by omega) (fun u1 hu1 => ?_)
  refine h_put M_246 q_246_46 Tw ro_240 (by decide) kd_241 ln_241 (by decide) (m4_fitI rfl) (m4_hasI ty_241_60 (by omega) (by omega)) (fun w2 Tw2 Uw2 => ?_)
  have tw2_240_60 := Uw2.at
  refine g_A (st1 := [.int (0 : Int32)]) M_246 q_246_49 rfl ?_
  refine g_S (ls1 := [some (.ref 240), some (.int (0 : Int32))]) (st1 := []) (n := 1) M_246 q_246_50 rfl ?_
  exact H_kA4 Tw2 (by omega) (fun w2 T2 k2 a1 a2 a3 => K w2 T2 ((Uw2.kp ro_240 rfl).trans k2) a1 a2 a3)
theorem H_keepAct {t : Int} {sm : MjSm} (hs : sm = ([(3, 240, 240, 0, 0)], [], [((7, 0, 0, 0, 0), [], [])], [(241, 60), (241, 61), (278, 255)], 1)) : mjCtr m4S (m4J t) 246 sm := by
  subst hs
  intro sc w as M hI ha hf hM
  cases (M_246).symm.trans hM
  obtain rfl := m4_args1 ha
  have Tw := hI.1
  obtain ⟨-, -, -, ⟨j1, j2, j3⟩, -⟩ := id hI.2
  have fin : ∀ w1 : MjW, mjTyd m4S w1 → mjKp m4S [(241, 60), (241, 61), (278, 255)] w w1 → 0 ≤ (m4X w1 240 60).toInt → (m4X w1 240 60).toInt ≤ 40 → (m4X w1 240 61).toInt = 0 → mjPost m4S (m4J t) ([(3, 240, 240, 0, 0)], [], [((7, 0, 0, 0, 0), [], [])], [(241, 60), (241, 61), (278, 255)], 1) [.ref 240] w none w1 := fun w1 T1 k1 a1 a2 a3 => m4_post rfl T1 (m4J_kp hI.2 k1 (by decide) ⟨a1, by omega, by omega⟩) k1 m4_rv
  show mjGo mjTb mjMt sc 1 246 (0, [some (.ref 240), none], [], w) _
  have k_0 := c_0
  have k_40 := c_40
  refine g_L (v := .ref 240) (n := 1) M_246 q_246_0 rfl ?_
  have bw_240_60 := (fi_240_60 Tw).2
  refine h_get M_246 q_246_1 Tw ro_240 (by decide) kd_241 (fi_240_60 Tw).1 ?_
  refine g_P (v := .int (40 : Int32)) (n := 2) M_246 q_246_4 rfl ?_
  refine g_icmp M_246 q_246_6 mjCi_ne (fun b1 => ?_) (fun b1 => ?_)
  · refine g_A (st1 := [.int (0 : Int32)]) M_246 q_246_49 rfl ?_
    refine g_S (ls1 := [some (.ref 240), some (.int (0 : Int32))]) (st1 := []) (n := 1) M_246 q_246_50 rfl ?_
    exact H_kA4 Tw (by omega) fin
  · refine g_A (st1 := [.int (0 : Int32)]) M_246 q_246_9 rfl ?_
    refine g_S (ls1 := [some (.ref 240), some (.int (0 : Int32))]) (st1 := []) (n := 1) M_246 q_246_10 rfl ?_
    refine H_kA1 2800 w (0 : Int32) Tw (by decide) (by decide) (fun w1 i1 Tw1 k1 => ?_)
    have e1 := k1.X (a := 240) (k := 60) ro_240 rfl
    exact H_kA5 Tw1 (by rw [e1]; omega) (by rw [e1]; omega) (fun w2 T2 k2 a1 a2 a3 => fin w2 T2 ((aiModsIn_ok (by decide) k1).trans k2) a1 a2 a3)
