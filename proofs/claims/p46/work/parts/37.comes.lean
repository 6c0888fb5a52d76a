/-! ===== by hand ===== -/
theorem H_q {t : Int} : mjHq (m4J t) := List.forall_mem_cons.mpr ⟨H_deep rfl, fun e he => (by cases he)⟩
theorem H_asked {t : Int} {sc : List Int32} {d y pc : Nat} {ls : MjL} {st : List Value} {w : MjW} {P : Option Value → MjW → Prop} {M : MjM} {inf : List Nat} {ins : Instr} {len : Nat} {rest : List Value} {a b : Int32} (hM : mjMt y = some M) (hq : mjTb y pc = some (ins, len, 6, inf)) (hC : mjC ins inf st w = some (231, [.ref 240, .int a, .int b], rest)) (hd : 2 ≤ d) (hI : mjInv m4S (m4J t) w) (kk : ∀ u : Int32, mjGo mjTb mjMt sc (d + 1) y (pc + 3, ls, .int u :: rest, w) P) : mjGo mjTb mjMt sc (d + 1) y (pc, ls, st, w) P := by
  refine h_ctr (sm := mjSm_q_2) (M1 := mjM_231) hM hq hC M_231 (show 3 ≤ 3 by decide) (by decide) hd (mjC_q_2 (m4_ok t) H_q) hI ⟨⟨240, rfl, rfl⟩, ⟨_, rfl, mjB.all _⟩, ⟨_, rfl, mjB.all _⟩, trivial⟩ (fun q hq => by cases hq) (fun r w1 hp => ?_)
  obtain ⟨-, kp, o, ho1, hr, -, -⟩ := hp
  have e := m4_same kp
  subst e
  rcases List.mem_cons.mp ho1 with e | e
  · subst e
    unfold mjRs at hr
    rw [if_neg (show ¬ (0 : Nat) = 7 by decide)] at hr
    obtain ⟨v, rfl, x, rfl, h1, h2⟩ := hr
    exact kk x
  · cases e
theorem H_co1 {t : Int} {sc : List Int32} {d : Nat} {P : Option Value → MjW → Prop} {h : Nat → Int} {fr : Int} (hd : 2 ≤ d) (n : Nat) : ∀ (w : MjW) (x k : Int32) (l3 : Option Value), mjTyd m4S w → m4J t w → 0 ≤ fr → fr ≤ k.toInt → (m4X w 266 (m4X w 240 42).toInt.toNat).toInt - k.toInt < (n : Int) → x.toInt = h k.toInt.toNat → 0 ≤ x.toInt → x.toInt ≤ 60 → (∀ j : Nat, fr ≤ (j : Int) → (j : Int) < (m4X w 266 (m4X w 240 42).toInt.toNat).toInt → m4St (m4X w 269 j).toInt (h j) (h (j + 1))) → (∀ (w1 : MjW) (v : Int32), mjTyd m4S w1 → m4J t w1 → mjKp m4S [(274, 255)] w w1 → P (some (.int v)) w1) → mjGo mjTb mjMt sc (d + 1) 230 (12, [some (.ref 240), some (.int x), some (.int k), l3], [], w) P := by
  induction n with
  | zero =>
    intro w x k l3 Tw hJ f0 f1 f2 hx x0 x1 hS K
    have k_0 := c_0
    refine g_L (v := .int k) (n := 1) M_230 q_230_12 rfl ?_
    refine g_L (v := .ref 240) (n := 1) M_230 q_230_13 rfl ?_
    refine h_get M_230 q_230_14 Tw ro_240 (by decide) kd_241 (fr_240_34 Tw) ?_
    refine g_L (v := .ref 240) (n := 1) M_230 q_230_17 rfl ?_
    have bw_240_42 := (fi_240_42 Tw).2
    refine h_get M_230 q_230_18 Tw ro_240 (by decide) kd_241 (fi_240_42 Tw).1 ?_
    have e1 := ar_267 Tw ro_266 (j := (m4X w 240 42).toInt.toNat) (by omega)
    refine h_ald (j := (m4X w 240 42).toInt.toNat) M_230 q_230_21 Tw ro_266 (by decide) kd_267 (by omega) e1.1 ?_
    refine g_icmp M_230 q_230_22 mjCi_ge (fun b2 => ?_) (fun b2 => ?_)
    · refine g_L (v := .ref 240) (n := 1) M_230 q_230_130 rfl ?_
      refine h_get M_230 q_230_131 Tw ro_240 (by decide) kd_241 (fr_240_41 Tw) ?_
      refine g_A (st1 := [.int (0 : Int32), .ref 273]) M_230 q_230_134 rfl ?_
      have e3 := ar_274 Tw ro_273 (j := 0) (by omega)
      refine h_ald (j := 0) M_230 q_230_135 Tw ro_273 (by decide) kd_274 (by omega) e3.1 ?_
      refine g_ret (v := some (.int (m4X w 273 0))) M_230 q_230_136 (h_rtI) ?_
      exact K w _ Tw hJ mjKp.refl
    · exfalso; omega
  | succ n ih =>
    intro w x k l3 Tw hJ f0 f1 f2 hx x0 x1 hS K
    have k_0 := c_0
    have k_1 := c_1
    have k_126 := c_126
    refine g_L (v := .int k) (n := 1) M_230 q_230_12 rfl ?_
    refine g_L (v := .ref 240) (n := 1) M_230 q_230_13 rfl ?_
    refine h_get M_230 q_230_14 Tw ro_240 (by decide) kd_241 (fr_240_34 Tw) ?_
    refine g_L (v := .ref 240) (n := 1) M_230 q_230_17 rfl ?_
    have bw_240_42 := (fi_240_42 Tw).2
    refine h_get M_230 q_230_18 Tw ro_240 (by decide) kd_241 (fi_240_42 Tw).1 ?_
    have e1 := ar_267 Tw ro_266 (j := (m4X w 240 42).toInt.toNat) (by omega)
    refine h_ald (j := (m4X w 240 42).toInt.toNat) M_230 q_230_21 Tw ro_266 (by decide) kd_267 (by omega) e1.1 ?_
    refine g_icmp M_230 q_230_22 mjCi_ge (fun b2 => ?_) (fun b2 => ?_)
    · refine g_L (v := .ref 240) (n := 1) M_230 q_230_130 rfl ?_
      refine h_get M_230 q_230_131 Tw ro_240 (by decide) kd_241 (fr_240_41 Tw) ?_
      refine g_A (st1 := [.int (0 : Int32), .ref 273]) M_230 q_230_134 rfl ?_
      have e3 := ar_274 Tw ro_273 (j := 0) (by omega)
      refine h_ald (j := 0) M_230 q_230_135 Tw ro_273 (by decide) kd_274 (by omega) e3.1 ?_
      refine g_ret (v := some (.int (m4X w 273 0))) M_230 q_230_136 (h_rtI) ?_
      exact K w _ Tw hJ mjKp.refl
    · refine g_L (v := .ref 240) (n := 1) M_230 q_230_25 rfl ?_
      refine h_get M_230 q_230_26 Tw ro_240 (by decide) kd_241 (fr_240_37 Tw) ?_
      refine g_L (v := .int k) (n := 1) M_230 q_230_29 rfl ?_
      have e4 := ar_270 Tw ro_269 (j := k.toInt.toNat) (by omega)
      refine h_ald (j := k.toInt.toNat) M_230 q_230_30 Tw ro_269 (by decide) kd_270 (by omega) e4.1 ?_
      refine g_S (ls1 := [some (.ref 240), some (.int x), some (.int k), some (.int (m4X w 269 (k.toInt.toNat)))]) (st1 := []) (n := 1) M_230 q_230_31 rfl ?_
      obtain ⟨s1, s2, s3⟩ := hS k.toInt.toNat (by omega) (by omega)
      refine g_L (v := .int (m4X w 269 (k.toInt.toNat))) (n := 1) M_230 q_230_32 rfl ?_
      refine g_P (v := .int (126 : Int32)) (n := 2) M_230 q_230_33 rfl ?_
      refine g_icmp M_230 q_230_35 mjCi_ne (fun b5 => ?_) (fun b5 => ?_)
      · refine g_L (v := .int (m4X w 269 (k.toInt.toNat))) (n := 1) M_230 q_230_65 rfl ?_
        refine h_run (as := [.int (m4X w 269 (k.toInt.toNat))]) (rest := []) (M1 := mjM_183) (d1 := 0) (ls0 := [some (.int (m4X w 269 (k.toInt.toNat)))]) M_230 q_230_66 rfl M_183 (show 1 ≤ 1 by decide) (by decide) rfl (by omega) H_isLetter (fun u6 hu6 => ?_)
        refine g_if M_230 q_230_69 mjCz_eq (fun b7 => ?_) (fun b7 => ?_)
        · refine h_inc (x := x) M_230 q_230_95 rfl rfl (by omega) (by omega) rfl (fun u8 hu8 => ?_)
          show mjGo mjTb mjMt sc _ 230 (98, [some (.ref 240), some (.int u8), some (.int k), some (.int (m4X w 269 (k.toInt.toNat)))], [], w) _
          refine g_L (v := .ref 240) (n := 1) M_230 q_230_98 rfl ?_
          refine h_get M_230 q_230_99 Tw ro_240 (by decide) kd_241 (fr_240_41 Tw) ?_
          refine g_L (v := .int u8) (n := 1) M_230 q_230_102 rfl ?_
          refine g_A (st1 := [.int (1 : Int32), .int u8, .ref 273]) M_230 q_230_103 rfl ?_
          refine h_isub M_230 q_230_104 (by omega) (by omega) (fun u9 hu9 => ?_)
          refine g_L (v := .int (m4X w 269 (k.toInt.toNat))) (n := 1) M_230 q_230_105 rfl ?_
          refine g_L (v := .ref 240) (n := 1) M_230 q_230_106 rfl ?_
          refine h_get M_230 q_230_107 Tw ro_240 (by decide) kd_241 (fr_240_41 Tw) ?_
          refine g_L (v := .int u8) (n := 1) M_230 q_230_110 rfl ?_
          refine g_A (st1 := [.int (1 : Int32), .int u8, .ref 273, .int (m4X w 269 (k.toInt.toNat)), .int u9, .ref 273]) M_230 q_230_111 rfl ?_
          refine h_isub M_230 q_230_112 (by omega) (by omega) (fun u10 hu10 => ?_)
          have e11 := ar_274 Tw ro_273 (j := u10.toInt.toNat) (by omega)
          refine h_ald (j := u10.toInt.toNat) M_230 q_230_113 Tw ro_273 (by decide) kd_274 (by omega) e11.1 ?_
          refine g_L (v := .ref 240) (n := 1) M_230 q_230_114 rfl ?_
          refine h_get M_230 q_230_115 Tw ro_240 (by decide) kd_241 (fr_240_41 Tw) ?_
          refine g_L (v := .int u8) (n := 1) M_230 q_230_118 rfl ?_
          have e12 := ar_274 Tw ro_273 (j := u8.toInt.toNat) (by omega)
          refine h_ald (j := u8.toInt.toNat) M_230 q_230_119 Tw ro_273 (by decide) kd_274 (by omega) e12.1 ?_
          refine h_pure (lo := -2147483648) (hi := 2147483647) (as := [.int (m4X w 269 (k.toInt.toNat)), .int (m4X w 273 (u10.toInt.toNat)), .int (m4X w 273 (u8.toInt.toNat))]) (rest := [.int u9, .ref 273]) (M1 := mjM_232) M_230 q_230_120 rfl rfl (show 3 ≤ 3 by decide) (by decide) (show 1 ≤ d by omega) (mjC_p_1 m4_true mjHp_true) Tw ⟨⟨_, rfl, mjB.all _⟩, ⟨_, rfl, mjB.all _⟩, ⟨_, rfl, mjB.all _⟩, trivial⟩ rfl rfl rfl (fun u13 hu13 hu13a => ?_)
          refine h_ast (j := u9.toInt.toNat) M_230 q_230_123 Tw ro_273 (by decide) kd_274 ln_274 (by omega) (by omega) (m4_hasI (ta_274 _) (mjB.all _).1 (mjB.all _).2) (fun w14 Tw14 Uw14 => ?_)
          have tw14_273_x := Uw14.at
          refine h_inc (x := k) M_230 q_230_124 rfl rfl (by omega) (by omega) rfl (fun u15 hu15 => ?_)
          show mjGo mjTb mjMt sc _ 230 (127, [some (.ref 240), some (.int u8), some (.int u15), some (.int (m4X w 269 (k.toInt.toNat)))], [], w14) _
          refine g_goto M_230 q_230_127 ?_
          have kp : mjKp m4S [(274, 255)] w w14 := Uw14.kp ro_273 rfl
          obtain ⟨-, -, -, j6, -⟩ := id hJ
          have hJ2 := m4J_kp hJ kp (by decide) (by rw [kp.X (a := 240) (k := 60) ro_240 rfl, kp.X (a := 240) (k := 61) ro_240 rfl]; exact j6)
          have eb := kp.X (a := 240) (k := 42) ro_240 rfl
          have et : ∀ j, m4X w14 266 j = m4X w 266 j := fun j => kp.X ro_266 rfl
          have ec : ∀ j, m4X w14 269 j = m4X w 269 j := fun j => kp.X ro_269 rfl
          have ek : (u15).toInt.toNat = k.toInt.toNat + 1 := by omega
          exact ih w14 u8 u15 _ Tw14 hJ2 f0 (by omega) (by rw [eb, et]; omega) (by rw [ek]; omega) (by omega) (by omega) (fun j j1 j2 => by rw [ec]; rw [eb, et] at j2; exact hS j j1 j2) (fun w9 v9 T9 J9 k9 => K w9 v9 T9 J9 (kp.trans k9))
        · refine g_L (v := .ref 240) (n := 1) M_230 q_230_72 rfl ?_
          refine h_get M_230 q_230_73 Tw ro_240 (by decide) kd_241 (fr_240_41 Tw) ?_
          refine g_L (v := .int x) (n := 1) M_230 q_230_76 rfl ?_
          refine g_L (v := .ref 240) (n := 1) M_230 q_230_77 rfl ?_
          refine g_L (v := .int (m4X w 269 (k.toInt.toNat))) (n := 1) M_230 q_230_78 rfl ?_
          refine g_L (v := .ref 240) (n := 1) M_230 q_230_79 rfl ?_
          refine h_get M_230 q_230_80 Tw ro_240 (by decide) kd_241 (fr_240_38 Tw) ?_
          refine g_L (v := .int k) (n := 1) M_230 q_230_83 rfl ?_
          have e16 := ar_271 Tw ro_270 (j := k.toInt.toNat) (by omega)
          refine h_ald (j := k.toInt.toNat) M_230 q_230_84 Tw ro_270 (by decide) kd_271 (by omega) e16.1 ?_
          refine H_asked (a := (m4X w 269 (k.toInt.toNat))) (b := (m4X w 270 (k.toInt.toNat))) (rest := [.int x, .ref 273]) M_230 q_230_85 (h_cv Tw ro_240 (by decide) kd_241 (by decide) (show 2 ≤ 5 by decide) rfl (show 2 ≤ 8 by decide)) hd ⟨Tw, hJ⟩ (fun u17 => ?_)
          refine h_ast (j := x.toInt.toNat) M_230 q_230_88 Tw ro_273 (by decide) kd_274 ln_274 (by omega) (by omega) (m4_hasI (ta_274 _) (mjB.all _).1 (mjB.all _).2) (fun w18 Tw18 Uw18 => ?_)
          have tw18_273_x := Uw18.at
          refine h_inc (x := x) M_230 q_230_89 rfl rfl (by omega) (by omega) rfl (fun u19 hu19 => ?_)
          show mjGo mjTb mjMt sc _ 230 (92, [some (.ref 240), some (.int u19), some (.int k), some (.int (m4X w 269 (k.toInt.toNat)))], [], w18) _
          refine g_goto M_230 q_230_92 ?_
          refine h_inc (x := k) M_230 q_230_124 rfl rfl (by omega) (by omega) rfl (fun u20 hu20 => ?_)
          show mjGo mjTb mjMt sc _ 230 (127, [some (.ref 240), some (.int u19), some (.int u20), some (.int (m4X w 269 (k.toInt.toNat)))], [], w18) _
          refine g_goto M_230 q_230_127 ?_
          have kp : mjKp m4S [(274, 255)] w w18 := Uw18.kp ro_273 rfl
          obtain ⟨-, -, -, j6, -⟩ := id hJ
          have hJ2 := m4J_kp hJ kp (by decide) (by rw [kp.X (a := 240) (k := 60) ro_240 rfl, kp.X (a := 240) (k := 61) ro_240 rfl]; exact j6)
          have eb := kp.X (a := 240) (k := 42) ro_240 rfl
          have et : ∀ j, m4X w18 266 j = m4X w 266 j := fun j => kp.X ro_266 rfl
          have ec : ∀ j, m4X w18 269 j = m4X w 269 j := fun j => kp.X ro_269 rfl
          have ek : (u20).toInt.toNat = k.toInt.toNat + 1 := by omega
          exact ih w18 u19 u20 _ Tw18 hJ2 f0 (by omega) (by rw [eb, et]; omega) (by rw [ek]; omega) (by omega) (by omega) (fun j j1 j2 => by rw [ec]; rw [eb, et] at j2; exact hS j j1 j2) (fun w9 v9 T9 J9 k9 => K w9 v9 T9 J9 (kp.trans k9))
      · refine g_L (v := .ref 240) (n := 1) M_230 q_230_38 rfl ?_
        refine h_get M_230 q_230_39 Tw ro_240 (by decide) kd_241 (fr_240_41 Tw) ?_
        refine g_L (v := .int x) (n := 1) M_230 q_230_42 rfl ?_
        refine g_A (st1 := [.int (1 : Int32), .int x, .ref 273]) M_230 q_230_43 rfl ?_
        refine h_isub M_230 q_230_44 (by omega) (by omega) (fun u21 hu21 => ?_)
        refine g_L (v := .ref 240) (n := 1) M_230 q_230_45 rfl ?_
        refine h_get M_230 q_230_46 Tw ro_240 (by decide) kd_241 (fr_240_41 Tw) ?_
        refine g_L (v := .int x) (n := 1) M_230 q_230_49 rfl ?_
        refine g_A (st1 := [.int (1 : Int32), .int x, .ref 273, .int u21, .ref 273]) M_230 q_230_50 rfl ?_
        refine h_isub M_230 q_230_51 (by omega) (by omega) (fun u22 hu22 => ?_)
        have e23 := ar_274 Tw ro_273 (j := u22.toInt.toNat) (by omega)
        refine h_ald (j := u22.toInt.toNat) M_230 q_230_52 Tw ro_273 (by decide) kd_274 (by omega) e23.1 ?_
        refine g_if M_230 q_230_53 mjCz_ne (fun b24 => ?_) (fun b24 => ?_)
        · refine g_A (st1 := [.int (0 : Int32), .int u21, .ref 273]) M_230 q_230_60 rfl ?_
          refine h_ast (j := u21.toInt.toNat) M_230 q_230_61 Tw ro_273 (by decide) kd_274 ln_274 (by omega) (by omega) (m4_hasI (ta_274 _) (mjB.all _).1 (mjB.all _).2) (fun w25 Tw25 Uw25 => ?_)
          have tw25_273_x := Uw25.at
          refine g_goto M_230 q_230_62 ?_
          refine h_inc (x := k) M_230 q_230_124 rfl rfl (by omega) (by omega) rfl (fun u26 hu26 => ?_)
          show mjGo mjTb mjMt sc _ 230 (127, [some (.ref 240), some (.int x), some (.int u26), some (.int (m4X w 269 (k.toInt.toNat)))], [], w25) _
          refine g_goto M_230 q_230_127 ?_
          have kp : mjKp m4S [(274, 255)] w w25 := Uw25.kp ro_273 rfl
          obtain ⟨-, -, -, j6, -⟩ := id hJ
          have hJ2 := m4J_kp hJ kp (by decide) (by rw [kp.X (a := 240) (k := 60) ro_240 rfl, kp.X (a := 240) (k := 61) ro_240 rfl]; exact j6)
          have eb := kp.X (a := 240) (k := 42) ro_240 rfl
          have et : ∀ j, m4X w25 266 j = m4X w 266 j := fun j => kp.X ro_266 rfl
          have ec : ∀ j, m4X w25 269 j = m4X w 269 j := fun j => kp.X ro_269 rfl
          have ek : (u26).toInt.toNat = k.toInt.toNat + 1 := by omega
          exact ih w25 x u26 _ Tw25 hJ2 f0 (by omega) (by rw [eb, et]; omega) (by rw [ek]; omega) (by omega) (by omega) (fun j j1 j2 => by rw [ec]; rw [eb, et] at j2; exact hS j j1 j2) (fun w9 v9 T9 J9 k9 => K w9 v9 T9 J9 (kp.trans k9))
        · refine g_A (st1 := [.int (1 : Int32), .int u21, .ref 273]) M_230 q_230_56 rfl ?_
          refine g_goto M_230 q_230_57 ?_
          refine h_ast (j := u21.toInt.toNat) M_230 q_230_61 Tw ro_273 (by decide) kd_274 ln_274 (by omega) (by omega) (m4_hasI (ta_274 _) (mjB.all _).1 (mjB.all _).2) (fun w27 Tw27 Uw27 => ?_)
          have tw27_273_x := Uw27.at
          refine g_goto M_230 q_230_62 ?_
          refine h_inc (x := k) M_230 q_230_124 rfl rfl (by omega) (by omega) rfl (fun u28 hu28 => ?_)
          show mjGo mjTb mjMt sc _ 230 (127, [some (.ref 240), some (.int x), some (.int u28), some (.int (m4X w 269 (k.toInt.toNat)))], [], w27) _
          refine g_goto M_230 q_230_127 ?_
          have kp : mjKp m4S [(274, 255)] w w27 := Uw27.kp ro_273 rfl
          obtain ⟨-, -, -, j6, -⟩ := id hJ
          have hJ2 := m4J_kp hJ kp (by decide) (by rw [kp.X (a := 240) (k := 60) ro_240 rfl, kp.X (a := 240) (k := 61) ro_240 rfl]; exact j6)
          have eb := kp.X (a := 240) (k := 42) ro_240 rfl
          have et : ∀ j, m4X w27 266 j = m4X w 266 j := fun j => kp.X ro_266 rfl
          have ec : ∀ j, m4X w27 269 j = m4X w 269 j := fun j => kp.X ro_269 rfl
          have ek : (u28).toInt.toNat = k.toInt.toNat + 1 := by omega
          exact ih w27 x u28 _ Tw27 hJ2 f0 (by omega) (by rw [eb, et]; omega) (by rw [ek]; omega) (by omega) (by omega) (fun j j1 j2 => by rw [ec]; rw [eb, et] at j2; exact hS j j1 j2) (fun w9 v9 T9 J9 k9 => K w9 v9 T9 J9 (kp.trans k9))
theorem H_comes {t : Int} {b : Nat} {v : Int} (hb : b = 0 ∨ b = 1) (hv : v / 4 % 2 = 1) {sm : MjSm} (hs : sm = ([(3, 240, 240, 0, 0)], [(240, 42, (0, (b : Int), (b : Int), 0, 0)), (251, b, (0, v, v, 0, 0))], [((0, -2147483648, 2147483647, 0, 0), [], [])], [(274, 255)], 3)) : mjCtr m4S (m4J t) 230 sm := by
  subst hs
  intro sc w as M hI ha hf hM
  cases (M_230).symm.trans hM
  obtain rfl := m4_args1 ha
  have Tw := hI.1
  obtain ⟨_, q1, z1, rfl, q2, q3⟩ := hf _ List.mem_cons_self
  obtain ⟨_, r1, z2, rfl, r2, r3⟩ := hf _ (List.mem_cons_of_mem _ List.mem_cons_self)
  dsimp only at q2 q3 r2 r3
  have e1 : m4X w 240 42 = z1 := m4X_of q1
  have e2 : m4X w 251 b = z2 := m4X_of r1
  have eb : m4Bk w = b := by unfold m4Bk; rw [e1]; omega
  obtain ⟨-, -, -, -, j7⟩ := id hI.2
  rw [eb, e2] at j7
  obtain ⟨-, h, h1, h2⟩ := j7 (by rw [show z2.toInt = v by omega]; exact hv)
  have ebt : (m4X w 240 42).toInt.toNat = b := eb
  show mjGo mjTb mjMt sc (2 + 1) 230 (0, [some (.ref 240), none, none, none], [], w) _
  have k_0 := c_0
  refine g_A (st1 := [.int (0 : Int32)]) M_230 q_230_0 rfl ?_
  refine g_S (ls1 := [some (.ref 240), some (.int (0 : Int32)), none, none]) (st1 := []) (n := 1) M_230 q_230_1 rfl ?_
  refine g_L (v := .ref 240) (n := 1) M_230 q_230_2 rfl ?_
  refine h_get M_230 q_230_3 Tw ro_240 (by decide) kd_241 (fr_240_33 Tw) ?_
  refine g_L (v := .ref 240) (n := 1) M_230 q_230_6 rfl ?_
  have bw_240_42 := (fi_240_42 Tw).2
  refine h_get M_230 q_230_7 Tw ro_240 (by decide) kd_241 (fi_240_42 Tw).1 ?_
  have e1 := ar_266 Tw ro_265 (j := (m4X w 240 42).toInt.toNat) (by omega)
  refine h_ald (j := (m4X w 240 42).toInt.toNat) M_230 q_230_10 Tw ro_265 (by decide) kd_266 (by omega) e1.1 ?_
  refine g_S (ls1 := [some (.ref 240), some (.int (0 : Int32)), some (.int (m4X w 265 (m4X w 240 42).toInt.toNat)), none]) (st1 := []) (n := 1) M_230 q_230_11 rfl ?_
  have bf := (ar_266 Tw ro_265 (j := b) (by omega)).2
  rw [ebt]
  exact H_co1 (h := h) (fr := (m4X w 265 b).toInt) (by decide) ((m4X w 266 b).toInt.toNat + 1) w (0 : Int32) _ none Tw hI.2 (by omega) (by omega) (by rw [ebt]; omega) (by rw [h1]; rfl) (by decide) (by decide) (fun j j1 j2 => by rw [ebt] at j2; exact h2 j (by omega) j2) (fun w1 v1 T1 J1 k1 => m4_post rfl T1 J1 k1 (m4_ri (mjB.all v1).1 (mjB.all v1).2))
