/-! ===== the lines of a text, by hand ===== -/
theorem H_ps1 {sc : List Int32} {P : Option Value → MjW → Prop} (n : Nat) : ∀ (w : MjW) (k : Int32), mjTyd m4S w → 0 ≤ k.toInt → (m4X w 240 3).toInt - k.toInt < (n : Int) → (∀ (w1 : MjW) (k1 : Int32), mjTyd m4S w1 → mjKp m4S [(243, 255)] w w1 → mjGo mjTb mjMt sc (8 + 1) 180 (46, [some (.ref 240), some (.int k1)], [], w1) P) → mjGo mjTb mjMt sc (8 + 1) 180 (20, [some (.ref 240), some (.int k)], [], w) P := by
  induction n with
  | zero =>
    intro w k Tw a0 a1 K
    refine g_L (v := .int k) (n := 1) M_180 q_180_20 rfl ?_
    refine g_L (v := .ref 240) (n := 1) M_180 q_180_21 rfl ?_
    have bw_240_3 := (fi_240_3 Tw).2
    refine h_get M_180 q_180_22 Tw ro_240 (by decide) kd_241 (fi_240_3 Tw).1 ?_
    refine g_icmp M_180 q_180_25 mjCi_ge (fun b1 => ?_) (fun b1 => ?_)
    · exact K w k Tw mjKp.refl
    · exfalso; omega
  | succ n ih =>
    intro w k Tw a0 a1 K
    refine g_L (v := .int k) (n := 1) M_180 q_180_20 rfl ?_
    refine g_L (v := .ref 240) (n := 1) M_180 q_180_21 rfl ?_
    have bw_240_3 := (fi_240_3 Tw).2
    refine h_get M_180 q_180_22 Tw ro_240 (by decide) kd_241 (fi_240_3 Tw).1 ?_
    refine g_icmp M_180 q_180_25 mjCi_ge (fun b1 => ?_) (fun b1 => ?_)
    · exact K w k Tw mjKp.refl
    · refine g_L (v := .ref 240) (n := 1) M_180 q_180_28 rfl ?_
      refine h_get M_180 q_180_29 Tw ro_240 (by decide) kd_241 (fr_240_1 Tw) ?_
      refine g_L (v := .int k) (n := 1) M_180 q_180_32 rfl ?_
      refine g_L (v := .ref 240) (n := 1) M_180 q_180_33 rfl ?_
      refine h_get M_180 q_180_34 Tw ro_240 (by decide) kd_241 (fr_240_0 Tw) ?_
      refine g_L (v := .int k) (n := 1) M_180 q_180_37 rfl ?_
      have e2 := ar_242 Tw ro_241 (j := k.toInt.toNat) (by omega)
      refine h_bald (j := k.toInt.toNat) M_180 q_180_38 Tw ro_241 (by decide) kd_242 (by omega) e2.1 ?_
      refine h_bast (j := k.toInt.toNat) M_180 q_180_39 Tw ro_242 (by decide) kd_243 ln_243 (by omega) (by omega) (ta_243 _) (fun w3 z4 Tw3 Uw3 => ?_)
      have tw3_240_3 := Uw3.ne (b := 240) (j := 3) (by first | decide | (left; decide) | (right; omega) | (left; omega))
      refine h_inc (x := k) M_180 q_180_40 rfl rfl (by omega) (by omega) rfl (fun u5 hu5 => ?_)
      show mjGo mjTb mjMt sc _ 180 (43, [some (.ref 240), some (.int u5)], [], w3) _
      refine g_goto M_180 q_180_43 ?_
      exact ih w3 u5 Tw3 (by omega) (by omega) (fun w9 k9 T9 p9 => K w9 k9 T9 ((Uw3.kp ro_242 rfl).trans p9))
theorem H_ps2 {sc : List Int32} {P : Option Value → MjW → Prop} {w : MjW} {k : Int32} (Tw : mjTyd m4S w) (hz : ¬ (m4X w 240 4).toInt = 0) (K : mjGo mjTb mjMt sc (8 + 1) 180 (95, [some (.ref 240), some (.int k)], [], w) P) : mjGo mjTb mjMt sc (8 + 1) 180 (74, [some (.ref 240), some (.int k)], [], w) P := by
  refine g_L (v := .ref 240) (n := 1) M_180 q_180_74 rfl ?_
  refine h_run (as := [.ref 240]) (rest := []) (M1 := mjM_187) (d1 := 0) (ls0 := [some (.ref 240)]) M_180 q_180_75 (h_cv Tw ro_240 (by decide) kd_241 (by decide) (show 0 ≤ 1 by decide) rfl (show 0 ≤ 8 by decide)) M_187 (show 1 ≤ 1 by decide) (by decide) rfl (by omega) (H_isGood Tw) (fun u1 hu1 => ?_)
  refine g_if M_180 q_180_78 mjCz_eq (fun b2 => ?_) (fun b2 => ?_)
  · exact K
  · exfalso; omega
theorem H_ps3 {sc : List Int32} {b : Nat} {P : Option Value → MjW → Prop} {k : Int32} (n : Nat) : ∀ w : MjW, m4RI b w → m4Mu w < (n : Int) → (∀ w1 : MjW, m4RI b w1 → m4Kd b w w1 → mjGo mjTb mjMt sc (8 + 1) 180 (95, [some (.ref 240), some (.int k)], [], w1) P) → mjGo mjTb mjMt sc (8 + 1) 180 (74, [some (.ref 240), some (.int k)], [], w) P := by
  induction n with
  | zero =>
    intro w h hn K
    exfalso
    have m1 := (m4Mu_nn h.1 h.2.1).1
    omega
  | succ n ih =>
    intro w h hn K
    have Tw := h.1
    have he := h.2.1
    have hb := h.2.2.1
    have h43 := h.2.2.2.1
    refine g_L (v := .ref 240) (n := 1) M_180 q_180_74 rfl ?_
    refine h_run (as := [.ref 240]) (rest := []) (M1 := mjM_187) (d1 := 0) (ls0 := [some (.ref 240)]) M_180 q_180_75 (h_cv Tw ro_240 (by decide) kd_241 (by decide) (show 0 ≤ 1 by decide) rfl (show 0 ≤ 8 by decide)) M_187 (show 1 ≤ 1 by decide) (by decide) rfl (by omega) (H_isGood Tw) (fun u1 hu1 => ?_)
    refine g_if M_180 q_180_78 mjCz_eq (fun b2 => ?_) (fun b2 => ?_)
    · exact K w h m4Kd.refl
    · refine g_L (v := .ref 240) (n := 1) M_180 q_180_81 rfl ?_
      have bw_240_8 := (fi_240_8 Tw).2
      refine h_get M_180 q_180_82 Tw ro_240 (by decide) kd_241 (fi_240_8 Tw).1 ?_
      refine g_if M_180 q_180_85 mjCz_eq (fun b3 => ?_) (fun b3 => ?_)
      · exact K w h m4Kd.refl
      · refine g_L (v := .ref 240) (n := 1) M_180 q_180_88 rfl ?_
        refine g_call (d := 8) (y1 := 188) (as := [.ref 240]) (rest := []) (M1 := mjM_188) (d1 := 8) (ls0 := [some (.ref 240), none, none]) M_180 q_180_89 (h_cv Tw ro_240 (by decide) kd_241 (by decide) (show 0 ≤ 1 by decide) rfl (show 0 ≤ 8 by decide)) M_188 (show 1 ≤ 3 by decide) (by decide) rfl (by decide) (H_line h (by omega)) ?_
        rintro r w4 ⟨rfl, r1, k1, m1⟩
        have Tw4 := r1.1
        show mjGo mjTb mjMt sc _ 180 (92, [some (.ref 240), some (.int k)], [], w4) _
        refine g_goto M_180 q_180_92 ?_
        by_cases hz : (m4X w4 240 4).toInt = 0
        · have m2 := m1 hz
          exact ih w4 r1 (by omega) (fun w9 r9 k9 => K w9 r9 (k1.trans k9))
        · exact H_ps2 Tw4 hz (K w4 r1 k1)
theorem H_ps4 {sc : List Int32} {t : Int} {b : Nat} {w0 w : MjW} {k : Int32} (hJ : m4J t w0) (hb0 : m4Bk w0 = b) (h : m4RI b w) (kd : m4Kd b w0 w) : mjGo mjTb mjMt sc (8 + 1) 180 (95, [some (.ref 240), some (.int k)], [], w) (fun r w1 => mjInv m4S (m4J t) w1 ∧ mjShp w1 = mjShp w0 ∧ ∃ u : Int32, r = some (.int u)) := by
  have Tw := h.1
  have he := h.2.1
  have hb := h.2.2.1
  have h43 := h.2.2.2.1
  have k_m1 := c_m1
  refine g_L (v := .ref 240) (n := 1) M_180 q_180_95 rfl ?_
  refine h_run (as := [.ref 240]) (rest := []) (M1 := mjM_187) (d1 := 0) (ls0 := [some (.ref 240)]) M_180 q_180_96 (h_cv Tw ro_240 (by decide) kd_241 (by decide) (show 0 ≤ 1 by decide) rfl (show 0 ≤ 8 by decide)) M_187 (show 1 ≤ 1 by decide) (by decide) rfl (by omega) (H_isGood Tw) (fun u1 hu1 => ?_)
  refine g_if M_180 q_180_99 mjCz_ne (fun b2 => ?_) (fun b2 => ?_)
  · refine g_L (v := .ref 240) (n := 1) M_180 q_180_104 rfl ?_
    refine g_L (v := .ref 240) (n := 1) M_180 q_180_105 rfl ?_
    have bw_240_43 := (fi_240_43 Tw).2
    refine h_get M_180 q_180_106 Tw ro_240 (by decide) kd_241 (fi_240_43 Tw).1 ?_
    refine h_put M_180 q_180_109 Tw ro_240 (by decide) kd_241 ln_241 (by decide) (m4_fitI rfl) (m4_hasI ty_241_42 (by omega) (by omega)) (fun w3 Tw3 Uw3 => ?_)
    have tw3_240_42 := Uw3.at
    refine g_L (v := .ref 240) (n := 1) M_180 q_180_112 rfl ?_
    have hJ1 : m4J t w3 := m4J_new hJ hb0 kd h (by omega) Uw3 (by omega)
    refine h_ctr (J := m4J t) (sm := mjSm_m_635) (as := [.ref 240]) (rest := []) (M1 := mjM_177) M_180 q_180_113 (h_cv Tw3 ro_240 (by decide) kd_241 (by decide) (show 0 ≤ 1 by decide) rfl (show 0 ≤ 8 by decide)) M_177 (show 1 ≤ 2 by decide) (by decide) (by decide) (mjC_m_635 (m4_ok t) (H_m t)) ⟨Tw3, hJ1⟩ ⟨⟨240, rfl, rfl⟩, trivial⟩ (fun q hq => by cases hq) (fun r w4 hp => ?_)
    obtain ⟨rfl, ⟨Tw4, Jw4⟩, kpw4⟩ := m4_void2 hp (by decide)
    show mjGo mjTb mjMt sc _ 180 (116, [some (.ref 240), some (.int k)], [], w4) _
    refine g_L (v := .ref 240) (n := 1) M_180 q_180_116 rfl ?_
    refine h_get M_180 q_180_117 Tw4 ro_240 (by decide) kd_241 (fr_240_13 Tw4) ?_
    refine g_L (v := .ref 240) (n := 1) M_180 q_180_120 rfl ?_
    have bw4_240_42 := (fi_240_42 Tw4).2
    refine h_get M_180 q_180_121 Tw4 ro_240 (by decide) kd_241 (fi_240_42 Tw4).1 ?_
    have e5 := ar_246 Tw4 ro_245 (j := (m4X w4 240 42).toInt.toNat) (by omega)
    refine h_ald (j := (m4X w4 240 42).toInt.toNat) M_180 q_180_124 Tw4 ro_245 (by decide) kd_246 (by omega) e5.1 ?_
    refine g_ret (v := some (.int (m4X w4 245 (m4X w4 240 42).toInt.toNat))) M_180 q_180_125 (h_rtI) ?_
    exact ⟨⟨Tw4, Jw4⟩, (kpw4.1.trans Uw3.1).trans kd.1, _, rfl⟩
  · refine g_A (st1 := [.int (-1 : Int32)]) M_180 q_180_102 rfl ?_
    refine g_ret (v := some (.int (-1 : Int32))) M_180 q_180_103 (h_rtI) ?_
    exact ⟨⟨Tw, m4J_Kb hJ (by rw [hb0]; exact kd)⟩, kd.1, _, rfl⟩
theorem H_ps5 {sc : List Int32} {t : Int} {b : Nat} {w : MjW} {k : Int32} (Tw : mjTyd m4S w) (hJ : m4J t w) (hb0 : m4Bk w = b) (h43 : (m4X w 240 43).toInt = 1 - (b : Int)) (h7 : (m4X w 240 7).toInt = 0) (h4 : (m4X w 240 4).toInt = 0) : mjGo mjTb mjMt sc (8 + 1) 180 (66, [some (.ref 240), some (.int k)], [], w) (fun r w1 => mjInv m4S (m4J t) w1 ∧ mjShp w1 = mjShp w ∧ ∃ u : Int32, r = some (.int u)) := by
  have b42 := (fi_240_42 Tw).2
  have b3 := (fi_240_3 Tw).2
  have hb : b = 0 ∨ b = 1 := by unfold m4Bk at hb0; omega
  refine g_L (v := .ref 240) (n := 1) M_180 q_180_66 rfl ?_
  have go : ∀ w1 : MjW, m4RI b w1 → m4Kd b w w1 → mjGo mjTb mjMt sc (8 + 1) 180 (70, [some (.ref 240), some (.int k)], [], w1) (fun r w9 => mjInv m4S (m4J t) w9 ∧ mjShp w9 = mjShp w ∧ ∃ u : Int32, r = some (.int u)) := by
    intro w1 r1 k1
    have T1 := r1.1
    have e1 := r1.2.1
    refine g_L (v := .ref 240) (n := 1) M_180 q_180_70 rfl ?_
    refine g_call (d := 8) (y1 := 181) (as := [.ref 240]) (rest := []) (M1 := mjM_181) (d1 := 2) (ls0 := [some (.ref 240), none, none]) M_180 q_180_71 (h_cv T1 ro_240 (by decide) kd_241 (by decide) (show 0 ≤ 1 by decide) rfl (show 0 ≤ 8 by decide)) M_181 (show 1 ≤ 3 by decide) (by decide) rfl (by decide) (H_goOn (d := 1) (by decide) T1 e1) ?_
    rintro r w2 ⟨rfl, T2, k2, g1, g2⟩
    have m2 := (m4Mu_nn T2 g1).2
    exact H_ps3 3300 w2 (m4RI_kp r1 T2 g1 k2) (by omega) (fun w3 r3 k3 => H_ps4 hJ hb0 r3 ((k1.trans (m4Kb_kp k2 (by decide)).toKd).trans k3))
  rcases hb with rfl | rfl
  · have hF : mjFs0 m4S w mjSm_c_1.2.1 := by
      intro q hq
      rcases List.mem_cons.mp hq with e | hq
      · subst e; exact (m4_fsI (a := 240) (k := 43) (lo := 1) (hi := 1) (fi_240_43 Tw).1 (by omega) (by omega))
      cases hq
    refine h_ctr (J := fun _ => True) (sm := mjSm_c_1) (as := [.ref 240]) (rest := []) (M1 := mjM_176) M_180 q_180_67 (h_cv Tw ro_240 (by decide) kd_241 (by decide) (show 0 ≤ 1 by decide) rfl (show 0 ≤ 8 by decide)) M_176 (show 1 ≤ 2 by decide) (by decide) (by decide) (mjC_c_1 m4V_true) ⟨Tw, trivial⟩ ⟨⟨240, rfl, rfl⟩, trivial⟩ hF (fun r w1 hp => ?_)
    obtain ⟨rfl, ⟨T1, -⟩, kp⟩ := m4_void2 hp (by decide)
    obtain ⟨-, -, o, ho, -, -, hf⟩ := hp
    rcases List.mem_cons.mp ho with e | e
    · subst e
      obtain ⟨_, f1, x1, rfl, p1, q1⟩ := hf _ List.mem_cons_self
      obtain ⟨_, f2, x2, rfl, p2, q2⟩ := hf _ (List.mem_cons_of_mem _ List.mem_cons_self)
      obtain ⟨_, f3, x3, rfl, p3, q3⟩ := hf _ (List.mem_cons_of_mem _ (List.mem_cons_of_mem _ List.mem_cons_self))
      obtain ⟨_, f4, x4, rfl, p4, q4⟩ := hf _ (List.mem_cons_of_mem _ (List.mem_cons_of_mem _ (List.mem_cons_of_mem _ List.mem_cons_self)))
      have v1 : (m4X w1 240 44).toInt = 560 := by rw [m4X_of f1]; exact Int.le_antisymm q1 p1
      have v2 : (m4X w1 243 1).toInt = 4 := by rw [m4X_of f2]; exact Int.le_antisymm q2 p2
      have v3 : (m4X w1 244 1).toInt = 3 := by rw [m4X_of f3]; exact Int.le_antisymm q3 p3
      have v4 : (m4X w1 251 1).toInt = 0 := by rw [m4X_of f4]; exact Int.le_antisymm q4 p4
      have n7 := congrArg Int32.toInt (kp.X (a := 240) (k := 7) ro_240 (by decide))
      have n3 := congrArg Int32.toInt (kp.X (a := 240) (k := 3) ro_240 (by decide))
      have n43 := congrArg Int32.toInt (kp.X (a := 240) (k := 43) ro_240 (by decide))
      refine go w1 ⟨T1, by omega, by omega, by omega, fun _ => ⟨⟨⟨?_, ?_⟩, ?_, ?_⟩, fun q => ?_, fun q => ?_⟩⟩ (m4Kd_kp kp (by decide +kernel))
      · show 1 ≤ (m4X w1 243 1).toInt; omega
      · show (m4X w1 243 1).toInt ≤ 6; omega
      · show 1 ≤ (m4X w1 244 1).toInt; omega
      · show (m4X w1 244 1).toInt ≤ 5; omega
      · exfalso
        have q' : (m4X w1 251 1).toInt / 4 % 2 = 1 := q
        omega
      · omega
    · cases e
  · have hF : mjFs0 m4S w mjSm_c_0.2.1 := by
      intro q hq
      rcases List.mem_cons.mp hq with e | hq
      · subst e; exact (m4_fsI (a := 240) (k := 43) (lo := 0) (hi := 0) (fi_240_43 Tw).1 (by omega) (by omega))
      cases hq
    refine h_ctr (J := fun _ => True) (sm := mjSm_c_0) (as := [.ref 240]) (rest := []) (M1 := mjM_176) M_180 q_180_67 (h_cv Tw ro_240 (by decide) kd_241 (by decide) (show 0 ≤ 1 by decide) rfl (show 0 ≤ 8 by decide)) M_176 (show 1 ≤ 2 by decide) (by decide) (by decide) (mjC_c_0 m4V_true) ⟨Tw, trivial⟩ ⟨⟨240, rfl, rfl⟩, trivial⟩ hF (fun r w1 hp => ?_)
    obtain ⟨rfl, ⟨T1, -⟩, kp⟩ := m4_void2 hp (by decide)
    obtain ⟨-, -, o, ho, -, -, hf⟩ := hp
    rcases List.mem_cons.mp ho with e | e
    · subst e
      obtain ⟨_, f1, x1, rfl, p1, q1⟩ := hf _ List.mem_cons_self
      obtain ⟨_, f2, x2, rfl, p2, q2⟩ := hf _ (List.mem_cons_of_mem _ List.mem_cons_self)
      obtain ⟨_, f3, x3, rfl, p3, q3⟩ := hf _ (List.mem_cons_of_mem _ (List.mem_cons_of_mem _ List.mem_cons_self))
      obtain ⟨_, f4, x4, rfl, p4, q4⟩ := hf _ (List.mem_cons_of_mem _ (List.mem_cons_of_mem _ (List.mem_cons_of_mem _ List.mem_cons_self)))
      have v1 : (m4X w1 240 44).toInt = 0 := by rw [m4X_of f1]; exact Int.le_antisymm q1 p1
      have v2 : (m4X w1 243 0).toInt = 4 := by rw [m4X_of f2]; exact Int.le_antisymm q2 p2
      have v3 : (m4X w1 244 0).toInt = 3 := by rw [m4X_of f3]; exact Int.le_antisymm q3 p3
      have v4 : (m4X w1 251 0).toInt = 0 := by rw [m4X_of f4]; exact Int.le_antisymm q4 p4
      have n7 := congrArg Int32.toInt (kp.X (a := 240) (k := 7) ro_240 (by decide))
      have n3 := congrArg Int32.toInt (kp.X (a := 240) (k := 3) ro_240 (by decide))
      have n43 := congrArg Int32.toInt (kp.X (a := 240) (k := 43) ro_240 (by decide))
      refine go w1 ⟨T1, by omega, by omega, by omega, fun _ => ⟨⟨⟨?_, ?_⟩, ?_, ?_⟩, fun q => ?_, fun q => ?_⟩⟩ (m4Kd_kp kp (by decide +kernel))
      · show 1 ≤ (m4X w1 243 0).toInt; omega
      · show (m4X w1 243 0).toInt ≤ 6; omega
      · show 1 ≤ (m4X w1 244 0).toInt; omega
      · show (m4X w1 244 0).toInt ≤ 5; omega
      · exfalso
        have q' : (m4X w1 251 0).toInt / 4 % 2 = 1 := q
        omega
      · omega
    · cases e
theorem H_pass {sc : List Int32} {t : Int} {w : MjW} (hI : mjInv m4S (m4J t) w) : mjGo mjTb mjMt sc (8 + 1) 180 (0, [some (.ref 240), none], [], w) (fun r w1 => mjInv m4S (m4J t) w1 ∧ mjShp w1 = mjShp w ∧ ∃ u : Int32, r = some (.int u)) := by
  obtain ⟨Tw, hJ⟩ := hI
  have k_m1 := c_m1
  have k_0 := c_0
  have k_1 := c_1
  refine g_L (v := .ref 240) (n := 1) M_180 q_180_0 rfl ?_
  refine g_A (st1 := [.int (0 : Int32), .ref 240]) M_180 q_180_1 rfl ?_
  refine h_put M_180 q_180_2 Tw ro_240 (by decide) kd_241 ln_241 (by decide) (m4_fitI rfl) (m4_hasI ty_241_4 (by omega) (by omega)) (fun w1 Tw1 Uw1 => ?_)
  have tw1_240_4 := Uw1.at
  have tw1_240_3 := Uw1.ne (b := 240) (j := 3) (by decide)
  have tw1_240_7 := Uw1.ne (b := 240) (j := 7) (by decide)
  have tw1_240_42 := Uw1.ne (b := 240) (j := 42) (by decide)
  refine g_L (v := .ref 240) (n := 1) M_180 q_180_5 rfl ?_
  refine g_A (st1 := [.int (-1 : Int32), .ref 240]) M_180 q_180_6 rfl ?_
  refine h_put M_180 q_180_7 Tw1 ro_240 (by decide) kd_241 ln_241 (by decide) (m4_fitI rfl) (m4_hasI ty_241_5 (by omega) (by omega)) (fun w2 Tw2 Uw2 => ?_)
  have tw2_240_5 := Uw2.at
  have tw2_240_3 := Uw2.ne (b := 240) (j := 3) (by decide)
  have tw2_240_4 := Uw2.ne (b := 240) (j := 4) (by decide)
  have tw2_240_7 := Uw2.ne (b := 240) (j := 7) (by decide)
  have tw2_240_42 := Uw2.ne (b := 240) (j := 42) (by decide)
  refine g_L (v := .ref 240) (n := 1) M_180 q_180_10 rfl ?_
  refine g_L (v := .ref 240) (n := 1) M_180 q_180_11 rfl ?_
  have bw2_240_2 := (fi_240_2 Tw2).2
  refine h_get M_180 q_180_12 Tw2 ro_240 (by decide) kd_241 (fi_240_2 Tw2).1 ?_
  refine h_put M_180 q_180_15 Tw2 ro_240 (by decide) kd_241 ln_241 (by decide) (m4_fitI rfl) (m4_hasI ty_241_3 (by omega) (by omega)) (fun w3 Tw3 Uw3 => ?_)
  have tw3_240_3 := Uw3.at
  have tw3_240_4 := Uw3.ne (b := 240) (j := 4) (by decide)
  have tw3_240_7 := Uw3.ne (b := 240) (j := 7) (by decide)
  have tw3_240_42 := Uw3.ne (b := 240) (j := 42) (by decide)
  refine g_A (st1 := [.int (0 : Int32)]) M_180 q_180_18 rfl ?_
  refine g_S (ls1 := [some (.ref 240), some (.int (0 : Int32))]) (st1 := []) (n := 1) M_180 q_180_19 rfl ?_
  have b3w3 := (fi_240_3 Tw3).2
  refine H_ps1 1700 w3 _ Tw3 (by omega) (by omega) (fun w4 k1 Tw4 cw4 => ?_)
  have tw4_240_3 := congrArg Int32.toInt (cw4.X (a := 240) (k := 3) ro_240 rfl)
  have tw4_240_4 := congrArg Int32.toInt (cw4.X (a := 240) (k := 4) ro_240 rfl)
  have tw4_240_7 := congrArg Int32.toInt (cw4.X (a := 240) (k := 7) ro_240 rfl)
  have tw4_240_42 := congrArg Int32.toInt (cw4.X (a := 240) (k := 42) ro_240 rfl)
  refine g_L (v := .ref 240) (n := 1) M_180 q_180_46 rfl ?_
  refine g_A (st1 := [.int (0 : Int32), .ref 240]) M_180 q_180_47 rfl ?_
  refine h_put M_180 q_180_48 Tw4 ro_240 (by decide) kd_241 ln_241 (by decide) (m4_fitI rfl) (m4_hasI ty_241_2 (by omega) (by omega)) (fun w5 Tw5 Uw5 => ?_)
  have tw5_240_2 := Uw5.at
  have tw5_240_3 := Uw5.ne (b := 240) (j := 3) (by decide)
  have tw5_240_4 := Uw5.ne (b := 240) (j := 4) (by decide)
  have tw5_240_7 := Uw5.ne (b := 240) (j := 7) (by decide)
  have tw5_240_42 := Uw5.ne (b := 240) (j := 42) (by decide)
  refine g_L (v := .ref 240) (n := 1) M_180 q_180_51 rfl ?_
  refine g_A (st1 := [.int (0 : Int32), .ref 240]) M_180 q_180_52 rfl ?_
  refine h_put M_180 q_180_53 Tw5 ro_240 (by decide) kd_241 ln_241 (by decide) (m4_fitI rfl) (m4_hasI ty_241_7 (by omega) (by omega)) (fun w6 Tw6 Uw6 => ?_)
  have tw6_240_7 := Uw6.at
  have tw6_240_3 := Uw6.ne (b := 240) (j := 3) (by decide)
  have tw6_240_4 := Uw6.ne (b := 240) (j := 4) (by decide)
  have tw6_240_42 := Uw6.ne (b := 240) (j := 42) (by decide)
  refine g_L (v := .ref 240) (n := 1) M_180 q_180_56 rfl ?_
  refine g_A (st1 := [.int (1 : Int32), .ref 240]) M_180 q_180_57 rfl ?_
  refine g_L (v := .ref 240) (n := 1) M_180 q_180_58 rfl ?_
  have bw6_240_42 := (fi_240_42 Tw6).2
  refine h_get M_180 q_180_59 Tw6 ro_240 (by decide) kd_241 (fi_240_42 Tw6).1 ?_
  refine h_isub M_180 q_180_62 (by omega) (by omega) (fun u7 hu7 => ?_)
  refine h_put M_180 q_180_63 Tw6 ro_240 (by decide) kd_241 ln_241 (by decide) (m4_fitI rfl) (m4_hasI ty_241_43 (by omega) (by omega)) (fun w8 Tw8 Uw8 => ?_)
  have tw8_240_43 := Uw8.at
  have tw8_240_3 := Uw8.ne (b := 240) (j := 3) (by decide)
  have tw8_240_4 := Uw8.ne (b := 240) (j := 4) (by decide)
  have tw8_240_7 := Uw8.ne (b := 240) (j := 7) (by decide)
  have tw8_240_42 := Uw8.ne (b := 240) (j := 42) (by decide)
  have kp : mjKp m4S [(241, 2), (241, 3), (241, 4), (241, 5), (241, 7), (241, 43), (243, 255)] w w8 := (((((((aiModsIn_ok (a := [(241, 4)]) (by decide) (Uw1.kp ro_240 rfl)).trans (aiModsIn_ok (a := [(241, 5)]) (by decide) (Uw2.kp ro_240 rfl))).trans (aiModsIn_ok (a := [(241, 3)]) (by decide) (Uw3.kp ro_240 rfl))).trans (aiModsIn_ok (by decide) cw4)).trans (aiModsIn_ok (a := [(241, 2)]) (by decide) (Uw5.kp ro_240 rfl))).trans (aiModsIn_ok (a := [(241, 7)]) (by decide) (Uw6.kp ro_240 rfl))).trans (aiModsIn_ok (a := [(241, 43)]) (by decide) (Uw8.kp ro_240 rfl)))
  have j6 := hJ.2.2.2.1
  have J1 : m4J t w8 := m4J_kp hJ kp (by decide) (by rw [kp.X (a := 240) (k := 60) ro_240 rfl, kp.X (a := 240) (k := 61) ro_240 rfl]; exact j6)
  have b42 := (fi_240_42 Tw8).2
  refine (H_ps5 (b := m4Bk w8) Tw8 J1 rfl (by unfold m4Bk; omega) (by omega) (by omega)).imp (fun r w9 q => ⟨q.1, q.2.1.trans kp.1, q.2.2⟩)
