/-! ===== by hand ===== -/
def m4Fx (f K N T : Nat) : Prop := (f = 10 ∧ K = 11 ∧ N = 12 ∧ T = 13) ∨ (f = 201 ∧ K = 202 ∧ N = 203 ∧ T = 204)
theorem m4Fx_ro {f K N T : Nat} (h : m4Fx f K N T) : m4S.1 f = 11 ∧ m4S.1 K = 12 ∧ m4S.1 N = 13 ∧ m4S.1 T = 14 := by
  rcases h with ⟨rfl, rfl, rfl, rfl⟩ | ⟨rfl, rfl, rfl, rfl⟩
  · exact ⟨m4r_10, m4r_11, m4r_12, m4r_13⟩
  · exact ⟨m4r_201, m4r_202, m4r_203, m4r_204⟩
theorem m4Fx_ne {f K N T : Nat} (h : m4Fx f K N T) : f ≠ K ∧ f ≠ N ∧ f ≠ T ∧ K ≠ N ∧ K ≠ T ∧ N ≠ T := by
  rcases h with ⟨rfl, rfl, rfl, rfl⟩ | ⟨rfl, rfl, rfl, rfl⟩ <;> decide
theorem m4Fx_J {t : Int} {w : MjW} {f K N T : Nat} (h : m4Fx f K N T) (hJ : m4J t w) : m4F w f K N T := by
  rcases h with ⟨rfl, rfl, rfl, rfl⟩ | ⟨rfl, rfl, rfl, rfl⟩
  · exact hJ.1.1
  · exact hJ.1.2
theorem m4Fx_of {f : Nat} (h : (m4S.1 f : Int) = 11) : ∃ K N T, m4Fx f K N T := by
  have h1 : m4S.1 f = 11 := by omega
  have key : ∀ f, f < 290 → m4S.1 f = 11 → f = 10 ∨ f = 201 := by decide +kernel
  have hlt : f < 290 := by
    have h2 : (bif Nat.blt f mjN0 then m4Ro f else 0) = 11 := h1
    cases e : Nat.blt f mjN0 with
    | true => exact Nat.le_of_ble_eq_true e
    | false => rw [e] at h2; cases h2
  rcases key f hlt h1 with rfl | rfl
  · exact ⟨11, 12, 13, Or.inl ⟨rfl, rfl, rfl, rfl⟩⟩
  · exact ⟨202, 203, 204, Or.inr ⟨rfl, rfl, rfl, rfl⟩⟩
theorem m4J_form {t : Int} {w w1 : MjW} {f K N T : Nat} (hx : m4Fx f K N T) (h : m4J t w) (ho : ∀ b j, b ≠ f → b ≠ K → b ≠ N → mjFld w1 b j = mjFld w b j) (hF : m4F w1 f K N T) : m4J t w1 := by
  have hX : ∀ b j, b ≠ f → b ≠ K → b ≠ N → m4X w1 b j = m4X w b j := fun b j h1 h2 h3 => by unfold m4X; rw [ho b j h1 h2 h3]
  obtain ⟨⟨j1, j2⟩, ⟨j3, j4⟩, j5, j6, j7⟩ := h
  have big : ∀ b, b ≠ 10 → b ≠ 11 → b ≠ 12 → b ≠ 201 → b ≠ 202 → b ≠ 203 → ∀ j, m4X w1 b j = m4X w b j := by
    intro b b1 b2 b3 b4 b5 b6 j
    rcases hx with ⟨rfl, rfl, rfl, rfl⟩ | ⟨rfl, rfl, rfl, rfl⟩
    · exact hX b j b1 b2 b3
    · exact hX b j b4 b5 b6
  have eb : m4Bk w1 = m4Bk w := by unfold m4Bk; rw [big 240 (by decide) (by decide) (by decide) (by decide) (by decide) (by decide)]
  refine ⟨?_, ⟨by rw [big 185 (by decide) (by decide) (by decide) (by decide) (by decide) (by decide)]; exact j3, by rw [big 240 (by decide) (by decide) (by decide) (by decide) (by decide) (by decide)]; exact j4⟩, ?_, ?_, ?_⟩
  · rcases hx with ⟨rfl, rfl, rfl, rfl⟩ | ⟨rfl, rfl, rfl, rfl⟩
    · exact ⟨hF, m4F_ag j2 (fun j _ => ho 201 j (by decide) (by decide) (by decide)) (fun j => hX 202 j (by decide) (by decide) (by decide)) (fun j => hX 203 j (by decide) (by decide) (by decide))⟩
    · exact ⟨m4F_ag j1 (fun j _ => ho 10 j (by decide) (by decide) (by decide)) (fun j => hX 11 j (by decide) (by decide) (by decide)) (fun j => hX 12 j (by decide) (by decide) (by decide)), hF⟩
  · rw [eb, big 243 (by decide) (by decide) (by decide) (by decide) (by decide) (by decide), big 244 (by decide) (by decide) (by decide) (by decide) (by decide) (by decide)]; exact j5
  · rw [big 240 (by decide) (by decide) (by decide) (by decide) (by decide) (by decide), big 240 (by decide) (by decide) (by decide) (by decide) (by decide) (by decide)]; exact j6
  · rw [eb, big 251 (by decide) (by decide) (by decide) (by decide) (by decide) (by decide)]
    intro hb
    exact m4Sf_ag (j7 hb) (big 265 (by decide) (by decide) (by decide) (by decide) (by decide) (by decide) _) (big 266 (by decide) (by decide) (by decide) (by decide) (by decide) (by decide) _) (fun k _ _ => big 269 (by decide) (by decide) (by decide) (by decide) (by decide) (by decide) k)
theorem m4F_add {w w1 w2 w3 : MjW} {f K N T s s2 : Nat} {a b : Int32} {v : Value} (hx : m4Fx f K N T) (hF : m4F w f K N T) (u1 : m4Up w w1 K s (.int a)) (u2 : m4Up w1 w2 N s2 (.int b)) (hs : s2 = s) (u3 : m4Up w2 w3 f 3 v) (hab : a.toInt = 1 → 0 ≤ b.toInt ∧ b.toInt ≤ 5) : m4F w3 f K N T ∧ ∀ c j, c ≠ f → c ≠ K → c ≠ N → mjFld w3 c j = mjFld w c j := by
  obtain ⟨n1, n2, n3, n4, n5, n6⟩ := m4Fx_ne hx
  subst hs
  obtain ⟨f0, f1, f2, f3⟩ := hF
  have ff : ∀ j, j ≠ 3 → mjFld w3 f j = mjFld w f j := fun j hj => ((u3.fld (Or.inr hj)).trans (u2.fld (Or.inl n2))).trans (u1.fld (Or.inl n1))
  refine ⟨⟨(ff 0 (by decide)).trans f0, (ff 1 (by decide)).trans f1, (ff 2 (by decide)).trans f2, fun i hi => ?_⟩, fun c j c1 c2 c3 => ((u3.fld (Or.inl c1)).trans (u2.fld (Or.inl c3))).trans (u1.fld (Or.inl c2))⟩
  have eK : m4X w3 K i = m4X w1 K i := (u3.X (Or.inl (Ne.symm n1))).trans (u2.X (Or.inl n4))
  have eN : m4X w3 N i = m4X w2 N i := u3.X (Or.inl (Ne.symm n2))
  rw [eK] at hi
  rw [eN]
  by_cases e : i = s2
  · subst e
    rw [u1.at] at hi
    rw [u2.at]
    exact hab hi
  · rw [u1.X (Or.inr e)] at hi
    rw [u2.X (Or.inr e), u1.X (Or.inl (Ne.symm n4))]
    exact f3 i hi
theorem H_add2 {t : Int} {sc : List Int32} {d : Nat} {P : Option Value → MjW → Prop} {f K N T : Nat} (hx : m4Fx f K N T) {w : MjW} {a b : Int32} (Tw : mjTyd m4S w) (hJ : m4J t w) (k : ∀ w1 : MjW, mjTyd m4S w1 → m4J t w1 → mjKp m4S [(11, 3), (11, 6), (12, 255), (13, 255)] w w1 → P none w1) : mjGo mjTb mjMt sc d 58 (40, [some (.ref f), some (.int a), some (.int b)], [], w) P := by
  obtain ⟨hf0, hK, hN, hTT⟩ := m4Fx_ro hx
  obtain ⟨n1, n2, n3, n4, n5, n6⟩ := m4Fx_ne hx
  have hF := m4Fx_J hx hJ
  obtain ⟨F0w, F1w, F2w, F3w⟩ := id hF
  have k_0 := c_0
  have k_1 := c_1
  have k_2 := c_2
  refine g_L (v := .ref f) (n := 1) M_58 q_58_40 rfl ?_
  refine g_A (st1 := [.ref f, .ref f]) M_58 q_58_41 rfl ?_
  have bw_f_6 := (fj_11_6 hf0 Tw).2
  refine h_get M_58 q_58_42 Tw hf0 (by decide) kd_11 (fj_11_6 hf0 Tw).1 ?_
  refine g_L (v := .int a) (n := 1) M_58 q_58_45 rfl ?_
  refine g_A (st1 := [.int (1 : Int32), .int a, .int (m4X w f 6), .ref f]) M_58 q_58_46 rfl ?_
  refine g_icmp M_58 q_58_47 mjCi_ne (fun b1 => ?_) (fun b1 => ?_)
  · refine g_A (st1 := [.int (0 : Int32), .int (m4X w f 6), .ref f]) M_58 q_58_59 rfl ?_
    refine h_ior M_58 q_58_60 (by omega) (by omega) (by omega) (by omega) (fun u2 hu2 hu2a => ?_)
    refine h_put M_58 q_58_61 Tw hf0 (by decide) kd_11 ln_11 (by decide) (m4_fitZ rfl (by omega) (by omega)) (m4_hasI ty_11_6 (by omega) (by omega)) (fun w3 Tw3 Uw3 => ?_)
    have tw3_f_6 := Uw3.at
    have F0w3 := (Uw3.fld (b := f) (j := 0) (Or.inr (by decide))).trans F0w
    have F1w3 := (Uw3.fld (b := f) (j := 1) (Or.inr (by decide))).trans F1w
    have F2w3 := (Uw3.fld (b := f) (j := 2) (Or.inr (by decide))).trans F2w
    refine g_ret (v := none) M_58 q_58_64 rfl ?_
    have kp : mjKp m4S [(11, 6)] w w3 := Uw3.kp hf0 rfl
    obtain ⟨-, -, -, j6, -⟩ := id hJ
    exact k w3 Tw3 (m4J_kp hJ kp (by decide) (by rw [kp.X (a := 240) (k := 60) ro_240 rfl, kp.X (a := 240) (k := 61) ro_240 rfl]; exact j6)) (aiModsIn_ok (by decide) kp)
  · refine g_L (v := .int b) (n := 1) M_58 q_58_50 rfl ?_
    refine g_A (st1 := [.int (2 : Int32), .int b, .int (m4X w f 6), .ref f]) M_58 q_58_51 rfl ?_
    refine g_icmp M_58 q_58_52 mjCi_ne (fun b4 => ?_) (fun b4 => ?_)
    · refine g_A (st1 := [.int (0 : Int32), .int (m4X w f 6), .ref f]) M_58 q_58_59 rfl ?_
      refine h_ior M_58 q_58_60 (by omega) (by omega) (by omega) (by omega) (fun u5 hu5 hu5a => ?_)
      refine h_put M_58 q_58_61 Tw hf0 (by decide) kd_11 ln_11 (by decide) (m4_fitZ rfl (by omega) (by omega)) (m4_hasI ty_11_6 (by omega) (by omega)) (fun w6 Tw6 Uw6 => ?_)
      have tw6_f_6 := Uw6.at
      have F0w6 := (Uw6.fld (b := f) (j := 0) (Or.inr (by decide))).trans F0w
      have F1w6 := (Uw6.fld (b := f) (j := 1) (Or.inr (by decide))).trans F1w
      have F2w6 := (Uw6.fld (b := f) (j := 2) (Or.inr (by decide))).trans F2w
      refine g_ret (v := none) M_58 q_58_64 rfl ?_
      have kp : mjKp m4S [(11, 6)] w w6 := Uw6.kp hf0 rfl
      obtain ⟨-, -, -, j6, -⟩ := id hJ
      exact k w6 Tw6 (m4J_kp hJ kp (by decide) (by rw [kp.X (a := 240) (k := 60) ro_240 rfl, kp.X (a := 240) (k := 61) ro_240 rfl]; exact j6)) (aiModsIn_ok (by decide) kp)
    · refine g_A (st1 := [.int (1 : Int32), .int (m4X w f 6), .ref f]) M_58 q_58_55 rfl ?_
      refine g_goto M_58 q_58_56 ?_
      refine h_ior M_58 q_58_60 (by omega) (by omega) (by omega) (by omega) (fun u7 hu7 hu7a => ?_)
      refine h_put M_58 q_58_61 Tw hf0 (by decide) kd_11 ln_11 (by decide) (m4_fitZ rfl (by omega) (by omega)) (m4_hasI ty_11_6 (by omega) (by omega)) (fun w8 Tw8 Uw8 => ?_)
      have tw8_f_6 := Uw8.at
      have F0w8 := (Uw8.fld (b := f) (j := 0) (Or.inr (by decide))).trans F0w
      have F1w8 := (Uw8.fld (b := f) (j := 1) (Or.inr (by decide))).trans F1w
      have F2w8 := (Uw8.fld (b := f) (j := 2) (Or.inr (by decide))).trans F2w
      refine g_ret (v := none) M_58 q_58_64 rfl ?_
      have kp : mjKp m4S [(11, 6)] w w8 := Uw8.kp hf0 rfl
      obtain ⟨-, -, -, j6, -⟩ := id hJ
      exact k w8 Tw8 (m4J_kp hJ kp (by decide) (by rw [kp.X (a := 240) (k := 60) ro_240 rfl, kp.X (a := 240) (k := 61) ro_240 rfl]; exact j6)) (aiModsIn_ok (by decide) kp)
theorem H_add1 {t : Int} {sc : List Int32} {d : Nat} {P : Option Value → MjW → Prop} {f K N T : Nat} (hx : m4Fx f K N T) {w : MjW} {a b : Int32} (Tw : mjTyd m4S w) (hJ : m4J t w) (hab : a.toInt = 1 → 0 ≤ b.toInt ∧ b.toInt ≤ 5) (k : ∀ w1 : MjW, mjTyd m4S w1 → m4J t w1 → mjKp m4S [(11, 3), (11, 6), (12, 255), (13, 255)] w w1 → P none w1) : mjGo mjTb mjMt sc d 58 (0, [some (.ref f), some (.int a), some (.int b)], [], w) P := by
  obtain ⟨hf0, hK, hN, hTT⟩ := m4Fx_ro hx
  obtain ⟨n1, n2, n3, n4, n5, n6⟩ := m4Fx_ne hx
  have hF := m4Fx_J hx hJ
  obtain ⟨F0w, F1w, F2w, F3w⟩ := id hF
  have ba := mjB.all a
  have bb := mjB.all b
  have ba1 := ba.1
  have ba2 := ba.2
  have bb1 := bb.1
  have bb2 := bb.2
  have k_1 := c_1
  have k_270 := c_270
  refine g_L (v := .ref f) (n := 1) M_58 q_58_0 rfl ?_
  have bw_f_3 := (fj_11_3 hf0 Tw).2
  refine h_get M_58 q_58_1 Tw hf0 (by decide) kd_11 (fj_11_3 hf0 Tw).1 ?_
  refine g_P (v := .int (270 : Int32)) (n := 3) M_58 q_58_4 rfl ?_
  refine g_icmp M_58 q_58_7 mjCi_ge (fun b1 => ?_) (fun b1 => ?_)
  · exact H_add2 hx Tw hJ k
  · refine g_L (v := .ref f) (n := 1) M_58 q_58_10 rfl ?_
    refine h_get M_58 q_58_11 Tw hf0 (by decide) kd_11 (F0w) ?_
    refine g_L (v := .ref f) (n := 1) M_58 q_58_14 rfl ?_
    have bw_f_3 := (fj_11_3 hf0 Tw).2
    refine h_get M_58 q_58_15 Tw hf0 (by decide) kd_11 (fj_11_3 hf0 Tw).1 ?_
    refine g_L (v := .int a) (n := 1) M_58 q_58_18 rfl ?_
    refine h_ast (j := (m4X w f 3).toInt.toNat) M_58 q_58_19 Tw hK (by decide) kd_12 ln_12 (by omega) (by omega) (m4_hasI (ta_12 _) (by omega) (by omega)) (fun w2 Tw2 Uw2 => ?_)
    have tw2_K_x := Uw2.at
    have tw2_f_3 := Uw2.ne (b := f) (j := 3) (by first | decide | (left; decide) | (right; omega) | (left; omega))
    have F0w2 := (Uw2.fld (b := f) (j := 0) (Or.inl (by omega))).trans F0w
    have F1w2 := (Uw2.fld (b := f) (j := 1) (Or.inl (by omega))).trans F1w
    have F2w2 := (Uw2.fld (b := f) (j := 2) (Or.inl (by omega))).trans F2w
    refine g_L (v := .ref f) (n := 1) M_58 q_58_20 rfl ?_
    refine h_get M_58 q_58_21 Tw2 hf0 (by decide) kd_11 (F1w2) ?_
    refine g_L (v := .ref f) (n := 1) M_58 q_58_24 rfl ?_
    have bw2_f_3 := (fj_11_3 hf0 Tw2).2
    refine h_get M_58 q_58_25 Tw2 hf0 (by decide) kd_11 (fj_11_3 hf0 Tw2).1 ?_
    refine g_L (v := .int b) (n := 1) M_58 q_58_28 rfl ?_
    refine h_ast (j := (m4X w2 f 3).toInt.toNat) M_58 q_58_29 Tw2 hN (by decide) kd_13 ln_13 (by omega) (by omega) (m4_hasI (ta_13 _) (by omega) (by omega)) (fun w3 Tw3 Uw3 => ?_)
    have tw3_N_x := Uw3.at
    have tw3_f_3 := Uw3.ne (b := f) (j := 3) (by first | decide | (left; decide) | (right; omega) | (left; omega))
    have F0w3 := (Uw3.fld (b := f) (j := 0) (Or.inl (by omega))).trans F0w2
    have F1w3 := (Uw3.fld (b := f) (j := 1) (Or.inl (by omega))).trans F1w2
    have F2w3 := (Uw3.fld (b := f) (j := 2) (Or.inl (by omega))).trans F2w2
    refine g_L (v := .ref f) (n := 1) M_58 q_58_30 rfl ?_
    refine g_A (st1 := [.ref f, .ref f]) M_58 q_58_31 rfl ?_
    have bw3_f_3 := (fj_11_3 hf0 Tw3).2
    refine h_get M_58 q_58_32 Tw3 hf0 (by decide) kd_11 (fj_11_3 hf0 Tw3).1 ?_
    refine g_A (st1 := [.int (1 : Int32), .int (m4X w3 f 3), .ref f]) M_58 q_58_35 rfl ?_
    refine h_iadd M_58 q_58_36 (by omega) (by omega) (fun u4 hu4 => ?_)
    refine h_put M_58 q_58_37 Tw3 hf0 (by decide) kd_11 ln_11 (by decide) (m4_fitI rfl) (m4_hasI ty_11_3 (by omega) (by omega)) (fun w5 Tw5 Uw5 => ?_)
    have tw5_f_3 := Uw5.at
    have F0w5 := (Uw5.fld (b := f) (j := 0) (Or.inr (by decide))).trans F0w3
    have F1w5 := (Uw5.fld (b := f) (j := 1) (Or.inr (by decide))).trans F1w3
    have F2w5 := (Uw5.fld (b := f) (j := 2) (Or.inr (by decide))).trans F2w3
    obtain ⟨hF3, ho⟩ := m4F_add hx hF Uw2 Uw3 (by omega) Uw5 hab
    refine H_add2 hx Tw5 (m4J_form hx hJ ho hF3) (fun w9 T9 J9 k9 => k w9 T9 J9 ?_)
    exact (((aiModsIn_ok (by decide) (Uw2.kp (mods := [(12, 255)]) hK rfl)).trans (aiModsIn_ok (by decide) (Uw3.kp (mods := [(13, 255)]) hN rfl))).trans (aiModsIn_ok (by decide) (Uw5.kp (mods := [(11, 3)]) hf0 rfl))).trans k9
theorem H_addC0 {t : Int} {sm : MjSm} (hs : sm = ([(2, 11, 11, 0, 0), (0, -2147483648, 2147483647, 0, 0), (0, 0, 5, 0, 0)], [], [((7, 0, 0, 0, 0), [], [])], [(11, 3), (11, 6), (12, 255), (13, 255)], 1)) : mjCtr m4S (m4J t) 58 sm := by
  subst hs
  intro sc w as M hI ha hf hM
  cases (M_58).symm.trans hM
  obtain ⟨f, a, b, rfl, f1, a1, b1⟩ : ∃ (f : Nat) (a b : Int32), as = [.ref f, .int a, .int b] ∧ (m4S.1 f : Int) = 11 ∧ mjB a (-2147483648) 2147483647 ∧ mjB b 0 5 := by
    match as, ha with
    | [_, _, _], ⟨⟨f, e0, f1⟩, ⟨a, e1, a1⟩, ⟨b, e2, b1⟩, _⟩ => subst e0; subst e1; subst e2; exact ⟨f, a, b, rfl, f1, a1, b1⟩
  obtain ⟨K, N, T, hx⟩ := m4Fx_of f1
  show mjGo mjTb mjMt sc 1 58 (0, [some (.ref f), some (.int a), some (.int b)], [], w) _
  exact H_add1 hx hI.1 hI.2 (fun _ => ⟨b1.1, b1.2⟩) (fun w1 T1 J1 k1 => m4_post rfl T1 J1 k1 m4_rv)
theorem H_addC1 {t : Int} {sm : MjSm} (hs : sm = ([(2, 11, 11, 0, 0), (0, 0, 0, 0, 0), (0, -2147483648, 2147483647, 0, 0)], [], [((7, 0, 0, 0, 0), [], [])], [(11, 3), (11, 6), (12, 255), (13, 255)], 1)) : mjCtr m4S (m4J t) 58 sm := by
  subst hs
  intro sc w as M hI ha hf hM
  cases (M_58).symm.trans hM
  obtain ⟨f, a, b, rfl, f1, a1, b1⟩ : ∃ (f : Nat) (a b : Int32), as = [.ref f, .int a, .int b] ∧ (m4S.1 f : Int) = 11 ∧ mjB a 0 0 ∧ mjB b (-2147483648) 2147483647 := by
    match as, ha with
    | [_, _, _], ⟨⟨f, e0, f1⟩, ⟨a, e1, a1⟩, ⟨b, e2, b1⟩, _⟩ => subst e0; subst e1; subst e2; exact ⟨f, a, b, rfl, f1, a1, b1⟩
  obtain ⟨K, N, T, hx⟩ := m4Fx_of f1
  show mjGo mjTb mjMt sc 1 58 (0, [some (.ref f), some (.int a), some (.int b)], [], w) _
  exact H_add1 hx hI.1 hI.2 (fun h => by have h1 := a1.1; have h2 := a1.2; omega) (fun w1 T1 J1 k1 => m4_post rfl T1 J1 k1 m4_rv)
