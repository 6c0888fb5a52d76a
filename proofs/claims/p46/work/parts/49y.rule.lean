/-! ===== the parser, by hand ===== -/
theorem h_ior63 {sc : List Int32} {d y pc : Nat} {ls : MjL} {st : List Value} {w : MjW} {P : Option Value → MjW → Prop} {M : MjM} {inf : List Nat} {len : Nat} {x z : Int32} (hM : mjMt y = some M) (hq : mjTb y pc = some (.ior, len, 0, inf)) (h1 : 0 ≤ x.toInt) (h2 : x.toInt ≤ 63) (h3 : 0 ≤ z.toInt) (h4 : z.toInt ≤ 63) (k : ∀ u : Int32, u = x ||| z → 0 ≤ u.toInt → u.toInt ≤ 63 → mjGo mjTb mjMt sc d y (pc + 1, ls, .int u :: st, w) P) : mjGo mjTb mjMt sc d y (pc, ls, .int z :: .int x :: st, w) P := by
  obtain ⟨⟨a1, a2⟩, -⟩ := mj_or (m := 63) (by decide) h1 h3 h2 h4
  exact g_A hM hq rfl (k _ rfl a1 a2)
theorem m4_n64 {x : Int32} (h0 : 0 ≤ x.toInt) (h1 : x.toInt ≤ 63) : ∃ n : Nat, n < 64 ∧ x = Int32.ofInt (n : Int) := ⟨x.toInt.toNat, by omega, by rw [Int.toNat_of_nonneg h0]; exact (Int32.ofInt_toInt x).symm⟩
theorem m4_o4n : ∀ n : Nat, n < 64 → (Int32.ofInt (n : Int) ||| 4).toInt / 4 % 2 = 1 := by decide +kernel
theorem m4_o4 {x : Int32} (h0 : 0 ≤ x.toInt) (h1 : x.toInt ≤ 63) : (x ||| 4).toInt / 4 % 2 = 1 := by
  obtain ⟨n, hn, rfl⟩ := m4_n64 h0 h1
  exact m4_o4n n hn
/-- the heights of what was emitted are those of the rule -/
theorem m4Sf_of {w : MjW} {r : Nat} {fr : Int} (h0 : 0 ≤ fr) (h : m4Hs w fr 1) (h1 : (m4X w 265 r).toInt = fr) (h2 : (m4X w 266 r).toInt = (m4X w 240 44).toInt) (h3 : fr = 560 * (r : Int)) (h4 : (m4X w 240 44).toInt ≤ fr + 560) : m4Sf w r := by
  obtain ⟨f, f1, f2, -⟩ := h
  refine ⟨⟨by omega, by omega⟩, f, by rw [h1]; exact f1, fun k k1 k2 => f2 k (by omega) (by omega)⟩
theorem H_rule {sc : List Int32} {b : Nat} {fr : Int} {w : MjW} (Tw : mjTyd m4S w) (he : (m4X w 240 7).toInt ≤ (m4X w 240 3).toInt) (hb : b = 0 ∨ b = 1) (h43 : (m4X w 240 43).toInt = 1 - (b : Int)) (hfr : fr = 560 * (1 - (b : Int))) (h44 : (m4X w 240 44).toInt = fr) (hg : (m4X w 240 4).toInt = 0) : mjGo mjTb mjMt sc (6 + 1) 206 (0, [some (.ref 240)], [], w) (fun r w1 => r = none ∧ mjTyd m4S w1 ∧ m4Kd b w w1 ∧ (∀ a k, a = 243 ∨ a = 244 → m4X w1 a k = m4X w a k) ∧ (m4X w1 240 7).toInt ≤ (m4X w1 240 3).toInt ∧ (¬ (m4X w1 240 4).toInt = 0 ∨ ((m4X w1 240 4).toInt = 0 ∧ m4Mu w1 ≤ m4Mu w ∧ m4Sf w1 (1 - b) ∧ (m4X w1 251 (1 - b)).toInt / 4 % 2 = 1))) := by
  have k_0 := c_0
  have k_4 := c_4
  refine g_L (v := .ref 240) (n := 1) M_206 q_206_0 rfl ?_
  refine h_get M_206 q_206_1 Tw ro_240 (by decide) kd_241 (fr_240_19 Tw) ?_
  refine g_L (v := .ref 240) (n := 1) M_206 q_206_4 rfl ?_
  have bw_240_43 := (fi_240_43 Tw).2
  refine h_get M_206 q_206_5 Tw ro_240 (by decide) kd_241 (fi_240_43 Tw).1 ?_
  refine g_A (st1 := [.int (m4X w 240 43), .ref 251, .int (m4X w 240 43), .ref 251]) M_206 q_206_8 rfl ?_
  have e1 := ar_252 Tw ro_251 (j := (m4X w 240 43).toInt.toNat) (by omega)
  refine h_ald (j := (m4X w 240 43).toInt.toNat) M_206 q_206_9 Tw ro_251 (by decide) kd_252 (by omega) e1.1 ?_
  refine g_A (st1 := [.int (4 : Int32), .int (m4X w 251 (m4X w 240 43).toInt.toNat), .int (m4X w 240 43), .ref 251]) M_206 q_206_10 rfl ?_
  refine h_ior63 M_206 q_206_11 (by omega) (by omega) (by omega) (by omega) (fun u2 hu2 hu2a hu2b => ?_)
  refine h_ast (j := (m4X w 240 43).toInt.toNat) M_206 q_206_12 Tw ro_251 (by decide) kd_252 ln_252 (by omega) (by omega) (m4_hasI (ta_252 _) (by omega) (by omega)) (fun w3 Tw3 Uw3 => ?_)
  have tw3_251_x := Uw3.at
  have tw3_240_3 := Uw3.ne (b := 240) (j := 3) (by first | decide | (left; decide) | (right; omega) | (left; omega))
  have tw3_240_4 := Uw3.ne (b := 240) (j := 4) (by first | decide | (left; decide) | (right; omega) | (left; omega))
  have tw3_240_7 := Uw3.ne (b := 240) (j := 7) (by first | decide | (left; decide) | (right; omega) | (left; omega))
  have tw3_240_8 := Uw3.ne (b := 240) (j := 8) (by first | decide | (left; decide) | (right; omega) | (left; omega))
  have tw3_240_43 := Uw3.ne (b := 240) (j := 43) (by first | decide | (left; decide) | (right; omega) | (left; omega))
  have tw3_240_44 := Uw3.ne (b := 240) (j := 44) (by first | decide | (left; decide) | (right; omega) | (left; omega))
  have tw3_240_45 := Uw3.ne (b := 240) (j := 45) (by first | decide | (left; decide) | (right; omega) | (left; omega))
  have tw3_240_46 := Uw3.ne (b := 240) (j := 46) (by first | decide | (left; decide) | (right; omega) | (left; omega))
  have tw3_240_47 := Uw3.ne (b := 240) (j := 47) (by first | decide | (left; decide) | (right; omega) | (left; omega))
  refine g_L (v := .ref 240) (n := 1) M_206 q_206_13 rfl ?_
  refine g_A (st1 := [.int (0 : Int32), .ref 240]) M_206 q_206_14 rfl ?_
  refine h_put M_206 q_206_15 Tw3 ro_240 (by decide) kd_241 ln_241 (by decide) (m4_fitI rfl) (m4_hasI ty_241_47 (by omega) (by omega)) (fun w4 Tw4 Uw4 => ?_)
  have tw4_240_47 := Uw4.at
  have tw4_240_3 := Uw4.ne (b := 240) (j := 3) (by decide)
  have tw4_240_4 := Uw4.ne (b := 240) (j := 4) (by decide)
  have tw4_240_7 := Uw4.ne (b := 240) (j := 7) (by decide)
  have tw4_240_8 := Uw4.ne (b := 240) (j := 8) (by decide)
  have tw4_240_43 := Uw4.ne (b := 240) (j := 43) (by decide)
  have tw4_240_44 := Uw4.ne (b := 240) (j := 44) (by decide)
  have tw4_240_45 := Uw4.ne (b := 240) (j := 45) (by decide)
  have tw4_240_46 := Uw4.ne (b := 240) (j := 46) (by decide)
  refine g_L (v := .ref 240) (n := 1) M_206 q_206_18 rfl ?_
  refine h_get M_206 q_206_19 Tw4 ro_240 (by decide) kd_241 (fr_240_33 Tw4) ?_
  refine g_L (v := .ref 240) (n := 1) M_206 q_206_22 rfl ?_
  have bw4_240_43 := (fi_240_43 Tw4).2
  refine h_get M_206 q_206_23 Tw4 ro_240 (by decide) kd_241 (fi_240_43 Tw4).1 ?_
  refine g_L (v := .ref 240) (n := 1) M_206 q_206_26 rfl ?_
  have bw4_240_44 := (fi_240_44 Tw4).2
  refine h_get M_206 q_206_27 Tw4 ro_240 (by decide) kd_241 (fi_240_44 Tw4).1 ?_
  refine h_ast (j := (m4X w4 240 43).toInt.toNat) M_206 q_206_30 Tw4 ro_265 (by decide) kd_266 ln_266 (by omega) (by omega) (m4_hasI (ta_266 _) (by omega) (by omega)) (fun w5 Tw5 Uw5 => ?_)
  have tw5_265_x := Uw5.at
  have tw5_240_3 := Uw5.ne (b := 240) (j := 3) (by first | decide | (left; decide) | (right; omega) | (left; omega))
  have tw5_240_4 := Uw5.ne (b := 240) (j := 4) (by first | decide | (left; decide) | (right; omega) | (left; omega))
  have tw5_240_7 := Uw5.ne (b := 240) (j := 7) (by first | decide | (left; decide) | (right; omega) | (left; omega))
  have tw5_240_8 := Uw5.ne (b := 240) (j := 8) (by first | decide | (left; decide) | (right; omega) | (left; omega))
  have tw5_240_43 := Uw5.ne (b := 240) (j := 43) (by first | decide | (left; decide) | (right; omega) | (left; omega))
  have tw5_240_44 := Uw5.ne (b := 240) (j := 44) (by first | decide | (left; decide) | (right; omega) | (left; omega))
  have tw5_240_45 := Uw5.ne (b := 240) (j := 45) (by first | decide | (left; decide) | (right; omega) | (left; omega))
  have tw5_240_46 := Uw5.ne (b := 240) (j := 46) (by first | decide | (left; decide) | (right; omega) | (left; omega))
  have tw5_240_47 := Uw5.ne (b := 240) (j := 47) (by first | decide | (left; decide) | (right; omega) | (left; omega))
  refine g_L (v := .ref 240) (n := 1) M_206 q_206_31 rfl ?_
  refine g_call (d := 6) (y1 := 207) (as := [.ref 240]) (rest := []) (M1 := mjM_207) (d1 := 6) (ls0 := [some (.ref 240), none]) M_206 q_206_32 (h_cv Tw5 ro_240 (by decide) kd_241 (by decide) (show 0 ≤ 1 by decide) rfl (show 0 ≤ 8 by decide)) M_207 (show 1 ≤ 2 by decide) (by decide) rfl (by decide) (H_e (b := b) (fr := fr) Tw5 (by omega) hb (by omega) hfr (by omega) (by omega) (by omega)) ?_
  rintro r w6 ⟨rfl, Tw6, kbw6, ew6, pe⟩
  have kkw6 := kbw6.toKd
  have tw6_240_3 := congrArg Int32.toInt (kkw6.X (a := 240) (k := 3) (by unfold m4Kq; omega))
  have tw6_240_43 := congrArg Int32.toInt (kkw6.X (a := 240) (k := 43) (by unfold m4Kq; omega))
  show mjGo mjTb mjMt sc _ 206 (35, [some (.ref 240)], [], w6) _
  refine g_L (v := .ref 240) (n := 1) M_206 q_206_35 rfl ?_
  refine h_get M_206 q_206_36 Tw6 ro_240 (by decide) kd_241 (fr_240_34 Tw6) ?_
  refine g_L (v := .ref 240) (n := 1) M_206 q_206_39 rfl ?_
  have bw6_240_43 := (fi_240_43 Tw6).2
  refine h_get M_206 q_206_40 Tw6 ro_240 (by decide) kd_241 (fi_240_43 Tw6).1 ?_
  refine g_L (v := .ref 240) (n := 1) M_206 q_206_43 rfl ?_
  have bw6_240_44 := (fi_240_44 Tw6).2
  refine h_get M_206 q_206_44 Tw6 ro_240 (by decide) kd_241 (fi_240_44 Tw6).1 ?_
  refine h_ast (j := (m4X w6 240 43).toInt.toNat) M_206 q_206_47 Tw6 ro_266 (by decide) kd_267 ln_267 (by omega) (by omega) (m4_hasI (ta_267 _) (by omega) (by omega)) (fun w7 Tw7 Uw7 => ?_)
  have tw7_266_x := Uw7.at
  have tw7_240_3 := Uw7.ne (b := 240) (j := 3) (by first | decide | (left; decide) | (right; omega) | (left; omega))
  have tw7_240_4 := Uw7.ne (b := 240) (j := 4) (by first | decide | (left; decide) | (right; omega) | (left; omega))
  have tw7_240_7 := Uw7.ne (b := 240) (j := 7) (by first | decide | (left; decide) | (right; omega) | (left; omega))
  have tw7_240_8 := Uw7.ne (b := 240) (j := 8) (by first | decide | (left; decide) | (right; omega) | (left; omega))
  have tw7_240_43 := Uw7.ne (b := 240) (j := 43) (by first | decide | (left; decide) | (right; omega) | (left; omega))
  have tw7_240_44 := Uw7.ne (b := 240) (j := 44) (by first | decide | (left; decide) | (right; omega) | (left; omega))
  have tw7_240_45 := Uw7.ne (b := 240) (j := 45) (by first | decide | (left; decide) | (right; omega) | (left; omega))
  have tw7_240_46 := Uw7.ne (b := 240) (j := 46) (by first | decide | (left; decide) | (right; omega) | (left; omega))
  have tw7_240_47 := Uw7.ne (b := 240) (j := 47) (by first | decide | (left; decide) | (right; omega) | (left; omega))
  refine g_ret (v := none) M_206 q_206_48 rfl ?_
  have kd : m4Kd b w w7 := (((((m4Kd_up Uw3 (by unfold m4Kq; omega)).trans (m4Kd_up Uw4 (by unfold m4Kq; omega))).trans (m4Kd_up Uw5 (by unfold m4Kq; omega))).trans kbw6.toKd).trans (m4Kd_up Uw7 (by unfold m4Kq; omega)))
  refine ⟨rfl, Tw7, kd, fun a k ha => ((Uw7.X (b := a) (j := k) (by omega)).trans ((kbw6.X (a := a) (k := k) (by unfold m4Kp; omega)).trans ((Uw5.X (b := a) (j := k) (by omega)).trans ((Uw4.X (b := a) (j := k) (by omega)).trans (Uw3.X (b := a) (j := k) (by omega)))))), by omega, ?_⟩
  rcases pe with q | ⟨q1, q2, q3, q4, q5⟩
  · exact Or.inl (by omega)
  · have mi := m4Mu_eq (w := w) (w1 := w5) (by omega) (by omega)
    have er0 : (m4X w 240 43).toInt.toNat = 1 - b := by omega
    have a251 : (m4X w7 251 (1 - b)).toInt / 4 % 2 = 1 := by
      rw [Uw7.X (Or.inl (by decide)), kbw6.X (a := 251) (k := 1 - b) (by unfold m4Kp; omega), Uw5.X (Or.inl (by decide)), Uw4.X (Or.inl (by decide)), ← er0, m4X_of Uw3.2.1, hu2]
      exact m4_o4 (by omega) (by omega)
    have mj := m4Mu_eq (w := w6) (w1 := w7) (by omega) (by omega)
    refine Or.inr ⟨by omega, by omega, ?_, a251⟩
    have er : (m4X w6 240 43).toInt.toNat = 1 - b := by omega
    have er2 : (m4X w4 240 43).toInt.toNat = 1 - b := by omega
    have a265 : (m4X w7 265 (1 - b)).toInt = fr := by
      rw [Uw7.X (Or.inl (by decide)), kbw6.X (a := 265) (k := 1 - b) (by unfold m4Kp; omega), ← er2, m4X_of Uw5.2.1]
      omega
    have a266 : (m4X w7 266 (1 - b)).toInt = (m4X w7 240 44).toInt := by
      rw [← er, m4X_of Uw7.2.1]
      omega
    exact m4Sf_of (by omega) (m4Hs_eq q3 (Uw7.X (Or.inl (by decide))) (fun k _ => Uw7.X (Or.inl (by decide)))) a265 a266 (by omega) (by omega)
