/-! ===== the parser, by hand ===== -/
theorem m4Mu_nn {w : MjW} (hT : mjTyd m4S w) (he : (m4X w 240 7).toInt ≤ (m4X w 240 3).toInt) : 0 ≤ m4Mu w ∧ m4Mu w ≤ 3201 := by
  have b7 := (fi_240_7 hT).2
  have b3 := (fi_240_3 hT).2
  unfold m4Mu
  split <;> omega
theorem m4IE_init {b : Nat} {fr : Int} {w : MjW} (hT : mjTyd m4S w) (he : (m4X w 240 7).toInt ≤ (m4X w 240 3).toInt) (hb : b = 0 ∨ b = 1) (h43 : (m4X w 240 43).toInt = 1 - (b : Int)) (hfr : fr = 560 * (1 - (b : Int))) (h44 : (m4X w 240 44).toInt = fr) (h45 : (m4X w 240 45).toInt = 0) (h46 : (m4X w 240 46).toInt = 1) (h47 : (m4X w 240 47).toInt = 0) (p1 : (m4X w 271 0).toInt = 8) (p2 : (m4X w 272 0).toInt = 0) : m4IE b fr [] true w := by
  refine ⟨hT, he, ⟨hb, h43, hfr⟩, ⟨p1, p2, trivial⟩, by rw [h46]; rfl, fun e he => (by cases he), by rw [h45]; rfl, by omega, ?_, ?_⟩
  · rw [if_pos rfl, h44, h45, h47]
    show (0 : Int) ≤ 0 ∧ fr - fr + 0 + 0 ≤ 9 * 0 + 0
    omega
  · refine ⟨fun _ => 0, rfl, fun k k1 k2 => by omega, rfl⟩
theorem H_e0 {sc : List Int32} {P : Option Value → MjW → Prop} {w : MjW} {wn : Int32} (Tw : mjTyd m4S w) (hf : ¬ (m4X w 240 4).toInt = 0) (K : P none w) : mjGo mjTb mjMt sc (5 + 1) 207 (19, [some (.ref 240), some (.int wn)], [], w) P := by
  refine g_L (v := .ref 240) (n := 1) M_207 q_207_19 rfl ?_
  refine h_run (as := [.ref 240]) (rest := []) (M1 := mjM_187) (d1 := 0) (ls0 := [some (.ref 240)]) M_207 q_207_20 (h_cv Tw ro_240 (by decide) kd_241 (by decide) (show 0 ≤ 1 by decide) rfl (show 0 ≤ 8 by decide)) M_187 (show 1 ≤ 1 by decide) (by decide) rfl (by omega) (H_isGood Tw) (fun u1 hu1 => ?_)
  refine g_if M_207 q_207_23 mjCz_eq (fun b2 => ?_) (fun b2 => ?_)
  · refine g_ret (v := none) M_207 q_207_52 rfl ?_
    exact K
  · exfalso; omega
theorem H_e1 {sc : List Int32} {b : Nat} {fr : Int} {P : Option Value → MjW → Prop} (n : Nat) : ∀ (w : MjW) (wn : Int32), mjTyd m4S w → (m4X w 240 7).toInt ≤ (m4X w 240 3).toInt → (¬ (m4X w 240 4).toInt = 0 ∨ ((m4X w 240 4).toInt = 0 ∧ (((m4X w 240 46).toInt = 0 ∧ m4Hs w fr 1 ∧ fr ≤ (m4X w 240 44).toInt ∧ (m4X w 240 44).toInt ≤ fr + 280) ∨ (wn.toInt = 1 ∧ ∃ T, m4IE b fr T true w) ∨ (wn.toInt = 0 ∧ ∃ T, m4IE b fr T false w)))) → 100 * m4Mu w + (m4X w 240 46).toInt < (n : Int) → (∀ w1 : MjW, mjTyd m4S w1 → m4Kb b w w1 → (m4X w1 240 7).toInt ≤ (m4X w1 240 3).toInt → (¬ (m4X w1 240 4).toInt = 0 ∨ ((m4X w1 240 4).toInt = 0 ∧ m4Mu w1 ≤ m4Mu w ∧ m4Hs w1 fr 1 ∧ fr ≤ (m4X w1 240 44).toInt ∧ (m4X w1 240 44).toInt ≤ fr + 280)) → P none w1) → mjGo mjTb mjMt sc (5 + 1) 207 (19, [some (.ref 240), some (.int wn)], [], w) P := by
  induction n with
  | zero =>
    intro w wn Tw he hst hn K
    exfalso
    have m1 := (m4Mu_nn Tw he).1
    have m2 := (fi_240_46 Tw).2
    omega
  | succ n ih =>
    intro w wn Tw he hst hn K
    refine g_L (v := .ref 240) (n := 1) M_207 q_207_19 rfl ?_
    refine h_run (as := [.ref 240]) (rest := []) (M1 := mjM_187) (d1 := 0) (ls0 := [some (.ref 240)]) M_207 q_207_20 (h_cv Tw ro_240 (by decide) kd_241 (by decide) (show 0 ≤ 1 by decide) rfl (show 0 ≤ 8 by decide)) M_187 (show 1 ≤ 1 by decide) (by decide) rfl (by omega) (H_isGood Tw) (fun u1 hu1 => ?_)
    refine g_if M_207 q_207_23 mjCz_eq (fun b2 => ?_) (fun b2 => ?_)
    · refine g_ret (v := none) M_207 q_207_52 rfl ?_
      exact K w Tw m4Kb.refl he (Or.inl (by omega))
    · refine g_L (v := .ref 240) (n := 1) M_207 q_207_26 rfl ?_
      have bw_240_46 := (fi_240_46 Tw).2
      refine h_get M_207 q_207_27 Tw ro_240 (by decide) kd_241 (fi_240_46 Tw).1 ?_
      refine g_if M_207 q_207_30 mjCz_le (fun b3 => ?_) (fun b3 => ?_)
      · refine g_ret (v := none) M_207 q_207_52 rfl ?_
        have hdn : ((m4X w 240 46).toInt = 0 ∧ m4Hs w fr 1 ∧ fr ≤ (m4X w 240 44).toInt ∧ (m4X w 240 44).toInt ≤ fr + 280) := by
          rcases hst with q | ⟨q1, q | q | q⟩
          · exfalso; omega
          · exact q
          · obtain ⟨q0, T, hIE⟩ := q; have q2 := hIE.2.2.2.2.1; exfalso; omega
          · obtain ⟨q0, T, hIE⟩ := q; have q2 := hIE.2.2.2.2.1; exfalso; omega
        exact K w Tw m4Kb.refl he (Or.inr ⟨by omega, Int.le_refl _, hdn.2⟩)
      · refine g_L (v := .int wn) (n := 1) M_207 q_207_33 rfl ?_
        refine g_if M_207 q_207_34 mjCz_eq (fun b4 => ?_) (fun b4 => ?_)
        · refine g_L (v := .ref 240) (n := 1) M_207 q_207_44 rfl ?_
          obtain ⟨T, hIE⟩ : ∃ T, m4IE b fr T false w := by
            rcases hst with q | ⟨q1, q | q | q⟩
            · exfalso; omega
            · exfalso; have q2 := q.1; omega
            · exfalso; have q2 := q.1; omega
            · exact q.2
          refine g_call (d := 5) (y1 := 213) (as := [.ref 240]) (rest := []) (M1 := mjM_213) (d1 := 5) (ls0 := [some (.ref 240), none]) M_207 q_207_45 (h_cv Tw ro_240 (by decide) kd_241 (by decide) (show 0 ≤ 1 by decide) rfl (show 0 ≤ 8 by decide)) M_213 (show 1 ≤ 2 by decide) (by decide) rfl (by decide) (H_behind hIE (by omega)) ?_
          rintro r w5 ⟨Tw5, kbw5, ew5, u, rfl, pu⟩
          show mjGo mjTb mjMt sc _ 207 (48, [some (.ref 240), some (.int wn)], [.int u], w5) _
          refine g_S (ls1 := [some (.ref 240), some (.int u)]) (st1 := []) (n := 1) M_207 q_207_48 rfl ?_
          refine g_goto M_207 q_207_49 ?_
          have m46 := (fi_240_46 Tw5).2
          have m46w := (fi_240_46 Tw).2
          rcases pu with q | ⟨q1, q2, q3⟩
          · exact H_e0 Tw5 q (K w5 Tw5 kbw5 ew5 (Or.inl q))
          · refine ih w5 u Tw5 ew5 (Or.inr ⟨q1, ?_⟩) (by omega) (fun w9 T9 k9 e9 p9 => K w9 T9 (kbw5.trans k9) e9 ?_)
            · rcases q3 with q3 | ⟨q3, q4 | q4⟩
              · exact Or.inr (Or.inl q3)
              · exact Or.inl q4
              · exact Or.inr (Or.inr ⟨q3, q4⟩)
            · rcases p9 with p9 | ⟨p9, p8, p7⟩
              · exact Or.inl p9
              · exact Or.inr ⟨p9, by omega, p7⟩
        · refine g_L (v := .ref 240) (n := 1) M_207 q_207_37 rfl ?_
          obtain ⟨T, hIE⟩ : ∃ T, m4IE b fr T true w := by
            rcases hst with q | ⟨q1, q | q | q⟩
            · exfalso; omega
            · exfalso; have q2 := q.1; omega
            · exact q.2
            · exfalso; have q2 := q.1; omega
          refine g_call (d := 5) (y1 := 209) (as := [.ref 240]) (rest := []) (M1 := mjM_209) (d1 := 4) (ls0 := [some (.ref 240), none, none, none, none, none, none]) M_207 q_207_38 (h_cv Tw ro_240 (by decide) kd_241 (by decide) (show 0 ≤ 1 by decide) rfl (show 0 ≤ 8 by decide)) M_209 (show 1 ≤ 7 by decide) (by decide) rfl (by decide) (H_unit hIE (by omega)) ?_
          rintro r w6 ⟨Tw6, kbw6, ew6, u, rfl, pu⟩
          show mjGo mjTb mjMt sc _ 207 (41, [some (.ref 240), some (.int wn)], [.int u], w6) _
          refine g_goto M_207 q_207_41 ?_
          refine g_S (ls1 := [some (.ref 240), some (.int u)]) (st1 := []) (n := 1) M_207 q_207_48 rfl ?_
          refine g_goto M_207 q_207_49 ?_
          have m46 := (fi_240_46 Tw6).2
          have m46w := (fi_240_46 Tw).2
          rcases pu with q | ⟨q1, q2, q3⟩
          · exact H_e0 Tw6 q (K w6 Tw6 kbw6 ew6 (Or.inl q))
          · refine ih w6 u Tw6 ew6 (Or.inr ⟨q1, ?_⟩) (by omega) (fun w9 T9 k9 e9 p9 => K w9 T9 (kbw6.trans k9) e9 ?_)
            · rcases q3 with q3 | ⟨q3, q4 | q4⟩
              · exact Or.inr (Or.inl q3)
              · exact Or.inl q4
              · exact Or.inr (Or.inr ⟨q3, q4⟩)
            · rcases p9 with p9 | ⟨p9, p8, p7⟩
              · exact Or.inl p9
              · exact Or.inr ⟨p9, by omega, p7⟩
theorem H_e {sc : List Int32} {b : Nat} {fr : Int} {w : MjW} (Tw : mjTyd m4S w) (he : (m4X w 240 7).toInt ≤ (m4X w 240 3).toInt) (hb : b = 0 ∨ b = 1) (h43 : (m4X w 240 43).toInt = 1 - (b : Int)) (hfr : fr = 560 * (1 - (b : Int))) (h44 : (m4X w 240 44).toInt = fr) (h47 : (m4X w 240 47).toInt = 0) (hg : (m4X w 240 4).toInt = 0) : mjGo mjTb mjMt sc (5 + 1) 207 (0, [some (.ref 240), none], [], w) (fun r w1 => r = none ∧ mjTyd m4S w1 ∧ m4Kb b w w1 ∧ (m4X w1 240 7).toInt ≤ (m4X w1 240 3).toInt ∧ (¬ (m4X w1 240 4).toInt = 0 ∨ ((m4X w1 240 4).toInt = 0 ∧ m4Mu w1 ≤ m4Mu w ∧ m4Hs w1 fr 1 ∧ fr ≤ (m4X w1 240 44).toInt ∧ (m4X w1 240 44).toInt ≤ fr + 280))) := by
  have k_0 := c_0
  have k_1 := c_1
  have k_8 := c_8
  refine g_L (v := .ref 240) (n := 1) M_207 q_207_0 rfl ?_
  refine g_A (st1 := [.int (0 : Int32), .ref 240]) M_207 q_207_1 rfl ?_
  refine h_put M_207 q_207_2 Tw ro_240 (by decide) kd_241 ln_241 (by decide) (m4_fitI rfl) (m4_hasI ty_241_46 (by omega) (by omega)) (fun w1 Tw1 Uw1 => ?_)
  have tw1_240_46 := Uw1.at
  have tw1_240_3 := Uw1.ne (b := 240) (j := 3) (by decide)
  have tw1_240_4 := Uw1.ne (b := 240) (j := 4) (by decide)
  have tw1_240_7 := Uw1.ne (b := 240) (j := 7) (by decide)
  have tw1_240_8 := Uw1.ne (b := 240) (j := 8) (by decide)
  have tw1_240_43 := Uw1.ne (b := 240) (j := 43) (by decide)
  have tw1_240_44 := Uw1.ne (b := 240) (j := 44) (by decide)
  have tw1_240_45 := Uw1.ne (b := 240) (j := 45) (by decide)
  have tw1_240_47 := Uw1.ne (b := 240) (j := 47) (by decide)
  refine g_L (v := .ref 240) (n := 1) M_207 q_207_5 rfl ?_
  refine g_A (st1 := [.int (0 : Int32), .ref 240]) M_207 q_207_6 rfl ?_
  refine h_put M_207 q_207_7 Tw1 ro_240 (by decide) kd_241 ln_241 (by decide) (m4_fitI rfl) (m4_hasI ty_241_45 (by omega) (by omega)) (fun w2 Tw2 Uw2 => ?_)
  have tw2_240_45 := Uw2.at
  have tw2_240_3 := Uw2.ne (b := 240) (j := 3) (by decide)
  have tw2_240_4 := Uw2.ne (b := 240) (j := 4) (by decide)
  have tw2_240_7 := Uw2.ne (b := 240) (j := 7) (by decide)
  have tw2_240_8 := Uw2.ne (b := 240) (j := 8) (by decide)
  have tw2_240_43 := Uw2.ne (b := 240) (j := 43) (by decide)
  have tw2_240_44 := Uw2.ne (b := 240) (j := 44) (by decide)
  have tw2_240_46 := Uw2.ne (b := 240) (j := 46) (by decide)
  have tw2_240_47 := Uw2.ne (b := 240) (j := 47) (by decide)
  refine g_L (v := .ref 240) (n := 1) M_207 q_207_10 rfl ?_
  refine g_P (v := .int (8 : Int32)) (n := 2) M_207 q_207_11 rfl ?_
  refine g_A (st1 := [.int (0 : Int32), .int (8 : Int32), .ref 240]) M_207 q_207_13 rfl ?_
  refine g_call (d := 5) (y1 := 208) (as := [.ref 240, .int (8 : Int32), .int (0 : Int32)]) (rest := []) (M1 := mjM_208) (d1 := 0) (ls0 := [some (.ref 240), some (.int (8 : Int32)), some (.int (0 : Int32))]) M_207 q_207_14 (h_cv Tw2 ro_240 (by decide) kd_241 (by decide) (show 2 ≤ 3 by decide) rfl (show 0 ≤ 8 by decide)) M_208 (show 3 ≤ 3 by decide) (by decide) rfl (by decide) (H_pushE Tw2 (by omega)) ?_
  rintro r w3 ⟨rfl, Tw3, sw3, fw3, nw3, pw3⟩
  have tw3_240_3 : (m4X w3 240 3).toInt = (m4X w2 240 3).toInt := by unfold m4X; rw [fw3 240 3 (by omega) (by omega)]
  have tw3_240_4 : (m4X w3 240 4).toInt = (m4X w2 240 4).toInt := by unfold m4X; rw [fw3 240 4 (by omega) (by omega)]
  have tw3_240_7 : (m4X w3 240 7).toInt = (m4X w2 240 7).toInt := by unfold m4X; rw [fw3 240 7 (by omega) (by omega)]
  have tw3_240_8 : (m4X w3 240 8).toInt = (m4X w2 240 8).toInt := by unfold m4X; rw [fw3 240 8 (by omega) (by omega)]
  have tw3_240_43 : (m4X w3 240 43).toInt = (m4X w2 240 43).toInt := by unfold m4X; rw [fw3 240 43 (by omega) (by omega)]
  have tw3_240_44 : (m4X w3 240 44).toInt = (m4X w2 240 44).toInt := by unfold m4X; rw [fw3 240 44 (by omega) (by omega)]
  have tw3_240_45 : (m4X w3 240 45).toInt = (m4X w2 240 45).toInt := by unfold m4X; rw [fw3 240 45 (by omega) (by omega)]
  have tw3_240_47 : (m4X w3 240 47).toInt = (m4X w2 240 47).toInt := by unfold m4X; rw [fw3 240 47 (by omega) (by omega)]
  show mjGo mjTb mjMt sc _ 207 (17, [some (.ref 240), none], [], w3) _
  refine g_A (st1 := [.int (1 : Int32)]) M_207 q_207_17 rfl ?_
  refine g_S (ls1 := [some (.ref 240), some (.int (1 : Int32))]) (st1 := []) (n := 1) M_207 q_207_18 rfl ?_
  have z46 : (m4X w2 240 46).toInt.toNat = 0 := by omega
  rw [z46] at pw3
  have ie : m4IE b fr [] true w3 := m4IE_init Tw3 (by omega) hb (by omega) hfr (by omega) (by omega) (by omega) (by omega) (by rw [pw3.1]; rfl) (by rw [pw3.2]; rfl)
  have kb : m4Kb b w w3 := (((m4Kb_up Uw1 (by unfold m4Kp m4Kq; omega)).trans (m4Kb_up Uw2 (by unfold m4Kp m4Kq; omega))).trans (m4Kb_fld sw3 (fun a k hk => fw3 a k (by unfold m4Kp m4Kq at hk; omega) (by unfold m4Kp m4Kq at hk; omega))))
  have mi := m4Mu_eq (w := w) (w1 := w3) (by omega) (by omega)
  have mn := (m4Mu_nn Tw3 (by omega)).2
  refine H_e1 400000 w3 (1 : Int32) Tw3 (by omega) (Or.inr ⟨by omega, Or.inr (Or.inl ⟨rfl, _, ie⟩)⟩) (by omega) (fun w9 T9 k9 e9 p9 => ⟨rfl, T9, kb.trans k9, e9, ?_⟩)
  rcases p9 with p9 | ⟨p9, p8, p7⟩
  · exact Or.inl p9
  · exact Or.inr ⟨p9, by omega, p7⟩
