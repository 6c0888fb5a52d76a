/-! ===== the parser, by hand ===== -/
theorem H_bu1 {sc : List Int32} {b : Nat} {fr : Int} {P : Option Value → MjW → Prop} {rk : Int32} (n : Nat) : ∀ (T : List (Int × Int)) (w : MjW), T.length = n → m4IE b fr T false w → (∀ (T1 : List (Int × Int)) (w1 : MjW), m4IE b fr T1 false w1 → m4Kb b w w1 → (∀ k, k = 3 ∨ k = 4 ∨ k = 6 ∨ k = 7 ∨ k = 8 → m4X w1 240 k = m4X w 240 k) → (∀ j, m4X w1 242 j = m4X w 242 j) → (m4X w1 240 46).toInt ≤ (m4X w 240 46).toInt → (T1 = [] ∨ ∃ e R, T1 = e :: R ∧ (6 < e.1 ∨ e.1 < rk.toInt)) → mjGo mjTb mjMt sc (4 + 1) 213 (104, [some (.ref 240), some (.int rk)], [], w1) P) → mjGo mjTb mjMt sc (4 + 1) 213 (23, [some (.ref 240), some (.int rk)], [], w) P := by
  induction n with
  | zero =>
    intro T w hT h K
    have Tw := h.1
    have he := h.2.1
    have hrb := h.2.2.1
    have bd := m4IE_bd h
    have hp46 := h.2.2.2.2.1
    have hfr := h.2.2.2.2.2.2.2.1
    have top := m4IE_top h
    have hnil : T = [] := List.eq_nil_of_length_eq_zero hT
    have t8 : (m4X w 271 ((m4X w 240 46).toInt - 1).toNat).toInt = 8 := by
      rcases top with q | ⟨e, R, q, -⟩
      · exact q.2
      · rw [hnil] at q; cases q
    have k_1 := c_1
    have k_6 := c_6
    refine g_L (v := .ref 240) (n := 1) M_213 q_213_23 rfl ?_
    refine h_get M_213 q_213_24 Tw ro_240 (by decide) kd_241 (fr_240_39 Tw) ?_
    refine g_L (v := .ref 240) (n := 1) M_213 q_213_27 rfl ?_
    have bw_240_46 := (fi_240_46 Tw).2
    refine h_get M_213 q_213_28 Tw ro_240 (by decide) kd_241 (fi_240_46 Tw).1 ?_
    refine g_A (st1 := [.int (1 : Int32), .int (m4X w 240 46), .ref 271]) M_213 q_213_31 rfl ?_
    refine h_isub M_213 q_213_32 (by omega) (by omega) (fun u1 hu1 => ?_)
    have e2 := ar_272 Tw ro_271 (j := ((m4X w 240 46).toInt - 1).toNat) (by omega)
    refine h_ald (j := ((m4X w 240 46).toInt - 1).toNat) M_213 q_213_33 Tw ro_271 (by decide) kd_272 (by omega) e2.1 ?_
    refine g_P (v := .int (6 : Int32)) (n := 2) M_213 q_213_34 rfl ?_
    refine g_icmp M_213 q_213_36 mjCi_gt (fun b3 => ?_) (fun b3 => ?_)
    · exact K T w h m4Kb.refl (fun _ _ => rfl) (fun _ => rfl) (by omega) (Or.inl hnil)
    · exfalso; omega
  | succ n ih =>
    intro T w hT h K
    have Tw := h.1
    have he := h.2.1
    have hrb := h.2.2.1
    have bd := m4IE_bd h
    have hp46 := h.2.2.2.2.1
    have hfr := h.2.2.2.2.2.2.2.1
    have top := m4IE_top h
    obtain ⟨e, R, hTe⟩ : ∃ e R, T = e :: R := by
      cases T with
      | nil => cases hT
      | cons e R => exact ⟨e, R, rfl⟩
    subst hTe
    have tt : m4En e ∧ (m4X w 271 ((m4X w 240 46).toInt - 1).toNat).toInt = e.1 ∧ (m4X w 272 ((m4X w 240 46).toInt - 1).toNat).toInt = e.2 := by
      rcases top with q | ⟨e1, R1, q, q1, q2, q3⟩
      · cases q.1
      · cases q; exact ⟨q1, q2, q3⟩
    obtain ⟨en, t1, t2⟩ := tt
    rw [List.length_cons] at hT
    have hwi := h.2.2.2.2.2.2.1
    have cl := m4c_len R
    have cc3 : e.1 = 3 → 1 ≤ m4cN (e :: R) := fun q => (by have z := (m4c_not (T := R) q).2.1; omega)
    have k_0 := c_0
    have k_1 := c_1
    have k_3 := c_3
    have k_6 := c_6
    refine g_L (v := .ref 240) (n := 1) M_213 q_213_23 rfl ?_
    refine h_get M_213 q_213_24 Tw ro_240 (by decide) kd_241 (fr_240_39 Tw) ?_
    refine g_L (v := .ref 240) (n := 1) M_213 q_213_27 rfl ?_
    have bw_240_46 := (fi_240_46 Tw).2
    refine h_get M_213 q_213_28 Tw ro_240 (by decide) kd_241 (fi_240_46 Tw).1 ?_
    refine g_A (st1 := [.int (1 : Int32), .int (m4X w 240 46), .ref 271]) M_213 q_213_31 rfl ?_
    refine h_isub M_213 q_213_32 (by omega) (by omega) (fun u1 hu1 => ?_)
    have e2 := ar_272 Tw ro_271 (j := ((m4X w 240 46).toInt - 1).toNat) (by omega)
    refine h_ald (j := ((m4X w 240 46).toInt - 1).toNat) M_213 q_213_33 Tw ro_271 (by decide) kd_272 (by omega) e2.1 ?_
    refine g_P (v := .int (6 : Int32)) (n := 2) M_213 q_213_34 rfl ?_
    refine g_icmp M_213 q_213_36 mjCi_gt (fun b3 => ?_) (fun b3 => ?_)
    · exact K (e :: R) w h m4Kb.refl (fun _ _ => rfl) (fun _ => rfl) (by omega) (Or.inr ⟨e, R, rfl, by omega⟩)
    · refine g_L (v := .ref 240) (n := 1) M_213 q_213_39 rfl ?_
      refine h_get M_213 q_213_40 Tw ro_240 (by decide) kd_241 (fr_240_39 Tw) ?_
      refine g_L (v := .ref 240) (n := 1) M_213 q_213_43 rfl ?_
      have bw_240_46 := (fi_240_46 Tw).2
      refine h_get M_213 q_213_44 Tw ro_240 (by decide) kd_241 (fi_240_46 Tw).1 ?_
      refine g_A (st1 := [.int (1 : Int32), .int (m4X w 240 46), .ref 271]) M_213 q_213_47 rfl ?_
      refine h_isub M_213 q_213_48 (by omega) (by omega) (fun u4 hu4 => ?_)
      have e5 := ar_272 Tw ro_271 (j := ((m4X w 240 46).toInt - 1).toNat) (by omega)
      refine h_ald (j := ((m4X w 240 46).toInt - 1).toNat) M_213 q_213_49 Tw ro_271 (by decide) kd_272 (by omega) e5.1 ?_
      refine g_L (v := .int rk) (n := 1) M_213 q_213_50 rfl ?_
      refine g_icmp M_213 q_213_51 mjCi_lt (fun b6 => ?_) (fun b6 => ?_)
      · exact K (e :: R) w h m4Kb.refl (fun _ _ => rfl) (fun _ => rfl) (by omega) (Or.inr ⟨e, R, rfl, by omega⟩)
      · refine g_L (v := .ref 240) (n := 1) M_213 q_213_54 rfl ?_
        refine g_A (st1 := [.ref 240, .ref 240]) M_213 q_213_55 rfl ?_
        have bw_240_46 := (fi_240_46 Tw).2
        refine h_get M_213 q_213_56 Tw ro_240 (by decide) kd_241 (fi_240_46 Tw).1 ?_
        refine g_A (st1 := [.int (1 : Int32), .int (m4X w 240 46), .ref 240]) M_213 q_213_59 rfl ?_
        refine h_isub M_213 q_213_60 (by omega) (by omega) (fun u7 hu7 => ?_)
        refine h_put M_213 q_213_61 Tw ro_240 (by decide) kd_241 ln_241 (by decide) (m4_fitI rfl) (m4_hasI ty_241_46 (by omega) (by omega)) (fun w8 Tw8 Uw8 => ?_)
        have tw8_240_46 := Uw8.at
        have tw8_240_3 := Uw8.ne (b := 240) (j := 3) (by decide)
        have tw8_240_4 := Uw8.ne (b := 240) (j := 4) (by decide)
        have tw8_240_6 := Uw8.ne (b := 240) (j := 6) (by decide)
        have tw8_240_7 := Uw8.ne (b := 240) (j := 7) (by decide)
        have tw8_240_8 := Uw8.ne (b := 240) (j := 8) (by decide)
        have tw8_240_43 := Uw8.ne (b := 240) (j := 43) (by decide)
        have tw8_240_44 := Uw8.ne (b := 240) (j := 44) (by decide)
        have tw8_240_45 := Uw8.ne (b := 240) (j := 45) (by decide)
        have tw8_240_47 := Uw8.ne (b := 240) (j := 47) (by decide)
        refine g_L (v := .ref 240) (n := 1) M_213 q_213_64 rfl ?_
        refine h_get M_213 q_213_65 Tw8 ro_240 (by decide) kd_241 (fr_240_39 Tw8) ?_
        refine g_L (v := .ref 240) (n := 1) M_213 q_213_68 rfl ?_
        have bw8_240_46 := (fi_240_46 Tw8).2
        refine h_get M_213 q_213_69 Tw8 ro_240 (by decide) kd_241 (fi_240_46 Tw8).1 ?_
        have e9 := ar_272 Tw8 ro_271 (j := (m4X w8 240 46).toInt.toNat) (by omega)
        refine h_ald (j := (m4X w8 240 46).toInt.toNat) M_213 q_213_72 Tw8 ro_271 (by decide) kd_272 (by omega) e9.1 ?_
        have eJ73 : (m4X w8 240 46).toInt.toNat = ((m4X w 240 46).toInt - 1).toNat := by omega
        have tJ73 : (m4X w8 271 (m4X w8 240 46).toInt.toNat).toInt = e.1 := by rw [eJ73, show m4X w8 271 ((m4X w 240 46).toInt - 1).toNat = m4X w 271 ((m4X w 240 46).toInt - 1).toNat from (Uw8.X (b := 271) (j := ((m4X w 240 46).toInt - 1).toNat) (by omega))]; exact t1
        refine g_A (st1 := [.int (3 : Int32), .int (m4X w8 271 (m4X w8 240 46).toInt.toNat)]) M_213 q_213_73 rfl ?_
        refine g_icmp M_213 q_213_74 mjCi_ne (fun b10 => ?_) (fun b10 => ?_)
        · refine g_L (v := .ref 240) (n := 1) M_213 q_213_87 rfl ?_
          refine g_L (v := .ref 240) (n := 1) M_213 q_213_88 rfl ?_
          refine h_get M_213 q_213_89 Tw8 ro_240 (by decide) kd_241 (fr_240_40 Tw8) ?_
          refine g_L (v := .ref 240) (n := 1) M_213 q_213_92 rfl ?_
          have bw8_240_46 := (fi_240_46 Tw8).2
          refine h_get M_213 q_213_93 Tw8 ro_240 (by decide) kd_241 (fi_240_46 Tw8).1 ?_
          have eJ96 : (m4X w8 240 46).toInt.toNat = ((m4X w 240 46).toInt - 1).toNat := by omega
          have tJ96 : (m4X w8 272 (m4X w8 240 46).toInt.toNat).toInt = e.2 := by rw [eJ96, show m4X w8 272 ((m4X w 240 46).toInt - 1).toNat = m4X w 272 ((m4X w 240 46).toInt - 1).toNat from (Uw8.X (b := 272) (j := ((m4X w 240 46).toInt - 1).toNat) (by omega))]; exact t2
          have e11 := ar_273 Tw8 ro_272 (j := (m4X w8 240 46).toInt.toNat) (by omega)
          refine h_ald (j := (m4X w8 240 46).toInt.toNat) M_213 q_213_96 Tw8 ro_272 (by decide) kd_273 (by omega) e11.1 ?_
          refine g_A (st1 := [.int (0 : Int32), .int (m4X w8 272 (m4X w8 240 46).toInt.toNat), .ref 240]) M_213 q_213_97 rfl ?_
          refine g_call (d := 4) (y1 := 212) (as := [.ref 240, .int (m4X w8 272 (m4X w8 240 46).toInt.toNat), .int (0 : Int32)]) (rest := []) (M1 := mjM_212) (d1 := 0) (ls0 := [some (.ref 240), some (.int (m4X w8 272 (m4X w8 240 46).toInt.toNat)), some (.int (0 : Int32))]) M_213 q_213_98 (h_cv Tw8 ro_240 (by decide) kd_241 (by decide) (show 2 ≤ 3 by decide) rfl (show 0 ≤ 8 by decide)) M_212 (show 3 ≤ 3 by decide) (by decide) rfl (by decide) (H_emit Tw8 (by omega)) ?_
          rintro r w12 ⟨rfl, Tw12, sw12, fw12, nw12, pw12⟩
          have tw12_240_3 : (m4X w12 240 3).toInt = (m4X w8 240 3).toInt := by unfold m4X; rw [fw12 240 3 (by omega) (by omega)]
          have tw12_240_4 : (m4X w12 240 4).toInt = (m4X w8 240 4).toInt := by unfold m4X; rw [fw12 240 4 (by omega) (by omega)]
          have tw12_240_6 : (m4X w12 240 6).toInt = (m4X w8 240 6).toInt := by unfold m4X; rw [fw12 240 6 (by omega) (by omega)]
          have tw12_240_7 : (m4X w12 240 7).toInt = (m4X w8 240 7).toInt := by unfold m4X; rw [fw12 240 7 (by omega) (by omega)]
          have tw12_240_8 : (m4X w12 240 8).toInt = (m4X w8 240 8).toInt := by unfold m4X; rw [fw12 240 8 (by omega) (by omega)]
          have tw12_240_43 : (m4X w12 240 43).toInt = (m4X w8 240 43).toInt := by unfold m4X; rw [fw12 240 43 (by omega) (by omega)]
          have tw12_240_45 : (m4X w12 240 45).toInt = (m4X w8 240 45).toInt := by unfold m4X; rw [fw12 240 45 (by omega) (by omega)]
          have tw12_240_46 : (m4X w12 240 46).toInt = (m4X w8 240 46).toInt := by unfold m4X; rw [fw12 240 46 (by omega) (by omega)]
          have tw12_240_47 : (m4X w12 240 47).toInt = (m4X w8 240 47).toInt := by unfold m4X; rw [fw12 240 47 (by omega) (by omega)]
          show mjGo mjTb mjMt sc _ 213 (101, [some (.ref 240), some (.int rk)], [], w12) _
          refine g_goto M_213 q_213_101 ?_
          have e44 : (m4X w8 240 44).toInt.toNat = (m4X w 240 44).toInt.toNat := by omega
          have ie : m4IE b fr R false w12 := m4IE_pop h (by omega) Tw12 (by omega) (by omega) (by omega) ⟨fun _ => by omega, fun _ => by omega⟩ (by omega) (by omega) (fun k hk => ((m4X_fld (fw12 269 k (by omega) (by omega)))).trans (Uw8.X (b := 269) (j := k) (by omega))) (fun j => ⟨((m4X_fld (fw12 271 j (by omega) (by omega)))).trans (Uw8.X (b := 271) (j := j) (by omega)), ((m4X_fld (fw12 272 j (by omega) (by omega)))).trans (Uw8.X (b := 272) (j := j) (by omega))⟩) (by rw [← e44, pw12]; omega)
          have kb : m4Kb b w w12 := ((m4Kb_up Uw8 (by unfold m4Kp m4Kq; omega)).trans (m4Kb_fld sw12 (fun a k hk => fw12 a k (by unfold m4Kp m4Kq at hk; omega) (by unfold m4Kp m4Kq at hk; omega))))
          have xk : ∀ k, k = 3 ∨ k = 4 ∨ k = 6 ∨ k = 7 ∨ k = 8 → m4X w12 240 k = m4X w 240 k := fun k hk => ((m4X_fld (fw12 240 k (by omega) (by omega)))).trans (Uw8.X (b := 240) (j := k) (by omega))
          have x2 : ∀ j, m4X w12 242 j = m4X w 242 j := fun j => ((m4X_fld (fw12 242 j (by omega) (by omega)))).trans (Uw8.X (b := 242) (j := j) (by omega))
          refine ih R w12 (by omega) ie (fun T1 w9 h9 k9 a9 b9 c9 d9 => K T1 w9 h9 (kb.trans k9) (fun k hk => (a9 k hk).trans (xk k hk)) (fun j => (b9 j).trans (x2 j)) (by omega) d9)
        · refine g_L (v := .ref 240) (n := 1) M_213 q_213_77 rfl ?_
          refine g_A (st1 := [.ref 240, .ref 240]) M_213 q_213_78 rfl ?_
          have bw8_240_45 := (fi_240_45 Tw8).2
          refine h_get M_213 q_213_79 Tw8 ro_240 (by decide) kd_241 (fi_240_45 Tw8).1 ?_
          refine g_A (st1 := [.int (1 : Int32), .int (m4X w8 240 45), .ref 240]) M_213 q_213_82 rfl ?_
          refine h_isub M_213 q_213_83 (by omega) (by omega) (fun u13 hu13 => ?_)
          refine h_put M_213 q_213_84 Tw8 ro_240 (by decide) kd_241 ln_241 (by decide) (m4_fitI rfl) (m4_hasI ty_241_45 (by omega) (by omega)) (fun w14 Tw14 Uw14 => ?_)
          have tw14_240_45 := Uw14.at
          have tw14_240_3 := Uw14.ne (b := 240) (j := 3) (by decide)
          have tw14_240_4 := Uw14.ne (b := 240) (j := 4) (by decide)
          have tw14_240_6 := Uw14.ne (b := 240) (j := 6) (by decide)
          have tw14_240_7 := Uw14.ne (b := 240) (j := 7) (by decide)
          have tw14_240_8 := Uw14.ne (b := 240) (j := 8) (by decide)
          have tw14_240_43 := Uw14.ne (b := 240) (j := 43) (by decide)
          have tw14_240_44 := Uw14.ne (b := 240) (j := 44) (by decide)
          have tw14_240_46 := Uw14.ne (b := 240) (j := 46) (by decide)
          have tw14_240_47 := Uw14.ne (b := 240) (j := 47) (by decide)
          refine g_L (v := .ref 240) (n := 1) M_213 q_213_87 rfl ?_
          refine g_L (v := .ref 240) (n := 1) M_213 q_213_88 rfl ?_
          refine h_get M_213 q_213_89 Tw14 ro_240 (by decide) kd_241 (fr_240_40 Tw14) ?_
          refine g_L (v := .ref 240) (n := 1) M_213 q_213_92 rfl ?_
          have bw14_240_46 := (fi_240_46 Tw14).2
          refine h_get M_213 q_213_93 Tw14 ro_240 (by decide) kd_241 (fi_240_46 Tw14).1 ?_
          have eJ96 : (m4X w14 240 46).toInt.toNat = ((m4X w 240 46).toInt - 1).toNat := by omega
          have tJ96 : (m4X w14 272 (m4X w14 240 46).toInt.toNat).toInt = e.2 := by rw [eJ96, show m4X w14 272 ((m4X w 240 46).toInt - 1).toNat = m4X w 272 ((m4X w 240 46).toInt - 1).toNat from ((Uw14.X (b := 272) (j := ((m4X w 240 46).toInt - 1).toNat) (by omega))).trans (Uw8.X (b := 272) (j := ((m4X w 240 46).toInt - 1).toNat) (by omega))]; exact t2
          have e15 := ar_273 Tw14 ro_272 (j := (m4X w14 240 46).toInt.toNat) (by omega)
          refine h_ald (j := (m4X w14 240 46).toInt.toNat) M_213 q_213_96 Tw14 ro_272 (by decide) kd_273 (by omega) e15.1 ?_
          refine g_A (st1 := [.int (0 : Int32), .int (m4X w14 272 (m4X w14 240 46).toInt.toNat), .ref 240]) M_213 q_213_97 rfl ?_
          refine g_call (d := 4) (y1 := 212) (as := [.ref 240, .int (m4X w14 272 (m4X w14 240 46).toInt.toNat), .int (0 : Int32)]) (rest := []) (M1 := mjM_212) (d1 := 0) (ls0 := [some (.ref 240), some (.int (m4X w14 272 (m4X w14 240 46).toInt.toNat)), some (.int (0 : Int32))]) M_213 q_213_98 (h_cv Tw14 ro_240 (by decide) kd_241 (by decide) (show 2 ≤ 3 by decide) rfl (show 0 ≤ 8 by decide)) M_212 (show 3 ≤ 3 by decide) (by decide) rfl (by decide) (H_emit Tw14 (by omega)) ?_
          rintro r w16 ⟨rfl, Tw16, sw16, fw16, nw16, pw16⟩
          have tw16_240_3 : (m4X w16 240 3).toInt = (m4X w14 240 3).toInt := by unfold m4X; rw [fw16 240 3 (by omega) (by omega)]
          have tw16_240_4 : (m4X w16 240 4).toInt = (m4X w14 240 4).toInt := by unfold m4X; rw [fw16 240 4 (by omega) (by omega)]
          have tw16_240_6 : (m4X w16 240 6).toInt = (m4X w14 240 6).toInt := by unfold m4X; rw [fw16 240 6 (by omega) (by omega)]
          have tw16_240_7 : (m4X w16 240 7).toInt = (m4X w14 240 7).toInt := by unfold m4X; rw [fw16 240 7 (by omega) (by omega)]
          have tw16_240_8 : (m4X w16 240 8).toInt = (m4X w14 240 8).toInt := by unfold m4X; rw [fw16 240 8 (by omega) (by omega)]
          have tw16_240_43 : (m4X w16 240 43).toInt = (m4X w14 240 43).toInt := by unfold m4X; rw [fw16 240 43 (by omega) (by omega)]
          have tw16_240_45 : (m4X w16 240 45).toInt = (m4X w14 240 45).toInt := by unfold m4X; rw [fw16 240 45 (by omega) (by omega)]
          have tw16_240_46 : (m4X w16 240 46).toInt = (m4X w14 240 46).toInt := by unfold m4X; rw [fw16 240 46 (by omega) (by omega)]
          have tw16_240_47 : (m4X w16 240 47).toInt = (m4X w14 240 47).toInt := by unfold m4X; rw [fw16 240 47 (by omega) (by omega)]
          show mjGo mjTb mjMt sc _ 213 (101, [some (.ref 240), some (.int rk)], [], w16) _
          refine g_goto M_213 q_213_101 ?_
          have e44 : (m4X w14 240 44).toInt.toNat = (m4X w 240 44).toInt.toNat := by omega
          have ie : m4IE b fr R false w16 := m4IE_pop h (by omega) Tw16 (by omega) (by omega) (by omega) ⟨fun _ => by omega, fun _ => by omega⟩ (by omega) (by omega) (fun k hk => (((m4X_fld (fw16 269 k (by omega) (by omega)))).trans (Uw14.X (b := 269) (j := k) (by omega))).trans (Uw8.X (b := 269) (j := k) (by omega))) (fun j => ⟨(((m4X_fld (fw16 271 j (by omega) (by omega)))).trans (Uw14.X (b := 271) (j := j) (by omega))).trans (Uw8.X (b := 271) (j := j) (by omega)), (((m4X_fld (fw16 272 j (by omega) (by omega)))).trans (Uw14.X (b := 272) (j := j) (by omega))).trans (Uw8.X (b := 272) (j := j) (by omega))⟩) (by rw [← e44, pw16]; omega)
          have kb : m4Kb b w w16 := (((m4Kb_up Uw8 (by unfold m4Kp m4Kq; omega)).trans (m4Kb_up Uw14 (by unfold m4Kp m4Kq; omega))).trans (m4Kb_fld sw16 (fun a k hk => fw16 a k (by unfold m4Kp m4Kq at hk; omega) (by unfold m4Kp m4Kq at hk; omega))))
          have xk : ∀ k, k = 3 ∨ k = 4 ∨ k = 6 ∨ k = 7 ∨ k = 8 → m4X w16 240 k = m4X w 240 k := fun k hk => (((m4X_fld (fw16 240 k (by omega) (by omega)))).trans (Uw14.X (b := 240) (j := k) (by omega))).trans (Uw8.X (b := 240) (j := k) (by omega))
          have x2 : ∀ j, m4X w16 242 j = m4X w 242 j := fun j => (((m4X_fld (fw16 242 j (by omega) (by omega)))).trans (Uw14.X (b := 242) (j := j) (by omega))).trans (Uw8.X (b := 242) (j := j) (by omega))
          refine ih R w16 (by omega) ie (fun T1 w9 h9 k9 a9 b9 c9 d9 => K T1 w9 h9 (kb.trans k9) (fun k hk => (a9 k hk).trans (xk k hk)) (fun j => (b9 j).trans (x2 j)) (by omega) d9)
theorem H_bu2n {sc : List Int32} {b : Nat} {fr : Int} {w : MjW} {rk : Int32} (h : m4IE b fr ([] : List (Int × Int)) false w) (hg : (m4X w 240 4).toInt = 0) (hr : rk.toInt = 0 ∨ ((rk.toInt = 1 ∨ rk.toInt = 2) ∧ (m4X w 240 8).toInt = 3) ∨ ((rk.toInt = 4 ∨ rk.toInt = 5 ∨ rk.toInt = 6) ∧ (m4X w 240 8).toInt = 5 ∧ m4Sg w (m4X w 240 6).toInt ≠ 126 ∧ ¬ (97 ≤ m4Sg w (m4X w 240 6).toInt ∧ m4Sg w (m4X w 240 6).toInt ≤ 122))) : mjGo mjTb mjMt sc (4 + 1) 213 (104, [some (.ref 240), some (.int rk)], [], w) (fun r w1 => mjTyd m4S w1 ∧ m4Kb b w w1 ∧ (m4X w1 240 7).toInt ≤ (m4X w1 240 3).toInt ∧ ∃ u : Int32, r = some (.int u) ∧ (¬ (m4X w1 240 4).toInt = 0 ∨ ((m4X w1 240 4).toInt = 0 ∧ (m4Mu w1 < m4Mu w ∨ (m4Mu w1 ≤ m4Mu w ∧ (m4X w1 240 46).toInt < (m4X w 240 46).toInt)) ∧ ((u.toInt = 1 ∧ ∃ T1, m4IE b fr T1 true w1) ∨ (u.toInt = 0 ∧ (((m4X w1 240 46).toInt = 0 ∧ m4Hs w1 fr 1 ∧ fr ≤ (m4X w1 240 44).toInt ∧ (m4X w1 240 44).toInt ≤ fr + 280) ∨ ∃ T1, m4IE b fr T1 false w1)))))) := by
  have Tw := h.1
  have he := h.2.1
  have hrb := h.2.2.1
  have bd := m4IE_bd h
  have hp46 := h.2.2.2.2.1
  have hfr := h.2.2.2.2.2.2.2.1
  have top := m4IE_top h
  have b6w := (fi_240_6 Tw).2
  have hr1 : 0 ≤ rk.toInt ∧ rk.toInt ≤ 6 ∧ rk.toInt ≠ 3 := by clear top hrb bd; omega
  have hr2 : rk.toInt ≠ 0 → (m4X w 240 8).toInt ≠ 0 := by clear top hrb bd; omega
  have hr3 : 4 ≤ rk.toInt → m4Sg w (m4X w 240 6).toInt ≠ 126 ∧ ¬ (97 ≤ m4Sg w (m4X w 240 6).toInt ∧ m4Sg w (m4X w 240 6).toInt ≤ 122) := by clear top hrb bd; omega
  clear hr
  have t1 : (m4X w 271 ((m4X w 240 46).toInt - 1).toNat).toInt = 8 := by
    rcases top with q | ⟨e, R, q, -⟩
    · exact q.2
    · cases q
  rw [List.length_nil] at hp46
  have k_0 := c_0
  have k_1 := c_1
  have k_2 := c_2
  have k_7 := c_7
  have k_38 := c_38
  have k_41 := c_41
  have k_124 := c_124
  refine g_L (v := .int rk) (n := 1) M_213 q_213_104 rfl ?_
  refine g_if M_213 q_213_105 mjCz_le (fun b1 => ?_) (fun b1 => ?_)
  · refine g_L (v := .ref 240) (n := 1) M_213 q_213_147 rfl ?_
    refine g_A (st1 := [.ref 240, .ref 240]) M_213 q_213_148 rfl ?_
    have bw_240_46 := (fi_240_46 Tw).2
    refine h_get M_213 q_213_149 Tw ro_240 (by decide) kd_241 (fi_240_46 Tw).1 ?_
    refine g_A (st1 := [.int (1 : Int32), .int (m4X w 240 46), .ref 240]) M_213 q_213_152 rfl ?_
    refine h_isub M_213 q_213_153 (by omega) (by omega) (fun u2 hu2 => ?_)
    refine h_put M_213 q_213_154 Tw ro_240 (by decide) kd_241 ln_241 (by decide) (m4_fitI rfl) (m4_hasI ty_241_46 (by omega) (by omega)) (fun w3 Tw3 Uw3 => ?_)
    have tw3_240_46 := Uw3.at
    have tw3_240_3 := Uw3.ne (b := 240) (j := 3) (by decide)
    have tw3_240_4 := Uw3.ne (b := 240) (j := 4) (by decide)
    have tw3_240_6 := Uw3.ne (b := 240) (j := 6) (by decide)
    have tw3_240_7 := Uw3.ne (b := 240) (j := 7) (by decide)
    have tw3_240_8 := Uw3.ne (b := 240) (j := 8) (by decide)
    have tw3_240_43 := Uw3.ne (b := 240) (j := 43) (by decide)
    have tw3_240_44 := Uw3.ne (b := 240) (j := 44) (by decide)
    have tw3_240_45 := Uw3.ne (b := 240) (j := 45) (by decide)
    have tw3_240_47 := Uw3.ne (b := 240) (j := 47) (by decide)
    refine g_L (v := .ref 240) (n := 1) M_213 q_213_157 rfl ?_
    refine h_get M_213 q_213_158 Tw3 ro_240 (by decide) kd_241 (fr_240_39 Tw3) ?_
    refine g_L (v := .ref 240) (n := 1) M_213 q_213_161 rfl ?_
    have bw3_240_46 := (fi_240_46 Tw3).2
    refine h_get M_213 q_213_162 Tw3 ro_240 (by decide) kd_241 (fi_240_46 Tw3).1 ?_
    have e4 := ar_272 Tw3 ro_271 (j := (m4X w3 240 46).toInt.toNat) (by omega)
    refine h_ald (j := (m4X w3 240 46).toInt.toNat) M_213 q_213_165 Tw3 ro_271 (by decide) kd_272 (by omega) e4.1 ?_
    have eJ : (m4X w3 240 46).toInt.toNat = ((m4X w 240 46).toInt - 1).toNat := by omega
    have tJ : (m4X w3 271 (m4X w3 240 46).toInt.toNat).toInt = (m4X w 271 ((m4X w 240 46).toInt - 1).toNat).toInt := by rw [eJ, show m4X w3 271 ((m4X w 240 46).toInt - 1).toNat = m4X w 271 ((m4X w 240 46).toInt - 1).toNat from (Uw3.X (b := 271) (j := ((m4X w 240 46).toInt - 1).toNat) (by omega))]
    refine g_P (v := .int (7 : Int32)) (n := 2) M_213 q_213_166 rfl ?_
    refine g_icmp M_213 q_213_168 mjCi_ne (fun b5 => ?_) (fun b5 => ?_)
    · refine g_A (st1 := [.int (0 : Int32)]) M_213 q_213_191 rfl ?_
      refine g_ret (v := some (.int (0 : Int32))) M_213 q_213_192 (h_rtZ) ?_
      have kb : m4Kb b w w3 := (m4Kb_up Uw3 (by unfold m4Kp m4Kq; omega))
      have mi := m4Mu_eq (w := w) (w1 := w3) (by omega) (by omega)
      have hs := m4Hs_eq h.2.2.2.2.2.2.2.2.2 ((Uw3.X (b := 240) (j := 44) (by omega))) (fun k _ => (Uw3.X (b := 269) (j := k) (by omega)))
      exact ⟨Tw3, kb, by omega, _, rfl, Or.inr ⟨by omega, Or.inr ⟨by omega, by omega⟩, Or.inr ⟨rfl, Or.inl ⟨by omega, hs, by omega, by omega⟩⟩⟩⟩
    · refine g_L (v := .ref 240) (n := 1) M_213 q_213_171 rfl ?_
      refine g_A (st1 := [.ref 240, .ref 240]) M_213 q_213_172 rfl ?_
      have bw3_240_45 := (fi_240_45 Tw3).2
      refine h_get M_213 q_213_173 Tw3 ro_240 (by decide) kd_241 (fi_240_45 Tw3).1 ?_
      refine g_A (st1 := [.int (1 : Int32), .int (m4X w3 240 45), .ref 240]) M_213 q_213_176 rfl ?_
      refine h_isub M_213 q_213_177 (by omega) (by omega) (fun u6 hu6 => ?_)
      refine h_put M_213 q_213_178 Tw3 ro_240 (by decide) kd_241 ln_241 (by decide) (m4_fitI rfl) (m4_hasI ty_241_45 (by omega) (by omega)) (fun w7 Tw7 Uw7 => ?_)
      have tw7_240_45 := Uw7.at
      have tw7_240_3 := Uw7.ne (b := 240) (j := 3) (by decide)
      have tw7_240_4 := Uw7.ne (b := 240) (j := 4) (by decide)
      have tw7_240_6 := Uw7.ne (b := 240) (j := 6) (by decide)
      have tw7_240_7 := Uw7.ne (b := 240) (j := 7) (by decide)
      have tw7_240_8 := Uw7.ne (b := 240) (j := 8) (by decide)
      have tw7_240_43 := Uw7.ne (b := 240) (j := 43) (by decide)
      have tw7_240_44 := Uw7.ne (b := 240) (j := 44) (by decide)
      have tw7_240_46 := Uw7.ne (b := 240) (j := 46) (by decide)
      have tw7_240_47 := Uw7.ne (b := 240) (j := 47) (by decide)
      refine g_L (v := .ref 240) (n := 1) M_213 q_213_181 rfl ?_
      refine g_L (v := .ref 240) (n := 1) M_213 q_213_182 rfl ?_
      refine g_P (v := .int (41 : Int32)) (n := 2) M_213 q_213_183 rfl ?_
      refine h_run (as := [.ref 240, .int (41 : Int32)]) (rest := [.ref 240]) (M1 := mjM_210) (d1 := 1) (ls0 := [some (.ref 240), some (.int (41 : Int32))]) M_213 q_213_185 (h_cv Tw7 ro_240 (by decide) kd_241 (by decide) (show 1 ≤ 3 by decide) rfl (show 1 ≤ 8 by decide)) M_210 (show 2 ≤ 2 by decide) (by decide) rfl (by omega) (H_isSignHere Tw7) (fun u8 hu8 => ?_)
      refine h_ctr (J := m4Q w7 (m4Mu w7)) (sm := mjSm_r_5) (as := [.ref 240, .int u8]) (rest := []) (M1 := mjM_198) M_213 q_213_188 (h_cv Tw7 ro_240 (by decide) kd_241 (by decide) (show 1 ≤ 2 by decide) rfl (show 0 ≤ 8 by decide)) M_198 (show 2 ≤ 2 by decide) (by decide) (by decide) (mjC_r_5 (m4Q_ok _ _) (H_r _ _)) ⟨Tw7, m4Q_refl (by omega)⟩ ⟨⟨240, rfl, rfl⟩, ⟨u8, rfl, (show (0 : Int) ≤ u8.toInt by omega), (show u8.toInt ≤ (1 : Int) by omega)⟩, trivial⟩ (fun q hq => by cases hq) (fun r w9 hp => ?_)
      obtain ⟨rfl, ⟨Tw9, Qw9⟩, kpw9⟩ := m4_void hp rfl
      show mjGo mjTb mjMt sc _ 213 (191, [some (.ref 240), some (.int rk)], [], w9) _
      refine g_A (st1 := [.int (0 : Int32)]) M_213 q_213_191 rfl ?_
      refine g_ret (v := some (.int (0 : Int32))) M_213 q_213_192 (h_rtZ) ?_
      exfalso; omega
  · refine g_L (v := .ref 240) (n := 1) M_213 q_213_108 rfl ?_
    refine g_L (v := .int rk) (n := 1) M_213 q_213_109 rfl ?_
    refine g_L (v := .int rk) (n := 1) M_213 q_213_110 rfl ?_
    refine g_A (st1 := [.int (2 : Int32), .int rk, .int rk, .ref 240]) M_213 q_213_111 rfl ?_
    refine g_icmp M_213 q_213_112 mjCi_ne (fun b10 => ?_) (fun b10 => ?_)
    · refine g_L (v := .int rk) (n := 1) M_213 q_213_120 rfl ?_
      refine g_A (st1 := [.int (1 : Int32), .int rk, .int rk, .ref 240]) M_213 q_213_121 rfl ?_
      refine g_icmp M_213 q_213_122 mjCi_ne (fun b11 => ?_) (fun b11 => ?_)
      · refine g_L (v := .ref 240) (n := 1) M_213 q_213_130 rfl ?_
        refine g_L (v := .ref 240) (n := 1) M_213 q_213_131 rfl ?_
        have bw_240_6 := (fi_240_6 Tw).2
        refine h_get M_213 q_213_132 Tw ro_240 (by decide) kd_241 (fi_240_6 Tw).1 ?_
        refine h_run (as := [.ref 240, .int (m4X w 240 6)]) (rest := [.int rk, .ref 240]) (M1 := mjM_182) (d1 := 0) (ls0 := [some (.ref 240), some (.int (m4X w 240 6))]) M_213 q_213_135 (h_cv Tw ro_240 (by decide) kd_241 (by decide) (show 1 ≤ 4 by decide) rfl (show 2 ≤ 8 by decide)) M_182 (show 2 ≤ 2 by decide) (by decide) rfl (by omega) (H_sign Tw (by omega)) (fun u12 hu12 => ?_)
        obtain ⟨hu12a, hu12b, hu12c, hu12d⟩ := hu12
        refine g_call (d := 4) (y1 := 208) (as := [.ref 240, .int rk, .int u12]) (rest := []) (M1 := mjM_208) (d1 := 0) (ls0 := [some (.ref 240), some (.int rk), some (.int u12)]) M_213 q_213_138 (h_cv Tw ro_240 (by decide) kd_241 (by decide) (show 2 ≤ 3 by decide) rfl (show 0 ≤ 8 by decide)) M_208 (show 3 ≤ 3 by decide) (by decide) rfl (by decide) (H_pushE Tw (by omega)) ?_
        rintro r w13 ⟨rfl, Tw13, sw13, fw13, nw13, pw13⟩
        have tw13_240_3 : (m4X w13 240 3).toInt = (m4X w 240 3).toInt := by unfold m4X; rw [fw13 240 3 (by omega) (by omega)]
        have tw13_240_4 : (m4X w13 240 4).toInt = (m4X w 240 4).toInt := by unfold m4X; rw [fw13 240 4 (by omega) (by omega)]
        have tw13_240_6 : (m4X w13 240 6).toInt = (m4X w 240 6).toInt := by unfold m4X; rw [fw13 240 6 (by omega) (by omega)]
        have tw13_240_7 : (m4X w13 240 7).toInt = (m4X w 240 7).toInt := by unfold m4X; rw [fw13 240 7 (by omega) (by omega)]
        have tw13_240_8 : (m4X w13 240 8).toInt = (m4X w 240 8).toInt := by unfold m4X; rw [fw13 240 8 (by omega) (by omega)]
        have tw13_240_43 : (m4X w13 240 43).toInt = (m4X w 240 43).toInt := by unfold m4X; rw [fw13 240 43 (by omega) (by omega)]
        have tw13_240_44 : (m4X w13 240 44).toInt = (m4X w 240 44).toInt := by unfold m4X; rw [fw13 240 44 (by omega) (by omega)]
        have tw13_240_45 : (m4X w13 240 45).toInt = (m4X w 240 45).toInt := by unfold m4X; rw [fw13 240 45 (by omega) (by omega)]
        have tw13_240_47 : (m4X w13 240 47).toInt = (m4X w 240 47).toInt := by unfold m4X; rw [fw13 240 47 (by omega) (by omega)]
        show mjGo mjTb mjMt sc _ 213 (141, [some (.ref 240), some (.int rk)], [], w13) _
        refine g_L (v := .ref 240) (n := 1) M_213 q_213_141 rfl ?_
        refine g_call (d := 4) (y1 := 181) (as := [.ref 240]) (rest := []) (M1 := mjM_181) (d1 := 2) (ls0 := [some (.ref 240), none, none]) M_213 q_213_142 (h_cv Tw13 ro_240 (by decide) kd_241 (by decide) (show 0 ≤ 1 by decide) rfl (show 0 ≤ 8 by decide)) M_181 (show 1 ≤ 3 by decide) (by decide) rfl (by decide) (H_goOn (d := 1) (by decide) Tw13 (by omega)) ?_
        rintro r w14 ⟨rfl, Tw14, kw14, gw14a, gw14b⟩
        have muw14 := m4Mu_go (fi_240_8 Tw14).2.1 gw14b
        have tw14_240_3 := congrArg Int32.toInt (kw14.X (a := 240) (k := 3) ro_240 rfl)
        have tw14_240_4 := congrArg Int32.toInt (kw14.X (a := 240) (k := 4) ro_240 rfl)
        have tw14_240_43 := congrArg Int32.toInt (kw14.X (a := 240) (k := 43) ro_240 rfl)
        have tw14_240_44 := congrArg Int32.toInt (kw14.X (a := 240) (k := 44) ro_240 rfl)
        have tw14_240_45 := congrArg Int32.toInt (kw14.X (a := 240) (k := 45) ro_240 rfl)
        have tw14_240_46 := congrArg Int32.toInt (kw14.X (a := 240) (k := 46) ro_240 rfl)
        have tw14_240_47 := congrArg Int32.toInt (kw14.X (a := 240) (k := 47) ro_240 rfl)
        show mjGo mjTb mjMt sc _ 213 (145, [some (.ref 240), some (.int rk)], [], w14) _
        refine g_A (st1 := [.int (1 : Int32)]) M_213 q_213_145 rfl ?_
        refine g_ret (v := some (.int (1 : Int32))) M_213 q_213_146 (h_rtZ) ?_
        have kb : m4Kb b w w14 := ((m4Kb_fld sw13 (fun a k hk => fw13 a k (by unfold m4Kp m4Kq at hk; omega) (by unfold m4Kp m4Kq at hk; omega))).trans (m4Kb_kp kw14 (by decide)))
        have ie : m4IE b fr ((rk.toInt, (m4X w13 272 (m4X w 240 46).toInt.toNat).toInt) :: ([] : List (Int × Int))) true w13 := m4IE_bin (x := rk.toInt) (s := (m4X w13 272 (m4X w 240 46).toInt.toNat).toInt) h Tw13 (by omega) (by omega) ⟨by rw [pw13.2]; omega, by rw [pw13.2]; omega⟩ (by omega) ((m4X_fld (fw13 240 44 (by omega) (by omega)))) (by omega) (by omega) (by omega) (fun k => (m4X_fld (fw13 269 k (by omega) (by omega)))) (fun j hj => ⟨(m4X_fld (fw13 271 j (by omega) (by omega))), (m4X_fld (fw13 272 j (by omega) (by omega)))⟩) (by rw [pw13.1]) rfl
        have ie2 := m4IE_kp ie Tw14 gw14a kw14
        have mi := m4Mu_eq (w := w) (w1 := w13) (by omega) (by omega)
        exact ⟨Tw14, kb, by omega, _, rfl, Or.inr ⟨by omega, Or.inl (by have := muw14.2 (by omega); omega), Or.inl ⟨rfl, _, ie2⟩⟩⟩
      · refine g_P (v := .int (124 : Int32)) (n := 2) M_213 q_213_125 rfl ?_
        refine g_goto M_213 q_213_127 ?_
        refine g_call (d := 4) (y1 := 208) (as := [.ref 240, .int rk, .int (124 : Int32)]) (rest := []) (M1 := mjM_208) (d1 := 0) (ls0 := [some (.ref 240), some (.int rk), some (.int (124 : Int32))]) M_213 q_213_138 (h_cv Tw ro_240 (by decide) kd_241 (by decide) (show 2 ≤ 3 by decide) rfl (show 0 ≤ 8 by decide)) M_208 (show 3 ≤ 3 by decide) (by decide) rfl (by decide) (H_pushE Tw (by omega)) ?_
        rintro r w15 ⟨rfl, Tw15, sw15, fw15, nw15, pw15⟩
        have tw15_240_3 : (m4X w15 240 3).toInt = (m4X w 240 3).toInt := by unfold m4X; rw [fw15 240 3 (by omega) (by omega)]
        have tw15_240_4 : (m4X w15 240 4).toInt = (m4X w 240 4).toInt := by unfold m4X; rw [fw15 240 4 (by omega) (by omega)]
        have tw15_240_6 : (m4X w15 240 6).toInt = (m4X w 240 6).toInt := by unfold m4X; rw [fw15 240 6 (by omega) (by omega)]
        have tw15_240_7 : (m4X w15 240 7).toInt = (m4X w 240 7).toInt := by unfold m4X; rw [fw15 240 7 (by omega) (by omega)]
        have tw15_240_8 : (m4X w15 240 8).toInt = (m4X w 240 8).toInt := by unfold m4X; rw [fw15 240 8 (by omega) (by omega)]
        have tw15_240_43 : (m4X w15 240 43).toInt = (m4X w 240 43).toInt := by unfold m4X; rw [fw15 240 43 (by omega) (by omega)]
        have tw15_240_44 : (m4X w15 240 44).toInt = (m4X w 240 44).toInt := by unfold m4X; rw [fw15 240 44 (by omega) (by omega)]
        have tw15_240_45 : (m4X w15 240 45).toInt = (m4X w 240 45).toInt := by unfold m4X; rw [fw15 240 45 (by omega) (by omega)]
        have tw15_240_47 : (m4X w15 240 47).toInt = (m4X w 240 47).toInt := by unfold m4X; rw [fw15 240 47 (by omega) (by omega)]
        show mjGo mjTb mjMt sc _ 213 (141, [some (.ref 240), some (.int rk)], [], w15) _
        refine g_L (v := .ref 240) (n := 1) M_213 q_213_141 rfl ?_
        refine g_call (d := 4) (y1 := 181) (as := [.ref 240]) (rest := []) (M1 := mjM_181) (d1 := 2) (ls0 := [some (.ref 240), none, none]) M_213 q_213_142 (h_cv Tw15 ro_240 (by decide) kd_241 (by decide) (show 0 ≤ 1 by decide) rfl (show 0 ≤ 8 by decide)) M_181 (show 1 ≤ 3 by decide) (by decide) rfl (by decide) (H_goOn (d := 1) (by decide) Tw15 (by omega)) ?_
        rintro r w16 ⟨rfl, Tw16, kw16, gw16a, gw16b⟩
        have muw16 := m4Mu_go (fi_240_8 Tw16).2.1 gw16b
        have tw16_240_3 := congrArg Int32.toInt (kw16.X (a := 240) (k := 3) ro_240 rfl)
        have tw16_240_4 := congrArg Int32.toInt (kw16.X (a := 240) (k := 4) ro_240 rfl)
        have tw16_240_43 := congrArg Int32.toInt (kw16.X (a := 240) (k := 43) ro_240 rfl)
        have tw16_240_44 := congrArg Int32.toInt (kw16.X (a := 240) (k := 44) ro_240 rfl)
        have tw16_240_45 := congrArg Int32.toInt (kw16.X (a := 240) (k := 45) ro_240 rfl)
        have tw16_240_46 := congrArg Int32.toInt (kw16.X (a := 240) (k := 46) ro_240 rfl)
        have tw16_240_47 := congrArg Int32.toInt (kw16.X (a := 240) (k := 47) ro_240 rfl)
        show mjGo mjTb mjMt sc _ 213 (145, [some (.ref 240), some (.int rk)], [], w16) _
        refine g_A (st1 := [.int (1 : Int32)]) M_213 q_213_145 rfl ?_
        refine g_ret (v := some (.int (1 : Int32))) M_213 q_213_146 (h_rtZ) ?_
        have kb : m4Kb b w w16 := ((m4Kb_fld sw15 (fun a k hk => fw15 a k (by unfold m4Kp m4Kq at hk; omega) (by unfold m4Kp m4Kq at hk; omega))).trans (m4Kb_kp kw16 (by decide)))
        have ie : m4IE b fr ((rk.toInt, (m4X w15 272 (m4X w 240 46).toInt.toNat).toInt) :: ([] : List (Int × Int))) true w15 := m4IE_bin (x := rk.toInt) (s := (m4X w15 272 (m4X w 240 46).toInt.toNat).toInt) h Tw15 (by omega) (by omega) ⟨by rw [pw15.2]; omega, by rw [pw15.2]; omega⟩ (by omega) ((m4X_fld (fw15 240 44 (by omega) (by omega)))) (by omega) (by omega) (by omega) (fun k => (m4X_fld (fw15 269 k (by omega) (by omega)))) (fun j hj => ⟨(m4X_fld (fw15 271 j (by omega) (by omega))), (m4X_fld (fw15 272 j (by omega) (by omega)))⟩) (by rw [pw15.1]) rfl
        have ie2 := m4IE_kp ie Tw16 gw16a kw16
        have mi := m4Mu_eq (w := w) (w1 := w15) (by omega) (by omega)
        exact ⟨Tw16, kb, by omega, _, rfl, Or.inr ⟨by omega, Or.inl (by have := muw16.2 (by omega); omega), Or.inl ⟨rfl, _, ie2⟩⟩⟩
    · refine g_P (v := .int (38 : Int32)) (n := 2) M_213 q_213_115 rfl ?_
      refine g_goto M_213 q_213_117 ?_
      refine g_call (d := 4) (y1 := 208) (as := [.ref 240, .int rk, .int (38 : Int32)]) (rest := []) (M1 := mjM_208) (d1 := 0) (ls0 := [some (.ref 240), some (.int rk), some (.int (38 : Int32))]) M_213 q_213_138 (h_cv Tw ro_240 (by decide) kd_241 (by decide) (show 2 ≤ 3 by decide) rfl (show 0 ≤ 8 by decide)) M_208 (show 3 ≤ 3 by decide) (by decide) rfl (by decide) (H_pushE Tw (by omega)) ?_
      rintro r w17 ⟨rfl, Tw17, sw17, fw17, nw17, pw17⟩
      have tw17_240_3 : (m4X w17 240 3).toInt = (m4X w 240 3).toInt := by unfold m4X; rw [fw17 240 3 (by omega) (by omega)]
      have tw17_240_4 : (m4X w17 240 4).toInt = (m4X w 240 4).toInt := by unfold m4X; rw [fw17 240 4 (by omega) (by omega)]
      have tw17_240_6 : (m4X w17 240 6).toInt = (m4X w 240 6).toInt := by unfold m4X; rw [fw17 240 6 (by omega) (by omega)]
      have tw17_240_7 : (m4X w17 240 7).toInt = (m4X w 240 7).toInt := by unfold m4X; rw [fw17 240 7 (by omega) (by omega)]
      have tw17_240_8 : (m4X w17 240 8).toInt = (m4X w 240 8).toInt := by unfold m4X; rw [fw17 240 8 (by omega) (by omega)]
      have tw17_240_43 : (m4X w17 240 43).toInt = (m4X w 240 43).toInt := by unfold m4X; rw [fw17 240 43 (by omega) (by omega)]
      have tw17_240_44 : (m4X w17 240 44).toInt = (m4X w 240 44).toInt := by unfold m4X; rw [fw17 240 44 (by omega) (by omega)]
      have tw17_240_45 : (m4X w17 240 45).toInt = (m4X w 240 45).toInt := by unfold m4X; rw [fw17 240 45 (by omega) (by omega)]
      have tw17_240_47 : (m4X w17 240 47).toInt = (m4X w 240 47).toInt := by unfold m4X; rw [fw17 240 47 (by omega) (by omega)]
      show mjGo mjTb mjMt sc _ 213 (141, [some (.ref 240), some (.int rk)], [], w17) _
      refine g_L (v := .ref 240) (n := 1) M_213 q_213_141 rfl ?_
      refine g_call (d := 4) (y1 := 181) (as := [.ref 240]) (rest := []) (M1 := mjM_181) (d1 := 2) (ls0 := [some (.ref 240), none, none]) M_213 q_213_142 (h_cv Tw17 ro_240 (by decide) kd_241 (by decide) (show 0 ≤ 1 by decide) rfl (show 0 ≤ 8 by decide)) M_181 (show 1 ≤ 3 by decide) (by decide) rfl (by decide) (H_goOn (d := 1) (by decide) Tw17 (by omega)) ?_
      rintro r w18 ⟨rfl, Tw18, kw18, gw18a, gw18b⟩
      have muw18 := m4Mu_go (fi_240_8 Tw18).2.1 gw18b
      have tw18_240_3 := congrArg Int32.toInt (kw18.X (a := 240) (k := 3) ro_240 rfl)
      have tw18_240_4 := congrArg Int32.toInt (kw18.X (a := 240) (k := 4) ro_240 rfl)
      have tw18_240_43 := congrArg Int32.toInt (kw18.X (a := 240) (k := 43) ro_240 rfl)
      have tw18_240_44 := congrArg Int32.toInt (kw18.X (a := 240) (k := 44) ro_240 rfl)
      have tw18_240_45 := congrArg Int32.toInt (kw18.X (a := 240) (k := 45) ro_240 rfl)
      have tw18_240_46 := congrArg Int32.toInt (kw18.X (a := 240) (k := 46) ro_240 rfl)
      have tw18_240_47 := congrArg Int32.toInt (kw18.X (a := 240) (k := 47) ro_240 rfl)
      show mjGo mjTb mjMt sc _ 213 (145, [some (.ref 240), some (.int rk)], [], w18) _
      refine g_A (st1 := [.int (1 : Int32)]) M_213 q_213_145 rfl ?_
      refine g_ret (v := some (.int (1 : Int32))) M_213 q_213_146 (h_rtZ) ?_
      have kb : m4Kb b w w18 := ((m4Kb_fld sw17 (fun a k hk => fw17 a k (by unfold m4Kp m4Kq at hk; omega) (by unfold m4Kp m4Kq at hk; omega))).trans (m4Kb_kp kw18 (by decide)))
      have ie : m4IE b fr ((rk.toInt, (m4X w17 272 (m4X w 240 46).toInt.toNat).toInt) :: ([] : List (Int × Int))) true w17 := m4IE_bin (x := rk.toInt) (s := (m4X w17 272 (m4X w 240 46).toInt.toNat).toInt) h Tw17 (by omega) (by omega) ⟨by rw [pw17.2]; omega, by rw [pw17.2]; omega⟩ (by omega) ((m4X_fld (fw17 240 44 (by omega) (by omega)))) (by omega) (by omega) (by omega) (fun k => (m4X_fld (fw17 269 k (by omega) (by omega)))) (fun j hj => ⟨(m4X_fld (fw17 271 j (by omega) (by omega))), (m4X_fld (fw17 272 j (by omega) (by omega)))⟩) (by rw [pw17.1]) rfl
      have ie2 := m4IE_kp ie Tw18 gw18a kw18
      have mi := m4Mu_eq (w := w) (w1 := w17) (by omega) (by omega)
      exact ⟨Tw18, kb, by omega, _, rfl, Or.inr ⟨by omega, Or.inl (by have := muw18.2 (by omega); omega), Or.inl ⟨rfl, _, ie2⟩⟩⟩
theorem H_bu2c {sc : List Int32} {b : Nat} {fr : Int} {e : Int × Int} {R : List (Int × Int)} {w : MjW} {rk : Int32} (h : m4IE b fr (e :: R) false w) (hg : (m4X w 240 4).toInt = 0) (hr : rk.toInt = 0 ∨ ((rk.toInt = 1 ∨ rk.toInt = 2) ∧ (m4X w 240 8).toInt = 3) ∨ ((rk.toInt = 4 ∨ rk.toInt = 5 ∨ rk.toInt = 6) ∧ (m4X w 240 8).toInt = 5 ∧ m4Sg w (m4X w 240 6).toInt ≠ 126 ∧ ¬ (97 ≤ m4Sg w (m4X w 240 6).toInt ∧ m4Sg w (m4X w 240 6).toInt ≤ 122))) (ht : 6 < e.1 ∨ e.1 < rk.toInt) : mjGo mjTb mjMt sc (4 + 1) 213 (104, [some (.ref 240), some (.int rk)], [], w) (fun r w1 => mjTyd m4S w1 ∧ m4Kb b w w1 ∧ (m4X w1 240 7).toInt ≤ (m4X w1 240 3).toInt ∧ ∃ u : Int32, r = some (.int u) ∧ (¬ (m4X w1 240 4).toInt = 0 ∨ ((m4X w1 240 4).toInt = 0 ∧ (m4Mu w1 < m4Mu w ∨ (m4Mu w1 ≤ m4Mu w ∧ (m4X w1 240 46).toInt < (m4X w 240 46).toInt)) ∧ ((u.toInt = 1 ∧ ∃ T1, m4IE b fr T1 true w1) ∨ (u.toInt = 0 ∧ (((m4X w1 240 46).toInt = 0 ∧ m4Hs w1 fr 1 ∧ fr ≤ (m4X w1 240 44).toInt ∧ (m4X w1 240 44).toInt ≤ fr + 280) ∨ ∃ T1, m4IE b fr T1 false w1)))))) := by
  have Tw := h.1
  have he := h.2.1
  have hrb := h.2.2.1
  have bd := m4IE_bd h
  have hp46 := h.2.2.2.2.1
  have hfr := h.2.2.2.2.2.2.2.1
  have top := m4IE_top h
  have b6w := (fi_240_6 Tw).2
  have hr1 : 0 ≤ rk.toInt ∧ rk.toInt ≤ 6 ∧ rk.toInt ≠ 3 := by clear top hrb bd; omega
  have hr2 : rk.toInt ≠ 0 → (m4X w 240 8).toInt ≠ 0 := by clear top hrb bd; omega
  have hr3 : 4 ≤ rk.toInt → m4Sg w (m4X w 240 6).toInt ≠ 126 ∧ ¬ (97 ≤ m4Sg w (m4X w 240 6).toInt ∧ m4Sg w (m4X w 240 6).toInt ≤ 122) := by clear top hrb bd; omega
  clear hr
  have tt : m4En e ∧ (m4X w 271 ((m4X w 240 46).toInt - 1).toNat).toInt = e.1 ∧ (m4X w 272 ((m4X w 240 46).toInt - 1).toNat).toInt = e.2 := by
    rcases top with q | ⟨e1, R1, q, q1, q2, q3⟩
    · cases q.1
    · cases q; exact ⟨q1, q2, q3⟩
  obtain ⟨⟨en1, -, -⟩, t1, t2⟩ := tt
  have hwi := h.2.2.2.2.2.2.1
  have cl := m4c_len R
  have cc7 : e.1 = 7 → 1 ≤ m4cK (e :: R) := fun q => (by have z := (m4c_brk (T := R) q).2.2; omega)
  have k_0 := c_0
  have k_1 := c_1
  have k_2 := c_2
  have k_7 := c_7
  have k_38 := c_38
  have k_41 := c_41
  have k_124 := c_124
  refine g_L (v := .int rk) (n := 1) M_213 q_213_104 rfl ?_
  refine g_if M_213 q_213_105 mjCz_le (fun b1 => ?_) (fun b1 => ?_)
  · refine g_L (v := .ref 240) (n := 1) M_213 q_213_147 rfl ?_
    refine g_A (st1 := [.ref 240, .ref 240]) M_213 q_213_148 rfl ?_
    have bw_240_46 := (fi_240_46 Tw).2
    refine h_get M_213 q_213_149 Tw ro_240 (by decide) kd_241 (fi_240_46 Tw).1 ?_
    refine g_A (st1 := [.int (1 : Int32), .int (m4X w 240 46), .ref 240]) M_213 q_213_152 rfl ?_
    refine h_isub M_213 q_213_153 (by omega) (by omega) (fun u2 hu2 => ?_)
    refine h_put M_213 q_213_154 Tw ro_240 (by decide) kd_241 ln_241 (by decide) (m4_fitI rfl) (m4_hasI ty_241_46 (by omega) (by omega)) (fun w3 Tw3 Uw3 => ?_)
    have tw3_240_46 := Uw3.at
    have tw3_240_3 := Uw3.ne (b := 240) (j := 3) (by decide)
    have tw3_240_4 := Uw3.ne (b := 240) (j := 4) (by decide)
    have tw3_240_6 := Uw3.ne (b := 240) (j := 6) (by decide)
    have tw3_240_7 := Uw3.ne (b := 240) (j := 7) (by decide)
    have tw3_240_8 := Uw3.ne (b := 240) (j := 8) (by decide)
    have tw3_240_43 := Uw3.ne (b := 240) (j := 43) (by decide)
    have tw3_240_44 := Uw3.ne (b := 240) (j := 44) (by decide)
    have tw3_240_45 := Uw3.ne (b := 240) (j := 45) (by decide)
    have tw3_240_47 := Uw3.ne (b := 240) (j := 47) (by decide)
    refine g_L (v := .ref 240) (n := 1) M_213 q_213_157 rfl ?_
    refine h_get M_213 q_213_158 Tw3 ro_240 (by decide) kd_241 (fr_240_39 Tw3) ?_
    refine g_L (v := .ref 240) (n := 1) M_213 q_213_161 rfl ?_
    have bw3_240_46 := (fi_240_46 Tw3).2
    refine h_get M_213 q_213_162 Tw3 ro_240 (by decide) kd_241 (fi_240_46 Tw3).1 ?_
    have e4 := ar_272 Tw3 ro_271 (j := (m4X w3 240 46).toInt.toNat) (by omega)
    refine h_ald (j := (m4X w3 240 46).toInt.toNat) M_213 q_213_165 Tw3 ro_271 (by decide) kd_272 (by omega) e4.1 ?_
    have eJ : (m4X w3 240 46).toInt.toNat = ((m4X w 240 46).toInt - 1).toNat := by omega
    have tJ : (m4X w3 271 (m4X w3 240 46).toInt.toNat).toInt = (m4X w 271 ((m4X w 240 46).toInt - 1).toNat).toInt := by rw [eJ, show m4X w3 271 ((m4X w 240 46).toInt - 1).toNat = m4X w 271 ((m4X w 240 46).toInt - 1).toNat from (Uw3.X (b := 271) (j := ((m4X w 240 46).toInt - 1).toNat) (by omega))]
    refine g_P (v := .int (7 : Int32)) (n := 2) M_213 q_213_166 rfl ?_
    refine g_icmp M_213 q_213_168 mjCi_ne (fun b5 => ?_) (fun b5 => ?_)
    · refine g_A (st1 := [.int (0 : Int32)]) M_213 q_213_191 rfl ?_
      refine g_ret (v := some (.int (0 : Int32))) M_213 q_213_192 (h_rtZ) ?_
      have z1 := tJ.trans t1
      clear bd top hwi cl cc7 hp46 hfr tJ t1
      exfalso; omega
    · refine g_L (v := .ref 240) (n := 1) M_213 q_213_171 rfl ?_
      refine g_A (st1 := [.ref 240, .ref 240]) M_213 q_213_172 rfl ?_
      have bw3_240_45 := (fi_240_45 Tw3).2
      refine h_get M_213 q_213_173 Tw3 ro_240 (by decide) kd_241 (fi_240_45 Tw3).1 ?_
      refine g_A (st1 := [.int (1 : Int32), .int (m4X w3 240 45), .ref 240]) M_213 q_213_176 rfl ?_
      refine h_isub M_213 q_213_177 (by omega) (by omega) (fun u6 hu6 => ?_)
      refine h_put M_213 q_213_178 Tw3 ro_240 (by decide) kd_241 ln_241 (by decide) (m4_fitI rfl) (m4_hasI ty_241_45 (by omega) (by omega)) (fun w7 Tw7 Uw7 => ?_)
      have tw7_240_45 := Uw7.at
      have tw7_240_3 := Uw7.ne (b := 240) (j := 3) (by decide)
      have tw7_240_4 := Uw7.ne (b := 240) (j := 4) (by decide)
      have tw7_240_6 := Uw7.ne (b := 240) (j := 6) (by decide)
      have tw7_240_7 := Uw7.ne (b := 240) (j := 7) (by decide)
      have tw7_240_8 := Uw7.ne (b := 240) (j := 8) (by decide)
      have tw7_240_43 := Uw7.ne (b := 240) (j := 43) (by decide)
      have tw7_240_44 := Uw7.ne (b := 240) (j := 44) (by decide)
      have tw7_240_46 := Uw7.ne (b := 240) (j := 46) (by decide)
      have tw7_240_47 := Uw7.ne (b := 240) (j := 47) (by decide)
      refine g_L (v := .ref 240) (n := 1) M_213 q_213_181 rfl ?_
      refine g_L (v := .ref 240) (n := 1) M_213 q_213_182 rfl ?_
      refine g_P (v := .int (41 : Int32)) (n := 2) M_213 q_213_183 rfl ?_
      refine h_run (as := [.ref 240, .int (41 : Int32)]) (rest := [.ref 240]) (M1 := mjM_210) (d1 := 1) (ls0 := [some (.ref 240), some (.int (41 : Int32))]) M_213 q_213_185 (h_cv Tw7 ro_240 (by decide) kd_241 (by decide) (show 1 ≤ 3 by decide) rfl (show 1 ≤ 8 by decide)) M_210 (show 2 ≤ 2 by decide) (by decide) rfl (by omega) (H_isSignHere Tw7) (fun u8 hu8 => ?_)
      refine h_ctr (J := m4Q w7 (m4Mu w7)) (sm := mjSm_r_5) (as := [.ref 240, .int u8]) (rest := []) (M1 := mjM_198) M_213 q_213_188 (h_cv Tw7 ro_240 (by decide) kd_241 (by decide) (show 1 ≤ 2 by decide) rfl (show 0 ≤ 8 by decide)) M_198 (show 2 ≤ 2 by decide) (by decide) (by decide) (mjC_r_5 (m4Q_ok _ _) (H_r _ _)) ⟨Tw7, m4Q_refl (by omega)⟩ ⟨⟨240, rfl, rfl⟩, ⟨u8, rfl, (show (0 : Int) ≤ u8.toInt by omega), (show u8.toInt ≤ (1 : Int) by omega)⟩, trivial⟩ (fun q hq => by cases hq) (fun r w9 hp => ?_)
      obtain ⟨rfl, ⟨Tw9, Qw9⟩, kpw9⟩ := m4_void hp rfl
      show mjGo mjTb mjMt sc _ 213 (191, [some (.ref 240), some (.int rk)], [], w9) _
      refine g_A (st1 := [.int (0 : Int32)]) M_213 q_213_191 rfl ?_
      refine g_ret (v := some (.int (0 : Int32))) M_213 q_213_192 (h_rtZ) ?_
      have kb : m4Kb b w w9 := (((m4Kb_up Uw3 (by unfold m4Kp m4Kq; omega)).trans (m4Kb_up Uw7 (by unfold m4Kp m4Kq; omega))).trans (m4Kb_Q Qw9 kpw9.1))
      have ie : m4IE b fr R false w7 := m4IE_brk h (by omega) Tw7 (by omega) (by omega) (((Uw7.X (b := 240) (j := 44) (by omega))).trans (Uw3.X (b := 240) (j := 44) (by omega))) (by omega) (by omega) (by omega) (fun k => ((Uw7.X (b := 269) (j := k) (by omega))).trans (Uw3.X (b := 269) (j := k) (by omega))) (fun j => ⟨((Uw7.X (b := 271) (j := j) (by omega))).trans (Uw3.X (b := 271) (j := j) (by omega)), ((Uw7.X (b := 272) (j := j) (by omega))).trans (Uw3.X (b := 272) (j := j) (by omega))⟩)
      have ie2 := m4IE_Q ie Tw9 Qw9
      have mi := m4Mu_eq (w := w) (w1 := w7) (by omega) (by omega)
      have mm := Qw9.2.2
      have q46 := congrArg Int32.toInt (Qw9.X (a := 240) (k := 46) ro_240 rfl (by omega))
      by_cases hz : (m4X w9 240 4).toInt = 0
      · exact ⟨Tw9, kb, Qw9.2.1, _, rfl, Or.inr ⟨hz, Or.inr ⟨by omega, by omega⟩, Or.inr ⟨rfl, Or.inr ⟨_, ie2⟩⟩⟩⟩
      · exact ⟨Tw9, kb, Qw9.2.1, _, rfl, Or.inl hz⟩
  · refine g_L (v := .ref 240) (n := 1) M_213 q_213_108 rfl ?_
    refine g_L (v := .int rk) (n := 1) M_213 q_213_109 rfl ?_
    refine g_L (v := .int rk) (n := 1) M_213 q_213_110 rfl ?_
    refine g_A (st1 := [.int (2 : Int32), .int rk, .int rk, .ref 240]) M_213 q_213_111 rfl ?_
    refine g_icmp M_213 q_213_112 mjCi_ne (fun b10 => ?_) (fun b10 => ?_)
    · refine g_L (v := .int rk) (n := 1) M_213 q_213_120 rfl ?_
      refine g_A (st1 := [.int (1 : Int32), .int rk, .int rk, .ref 240]) M_213 q_213_121 rfl ?_
      refine g_icmp M_213 q_213_122 mjCi_ne (fun b11 => ?_) (fun b11 => ?_)
      · refine g_L (v := .ref 240) (n := 1) M_213 q_213_130 rfl ?_
        refine g_L (v := .ref 240) (n := 1) M_213 q_213_131 rfl ?_
        have bw_240_6 := (fi_240_6 Tw).2
        refine h_get M_213 q_213_132 Tw ro_240 (by decide) kd_241 (fi_240_6 Tw).1 ?_
        refine h_run (as := [.ref 240, .int (m4X w 240 6)]) (rest := [.int rk, .ref 240]) (M1 := mjM_182) (d1 := 0) (ls0 := [some (.ref 240), some (.int (m4X w 240 6))]) M_213 q_213_135 (h_cv Tw ro_240 (by decide) kd_241 (by decide) (show 1 ≤ 4 by decide) rfl (show 2 ≤ 8 by decide)) M_182 (show 2 ≤ 2 by decide) (by decide) rfl (by omega) (H_sign Tw (by omega)) (fun u12 hu12 => ?_)
        obtain ⟨hu12a, hu12b, hu12c, hu12d⟩ := hu12
        refine g_call (d := 4) (y1 := 208) (as := [.ref 240, .int rk, .int u12]) (rest := []) (M1 := mjM_208) (d1 := 0) (ls0 := [some (.ref 240), some (.int rk), some (.int u12)]) M_213 q_213_138 (h_cv Tw ro_240 (by decide) kd_241 (by decide) (show 2 ≤ 3 by decide) rfl (show 0 ≤ 8 by decide)) M_208 (show 3 ≤ 3 by decide) (by decide) rfl (by decide) (H_pushE Tw (by omega)) ?_
        rintro r w13 ⟨rfl, Tw13, sw13, fw13, nw13, pw13⟩
        have tw13_240_3 : (m4X w13 240 3).toInt = (m4X w 240 3).toInt := by unfold m4X; rw [fw13 240 3 (by omega) (by omega)]
        have tw13_240_4 : (m4X w13 240 4).toInt = (m4X w 240 4).toInt := by unfold m4X; rw [fw13 240 4 (by omega) (by omega)]
        have tw13_240_6 : (m4X w13 240 6).toInt = (m4X w 240 6).toInt := by unfold m4X; rw [fw13 240 6 (by omega) (by omega)]
        have tw13_240_7 : (m4X w13 240 7).toInt = (m4X w 240 7).toInt := by unfold m4X; rw [fw13 240 7 (by omega) (by omega)]
        have tw13_240_8 : (m4X w13 240 8).toInt = (m4X w 240 8).toInt := by unfold m4X; rw [fw13 240 8 (by omega) (by omega)]
        have tw13_240_43 : (m4X w13 240 43).toInt = (m4X w 240 43).toInt := by unfold m4X; rw [fw13 240 43 (by omega) (by omega)]
        have tw13_240_44 : (m4X w13 240 44).toInt = (m4X w 240 44).toInt := by unfold m4X; rw [fw13 240 44 (by omega) (by omega)]
        have tw13_240_45 : (m4X w13 240 45).toInt = (m4X w 240 45).toInt := by unfold m4X; rw [fw13 240 45 (by omega) (by omega)]
        have tw13_240_47 : (m4X w13 240 47).toInt = (m4X w 240 47).toInt := by unfold m4X; rw [fw13 240 47 (by omega) (by omega)]
        show mjGo mjTb mjMt sc _ 213 (141, [some (.ref 240), some (.int rk)], [], w13) _
        refine g_L (v := .ref 240) (n := 1) M_213 q_213_141 rfl ?_
        refine g_call (d := 4) (y1 := 181) (as := [.ref 240]) (rest := []) (M1 := mjM_181) (d1 := 2) (ls0 := [some (.ref 240), none, none]) M_213 q_213_142 (h_cv Tw13 ro_240 (by decide) kd_241 (by decide) (show 0 ≤ 1 by decide) rfl (show 0 ≤ 8 by decide)) M_181 (show 1 ≤ 3 by decide) (by decide) rfl (by decide) (H_goOn (d := 1) (by decide) Tw13 (by omega)) ?_
        rintro r w14 ⟨rfl, Tw14, kw14, gw14a, gw14b⟩
        have muw14 := m4Mu_go (fi_240_8 Tw14).2.1 gw14b
        have tw14_240_3 := congrArg Int32.toInt (kw14.X (a := 240) (k := 3) ro_240 rfl)
        have tw14_240_4 := congrArg Int32.toInt (kw14.X (a := 240) (k := 4) ro_240 rfl)
        have tw14_240_43 := congrArg Int32.toInt (kw14.X (a := 240) (k := 43) ro_240 rfl)
        have tw14_240_44 := congrArg Int32.toInt (kw14.X (a := 240) (k := 44) ro_240 rfl)
        have tw14_240_45 := congrArg Int32.toInt (kw14.X (a := 240) (k := 45) ro_240 rfl)
        have tw14_240_46 := congrArg Int32.toInt (kw14.X (a := 240) (k := 46) ro_240 rfl)
        have tw14_240_47 := congrArg Int32.toInt (kw14.X (a := 240) (k := 47) ro_240 rfl)
        show mjGo mjTb mjMt sc _ 213 (145, [some (.ref 240), some (.int rk)], [], w14) _
        refine g_A (st1 := [.int (1 : Int32)]) M_213 q_213_145 rfl ?_
        refine g_ret (v := some (.int (1 : Int32))) M_213 q_213_146 (h_rtZ) ?_
        have kb : m4Kb b w w14 := ((m4Kb_fld sw13 (fun a k hk => fw13 a k (by unfold m4Kp m4Kq at hk; omega) (by unfold m4Kp m4Kq at hk; omega))).trans (m4Kb_kp kw14 (by decide)))
        have ie : m4IE b fr ((rk.toInt, (m4X w13 272 (m4X w 240 46).toInt.toNat).toInt) :: (e :: R)) true w13 := m4IE_bin (x := rk.toInt) (s := (m4X w13 272 (m4X w 240 46).toInt.toNat).toInt) h Tw13 (by omega) (by omega) ⟨by rw [pw13.2]; omega, by rw [pw13.2]; omega⟩ (by omega) ((m4X_fld (fw13 240 44 (by omega) (by omega)))) (by omega) (by omega) (by omega) (fun k => (m4X_fld (fw13 269 k (by omega) (by omega)))) (fun j hj => ⟨(m4X_fld (fw13 271 j (by omega) (by omega))), (m4X_fld (fw13 272 j (by omega) (by omega)))⟩) (by rw [pw13.1]) rfl
        have ie2 := m4IE_kp ie Tw14 gw14a kw14
        have mi := m4Mu_eq (w := w) (w1 := w13) (by omega) (by omega)
        exact ⟨Tw14, kb, by omega, _, rfl, Or.inr ⟨by omega, Or.inl (by have := muw14.2 (by omega); omega), Or.inl ⟨rfl, _, ie2⟩⟩⟩
      · refine g_P (v := .int (124 : Int32)) (n := 2) M_213 q_213_125 rfl ?_
        refine g_goto M_213 q_213_127 ?_
        refine g_call (d := 4) (y1 := 208) (as := [.ref 240, .int rk, .int (124 : Int32)]) (rest := []) (M1 := mjM_208) (d1 := 0) (ls0 := [some (.ref 240), some (.int rk), some (.int (124 : Int32))]) M_213 q_213_138 (h_cv Tw ro_240 (by decide) kd_241 (by decide) (show 2 ≤ 3 by decide) rfl (show 0 ≤ 8 by decide)) M_208 (show 3 ≤ 3 by decide) (by decide) rfl (by decide) (H_pushE Tw (by omega)) ?_
        rintro r w15 ⟨rfl, Tw15, sw15, fw15, nw15, pw15⟩
        have tw15_240_3 : (m4X w15 240 3).toInt = (m4X w 240 3).toInt := by unfold m4X; rw [fw15 240 3 (by omega) (by omega)]
        have tw15_240_4 : (m4X w15 240 4).toInt = (m4X w 240 4).toInt := by unfold m4X; rw [fw15 240 4 (by omega) (by omega)]
        have tw15_240_6 : (m4X w15 240 6).toInt = (m4X w 240 6).toInt := by unfold m4X; rw [fw15 240 6 (by omega) (by omega)]
        have tw15_240_7 : (m4X w15 240 7).toInt = (m4X w 240 7).toInt := by unfold m4X; rw [fw15 240 7 (by omega) (by omega)]
        have tw15_240_8 : (m4X w15 240 8).toInt = (m4X w 240 8).toInt := by unfold m4X; rw [fw15 240 8 (by omega) (by omega)]
        have tw15_240_43 : (m4X w15 240 43).toInt = (m4X w 240 43).toInt := by unfold m4X; rw [fw15 240 43 (by omega) (by omega)]
        have tw15_240_44 : (m4X w15 240 44).toInt = (m4X w 240 44).toInt := by unfold m4X; rw [fw15 240 44 (by omega) (by omega)]
        have tw15_240_45 : (m4X w15 240 45).toInt = (m4X w 240 45).toInt := by unfold m4X; rw [fw15 240 45 (by omega) (by omega)]
        have tw15_240_47 : (m4X w15 240 47).toInt = (m4X w 240 47).toInt := by unfold m4X; rw [fw15 240 47 (by omega) (by omega)]
        show mjGo mjTb mjMt sc _ 213 (141, [some (.ref 240), some (.int rk)], [], w15) _
        refine g_L (v := .ref 240) (n := 1) M_213 q_213_141 rfl ?_
        refine g_call (d := 4) (y1 := 181) (as := [.ref 240]) (rest := []) (M1 := mjM_181) (d1 := 2) (ls0 := [some (.ref 240), none, none]) M_213 q_213_142 (h_cv Tw15 ro_240 (by decide) kd_241 (by decide) (show 0 ≤ 1 by decide) rfl (show 0 ≤ 8 by decide)) M_181 (show 1 ≤ 3 by decide) (by decide) rfl (by decide) (H_goOn (d := 1) (by decide) Tw15 (by omega)) ?_
        rintro r w16 ⟨rfl, Tw16, kw16, gw16a, gw16b⟩
        have muw16 := m4Mu_go (fi_240_8 Tw16).2.1 gw16b
        have tw16_240_3 := congrArg Int32.toInt (kw16.X (a := 240) (k := 3) ro_240 rfl)
        have tw16_240_4 := congrArg Int32.toInt (kw16.X (a := 240) (k := 4) ro_240 rfl)
        have tw16_240_43 := congrArg Int32.toInt (kw16.X (a := 240) (k := 43) ro_240 rfl)
        have tw16_240_44 := congrArg Int32.toInt (kw16.X (a := 240) (k := 44) ro_240 rfl)
        have tw16_240_45 := congrArg Int32.toInt (kw16.X (a := 240) (k := 45) ro_240 rfl)
        have tw16_240_46 := congrArg Int32.toInt (kw16.X (a := 240) (k := 46) ro_240 rfl)
        have tw16_240_47 := congrArg Int32.toInt (kw16.X (a := 240) (k := 47) ro_240 rfl)
        show mjGo mjTb mjMt sc _ 213 (145, [some (.ref 240), some (.int rk)], [], w16) _
        refine g_A (st1 := [.int (1 : Int32)]) M_213 q_213_145 rfl ?_
        refine g_ret (v := some (.int (1 : Int32))) M_213 q_213_146 (h_rtZ) ?_
        have kb : m4Kb b w w16 := ((m4Kb_fld sw15 (fun a k hk => fw15 a k (by unfold m4Kp m4Kq at hk; omega) (by unfold m4Kp m4Kq at hk; omega))).trans (m4Kb_kp kw16 (by decide)))
        have ie : m4IE b fr ((rk.toInt, (m4X w15 272 (m4X w 240 46).toInt.toNat).toInt) :: (e :: R)) true w15 := m4IE_bin (x := rk.toInt) (s := (m4X w15 272 (m4X w 240 46).toInt.toNat).toInt) h Tw15 (by omega) (by omega) ⟨by rw [pw15.2]; omega, by rw [pw15.2]; omega⟩ (by omega) ((m4X_fld (fw15 240 44 (by omega) (by omega)))) (by omega) (by omega) (by omega) (fun k => (m4X_fld (fw15 269 k (by omega) (by omega)))) (fun j hj => ⟨(m4X_fld (fw15 271 j (by omega) (by omega))), (m4X_fld (fw15 272 j (by omega) (by omega)))⟩) (by rw [pw15.1]) rfl
        have ie2 := m4IE_kp ie Tw16 gw16a kw16
        have mi := m4Mu_eq (w := w) (w1 := w15) (by omega) (by omega)
        exact ⟨Tw16, kb, by omega, _, rfl, Or.inr ⟨by omega, Or.inl (by have := muw16.2 (by omega); omega), Or.inl ⟨rfl, _, ie2⟩⟩⟩
    · refine g_P (v := .int (38 : Int32)) (n := 2) M_213 q_213_115 rfl ?_
      refine g_goto M_213 q_213_117 ?_
      refine g_call (d := 4) (y1 := 208) (as := [.ref 240, .int rk, .int (38 : Int32)]) (rest := []) (M1 := mjM_208) (d1 := 0) (ls0 := [some (.ref 240), some (.int rk), some (.int (38 : Int32))]) M_213 q_213_138 (h_cv Tw ro_240 (by decide) kd_241 (by decide) (show 2 ≤ 3 by decide) rfl (show 0 ≤ 8 by decide)) M_208 (show 3 ≤ 3 by decide) (by decide) rfl (by decide) (H_pushE Tw (by omega)) ?_
      rintro r w17 ⟨rfl, Tw17, sw17, fw17, nw17, pw17⟩
      have tw17_240_3 : (m4X w17 240 3).toInt = (m4X w 240 3).toInt := by unfold m4X; rw [fw17 240 3 (by omega) (by omega)]
      have tw17_240_4 : (m4X w17 240 4).toInt = (m4X w 240 4).toInt := by unfold m4X; rw [fw17 240 4 (by omega) (by omega)]
      have tw17_240_6 : (m4X w17 240 6).toInt = (m4X w 240 6).toInt := by unfold m4X; rw [fw17 240 6 (by omega) (by omega)]
      have tw17_240_7 : (m4X w17 240 7).toInt = (m4X w 240 7).toInt := by unfold m4X; rw [fw17 240 7 (by omega) (by omega)]
      have tw17_240_8 : (m4X w17 240 8).toInt = (m4X w 240 8).toInt := by unfold m4X; rw [fw17 240 8 (by omega) (by omega)]
      have tw17_240_43 : (m4X w17 240 43).toInt = (m4X w 240 43).toInt := by unfold m4X; rw [fw17 240 43 (by omega) (by omega)]
      have tw17_240_44 : (m4X w17 240 44).toInt = (m4X w 240 44).toInt := by unfold m4X; rw [fw17 240 44 (by omega) (by omega)]
      have tw17_240_45 : (m4X w17 240 45).toInt = (m4X w 240 45).toInt := by unfold m4X; rw [fw17 240 45 (by omega) (by omega)]
      have tw17_240_47 : (m4X w17 240 47).toInt = (m4X w 240 47).toInt := by unfold m4X; rw [fw17 240 47 (by omega) (by omega)]
      show mjGo mjTb mjMt sc _ 213 (141, [some (.ref 240), some (.int rk)], [], w17) _
      refine g_L (v := .ref 240) (n := 1) M_213 q_213_141 rfl ?_
      refine g_call (d := 4) (y1 := 181) (as := [.ref 240]) (rest := []) (M1 := mjM_181) (d1 := 2) (ls0 := [some (.ref 240), none, none]) M_213 q_213_142 (h_cv Tw17 ro_240 (by decide) kd_241 (by decide) (show 0 ≤ 1 by decide) rfl (show 0 ≤ 8 by decide)) M_181 (show 1 ≤ 3 by decide) (by decide) rfl (by decide) (H_goOn (d := 1) (by decide) Tw17 (by omega)) ?_
      rintro r w18 ⟨rfl, Tw18, kw18, gw18a, gw18b⟩
      have muw18 := m4Mu_go (fi_240_8 Tw18).2.1 gw18b
      have tw18_240_3 := congrArg Int32.toInt (kw18.X (a := 240) (k := 3) ro_240 rfl)
      have tw18_240_4 := congrArg Int32.toInt (kw18.X (a := 240) (k := 4) ro_240 rfl)
      have tw18_240_43 := congrArg Int32.toInt (kw18.X (a := 240) (k := 43) ro_240 rfl)
      have tw18_240_44 := congrArg Int32.toInt (kw18.X (a := 240) (k := 44) ro_240 rfl)
      have tw18_240_45 := congrArg Int32.toInt (kw18.X (a := 240) (k := 45) ro_240 rfl)
      have tw18_240_46 := congrArg Int32.toInt (kw18.X (a := 240) (k := 46) ro_240 rfl)
      have tw18_240_47 := congrArg Int32.toInt (kw18.X (a := 240) (k := 47) ro_240 rfl)
      show mjGo mjTb mjMt sc _ 213 (145, [some (.ref 240), some (.int rk)], [], w18) _
      refine g_A (st1 := [.int (1 : Int32)]) M_213 q_213_145 rfl ?_
      refine g_ret (v := some (.int (1 : Int32))) M_213 q_213_146 (h_rtZ) ?_
      have kb : m4Kb b w w18 := ((m4Kb_fld sw17 (fun a k hk => fw17 a k (by unfold m4Kp m4Kq at hk; omega) (by unfold m4Kp m4Kq at hk; omega))).trans (m4Kb_kp kw18 (by decide)))
      have ie : m4IE b fr ((rk.toInt, (m4X w17 272 (m4X w 240 46).toInt.toNat).toInt) :: (e :: R)) true w17 := m4IE_bin (x := rk.toInt) (s := (m4X w17 272 (m4X w 240 46).toInt.toNat).toInt) h Tw17 (by omega) (by omega) ⟨by rw [pw17.2]; omega, by rw [pw17.2]; omega⟩ (by omega) ((m4X_fld (fw17 240 44 (by omega) (by omega)))) (by omega) (by omega) (by omega) (fun k => (m4X_fld (fw17 269 k (by omega) (by omega)))) (fun j hj => ⟨(m4X_fld (fw17 271 j (by omega) (by omega))), (m4X_fld (fw17 272 j (by omega) (by omega)))⟩) (by rw [pw17.1]) rfl
      have ie2 := m4IE_kp ie Tw18 gw18a kw18
      have mi := m4Mu_eq (w := w) (w1 := w17) (by omega) (by omega)
      exact ⟨Tw18, kb, by omega, _, rfl, Or.inr ⟨by omega, Or.inl (by have := muw18.2 (by omega); omega), Or.inl ⟨rfl, _, ie2⟩⟩⟩
theorem H_behind {sc : List Int32} {b : Nat} {fr : Int} {T : List (Int × Int)} {w : MjW} (h : m4IE b fr T false w) (hg : (m4X w 240 4).toInt = 0) : mjGo mjTb mjMt sc (4 + 1) 213 (0, [some (.ref 240), none], [], w) (fun r w1 => mjTyd m4S w1 ∧ m4Kb b w w1 ∧ (m4X w1 240 7).toInt ≤ (m4X w1 240 3).toInt ∧ ∃ u : Int32, r = some (.int u) ∧ (¬ (m4X w1 240 4).toInt = 0 ∨ ((m4X w1 240 4).toInt = 0 ∧ (m4Mu w1 < m4Mu w ∨ (m4Mu w1 ≤ m4Mu w ∧ (m4X w1 240 46).toInt < (m4X w 240 46).toInt)) ∧ ((u.toInt = 1 ∧ ∃ T1, m4IE b fr T1 true w1) ∨ (u.toInt = 0 ∧ (((m4X w1 240 46).toInt = 0 ∧ m4Hs w1 fr 1 ∧ fr ≤ (m4X w1 240 44).toInt ∧ (m4X w1 240 44).toInt ≤ fr + 280) ∨ ∃ T1, m4IE b fr T1 false w1)))))) := by
  have Tw := h.1
  have he := h.2.1
  have hrb := h.2.2.1
  have bd := m4IE_bd h
  have hp46 := h.2.2.2.2.1
  have hfr := h.2.2.2.2.2.2.2.1
  have k_1 := c_1
  have k_4 := c_4
  refine g_L (v := .ref 240) (n := 1) M_213 q_213_0 rfl ?_
  refine h_run (as := [.ref 240]) (rest := []) (M1 := mjM_214) (d1 := 2) (ls0 := [some (.ref 240)]) M_213 q_213_1 (h_cv Tw ro_240 (by decide) kd_241 (by decide) (show 0 ≤ 1 by decide) rfl (show 0 ≤ 8 by decide)) M_214 (show 1 ≤ 1 by decide) (by decide) rfl (by omega) (H_rankHere Tw) (fun u1 hu1 => ?_)
  refine g_S (ls1 := [some (.ref 240), some (.int u1)]) (st1 := []) (n := 1) M_213 q_213_4 rfl ?_
  refine g_L (v := .int u1) (n := 1) M_213 q_213_5 rfl ?_
  refine g_A (st1 := [.int (4 : Int32), .int u1]) M_213 q_213_6 rfl ?_
  refine g_icmp M_213 q_213_7 mjCi_ne (fun b2 => ?_) (fun b2 => ?_)
  · refine H_bu1 T.length T w rfl h (fun T1 w1 h1 k1 x1 y1 z1 d1 => ?_)
    have sg : m4Sg w1 (m4X w1 240 6).toInt = m4Sg w (m4X w 240 6).toInt := by rw [x1 6 (by omega)]; exact m4Sg_eq (x1 3 (by omega)) y1 _
    have hg1 : (m4X w1 240 4).toInt = 0 := by rw [x1 4 (by omega)]; exact hg
    have mi := m4Mu_eq (w := w) (w1 := w1) (by rw [x1 7 (by omega)]) (by rw [x1 8 (by omega)])
    have hr1 : u1.toInt = 0 ∨ ((u1.toInt = 1 ∨ u1.toInt = 2) ∧ (m4X w1 240 8).toInt = 3) ∨ ((u1.toInt = 4 ∨ u1.toInt = 5 ∨ u1.toInt = 6) ∧ (m4X w1 240 8).toInt = 5 ∧ m4Sg w1 (m4X w1 240 6).toInt ≠ 126 ∧ ¬ (97 ≤ m4Sg w1 (m4X w1 240 6).toInt ∧ m4Sg w1 (m4X w1 240 6).toInt ≤ 122)) := by rw [sg, x1 8 (by omega)]; exact hu1
    have fin : ∀ (r9 : Option Value) (w9 : MjW), (fun r w9 => mjTyd m4S w9 ∧ m4Kb b w1 w9 ∧ (m4X w9 240 7).toInt ≤ (m4X w9 240 3).toInt ∧ ∃ u : Int32, r = some (.int u) ∧ (¬ (m4X w9 240 4).toInt = 0 ∨ ((m4X w9 240 4).toInt = 0 ∧ (m4Mu w9 < m4Mu w1 ∨ (m4Mu w9 ≤ m4Mu w1 ∧ (m4X w9 240 46).toInt < (m4X w1 240 46).toInt)) ∧ ((u.toInt = 1 ∧ ∃ T1, m4IE b fr T1 true w9) ∨ (u.toInt = 0 ∧ (((m4X w9 240 46).toInt = 0 ∧ m4Hs w9 fr 1 ∧ fr ≤ (m4X w9 240 44).toInt ∧ (m4X w9 240 44).toInt ≤ fr + 280) ∨ ∃ T1, m4IE b fr T1 false w9)))))) r9 w9 → (fun r w1 => mjTyd m4S w1 ∧ m4Kb b w w1 ∧ (m4X w1 240 7).toInt ≤ (m4X w1 240 3).toInt ∧ ∃ u : Int32, r = some (.int u) ∧ (¬ (m4X w1 240 4).toInt = 0 ∨ ((m4X w1 240 4).toInt = 0 ∧ (m4Mu w1 < m4Mu w ∨ (m4Mu w1 ≤ m4Mu w ∧ (m4X w1 240 46).toInt < (m4X w 240 46).toInt)) ∧ ((u.toInt = 1 ∧ ∃ T1, m4IE b fr T1 true w1) ∨ (u.toInt = 0 ∧ (((m4X w1 240 46).toInt = 0 ∧ m4Hs w1 fr 1 ∧ fr ≤ (m4X w1 240 44).toInt ∧ (m4X w1 240 44).toInt ≤ fr + 280) ∨ ∃ T1, m4IE b fr T1 false w1)))))) r9 w9 := fun r9 w9 q => ⟨q.1, k1.trans q.2.1, q.2.2.1, q.2.2.2.elim (fun u hu => ⟨u, hu.1, hu.2.imp id (fun z => ⟨z.1, by have z2 := z.2.1; omega, z.2.2⟩)⟩)⟩
    refine mjGo.imp ?_ fin
    rcases d1 with d1 | ⟨e, R, d1, d2⟩
    · rw [d1] at h1
      exact H_bu2n h1 hg1 hr1
    · rw [d1] at h1
      exact H_bu2c h1 hg1 hr1 d2
  · refine g_L (v := .ref 240) (n := 1) M_213 q_213_10 rfl ?_
    refine h_run (as := [.ref 240]) (rest := []) (M1 := mjM_215) (d1 := 0) (ls0 := [some (.ref 240), none]) M_213 q_213_11 (h_cv Tw ro_240 (by decide) kd_241 (by decide) (show 0 ≤ 1 by decide) rfl (show 0 ≤ 8 by decide)) M_215 (show 1 ≤ 2 by decide) (by decide) rfl (by omega) (H_isCompared Tw (m4Rep_bot h.2.2.2.1) (by omega)) (fun u3 hu3 => ?_)
    refine g_if M_213 q_213_14 mjCz_eq (fun b4 => ?_) (fun b4 => ?_)
    · refine H_bu1 T.length T w rfl h (fun T1 w1 h1 k1 x1 y1 z1 d1 => ?_)
      have sg : m4Sg w1 (m4X w1 240 6).toInt = m4Sg w (m4X w 240 6).toInt := by rw [x1 6 (by omega)]; exact m4Sg_eq (x1 3 (by omega)) y1 _
      have hg1 : (m4X w1 240 4).toInt = 0 := by rw [x1 4 (by omega)]; exact hg
      have mi := m4Mu_eq (w := w) (w1 := w1) (by rw [x1 7 (by omega)]) (by rw [x1 8 (by omega)])
      have hr1 : u1.toInt = 0 ∨ ((u1.toInt = 1 ∨ u1.toInt = 2) ∧ (m4X w1 240 8).toInt = 3) ∨ ((u1.toInt = 4 ∨ u1.toInt = 5 ∨ u1.toInt = 6) ∧ (m4X w1 240 8).toInt = 5 ∧ m4Sg w1 (m4X w1 240 6).toInt ≠ 126 ∧ ¬ (97 ≤ m4Sg w1 (m4X w1 240 6).toInt ∧ m4Sg w1 (m4X w1 240 6).toInt ≤ 122)) := by rw [sg, x1 8 (by omega)]; exact hu1
      have fin : ∀ (r9 : Option Value) (w9 : MjW), (fun r w9 => mjTyd m4S w9 ∧ m4Kb b w1 w9 ∧ (m4X w9 240 7).toInt ≤ (m4X w9 240 3).toInt ∧ ∃ u : Int32, r = some (.int u) ∧ (¬ (m4X w9 240 4).toInt = 0 ∨ ((m4X w9 240 4).toInt = 0 ∧ (m4Mu w9 < m4Mu w1 ∨ (m4Mu w9 ≤ m4Mu w1 ∧ (m4X w9 240 46).toInt < (m4X w1 240 46).toInt)) ∧ ((u.toInt = 1 ∧ ∃ T1, m4IE b fr T1 true w9) ∨ (u.toInt = 0 ∧ (((m4X w9 240 46).toInt = 0 ∧ m4Hs w9 fr 1 ∧ fr ≤ (m4X w9 240 44).toInt ∧ (m4X w9 240 44).toInt ≤ fr + 280) ∨ ∃ T1, m4IE b fr T1 false w9)))))) r9 w9 → (fun r w1 => mjTyd m4S w1 ∧ m4Kb b w w1 ∧ (m4X w1 240 7).toInt ≤ (m4X w1 240 3).toInt ∧ ∃ u : Int32, r = some (.int u) ∧ (¬ (m4X w1 240 4).toInt = 0 ∨ ((m4X w1 240 4).toInt = 0 ∧ (m4Mu w1 < m4Mu w ∨ (m4Mu w1 ≤ m4Mu w ∧ (m4X w1 240 46).toInt < (m4X w 240 46).toInt)) ∧ ((u.toInt = 1 ∧ ∃ T1, m4IE b fr T1 true w1) ∨ (u.toInt = 0 ∧ (((m4X w1 240 46).toInt = 0 ∧ m4Hs w1 fr 1 ∧ fr ≤ (m4X w1 240 44).toInt ∧ (m4X w1 240 44).toInt ≤ fr + 280) ∨ ∃ T1, m4IE b fr T1 false w1)))))) r9 w9 := fun r9 w9 q => ⟨q.1, k1.trans q.2.1, q.2.2.1, q.2.2.2.elim (fun u hu => ⟨u, hu.1, hu.2.imp id (fun z => ⟨z.1, by have z2 := z.2.1; omega, z.2.2⟩)⟩)⟩
      refine mjGo.imp ?_ fin
      rcases d1 with d1 | ⟨e, R, d1, d2⟩
      · rw [d1] at h1
        exact H_bu2n h1 hg1 hr1
      · rw [d1] at h1
        exact H_bu2c h1 hg1 hr1 d2
    · refine g_L (v := .ref 240) (n := 1) M_213 q_213_17 rfl ?_
      refine h_ctr (J := m4Q w (m4Mu w)) (sm := mjSm_r_8) (as := [.ref 240]) (rest := []) (M1 := mjM_192) M_213 q_213_18 (h_cv Tw ro_240 (by decide) kd_241 (by decide) (show 0 ≤ 1 by decide) rfl (show 0 ≤ 8 by decide)) M_192 (show 1 ≤ 1 by decide) (by decide) (by decide) (mjC_r_8 (m4Q_ok _ _) (H_r _ _)) ⟨Tw, m4Q_refl (by omega)⟩ ⟨⟨240, rfl, rfl⟩, trivial⟩ (fun q hq => by cases hq) (fun r w5 hp => ?_)
      obtain ⟨rfl, Tw5, Qw5, kpw5, fkw5⟩ := H_misp hp
      show mjGo mjTb mjMt sc _ 213 (21, [some (.ref 240), some (.int u1)], [], w5) _
      refine g_A (st1 := [.int (1 : Int32)]) M_213 q_213_21 rfl ?_
      refine g_ret (v := some (.int (1 : Int32))) M_213 q_213_22 (h_rtZ) ?_
      exact ⟨Tw5, (m4Kb_Q Qw5 kpw5.1), Qw5.2.1, _, rfl, Or.inl (by omega)⟩
