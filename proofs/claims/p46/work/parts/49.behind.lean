/-! ===== the parser, by hand ===== -/
theorem H_bu1 {sc : List Int32} {b : Nat} {fr : Int} {P : Option Value → MjW → Prop} {rk : Int32} (n : Nat) : ∀ (T : List (Int × Int)) (w : MjW), T.length = n → m4IE b fr T false w → (∀ (T1 : List (Int × Int)) (w1 : MjW), m4IE b fr T1 false w1 → m4Kb b w w1 → (∀ k, k = 3 ∨ k = 4 ∨ k = 6 ∨ k = 7 ∨ k = 8 → m4X w1 240 k = m4X w 240 k) → (∀ j, m4X w1 242 j = m4X w 242 j) → (m4X w1 240 46).toInt ≤ (m4X w 240 46).toInt → (T1 = [] ∨ ∃ e R, T1 = e :: R ∧ (6 < e.1 ∨ e.1 < rk.toInt)) → mjGo mjTb mjMt sc (3 + 1) 213 (104, [some (.ref 240), some (.int rk)], [], w1) P) → mjGo mjTb mjMt sc (3 + 1) 213 (23, [some (.ref 240), some (.int rk)], [], w) P := by
  induction n with
  | zero =>
    intro T w hT h K
    have Tw := h.1
    have he := h.2.1
    have hrb := h.2.2.1
    have bd := m4IE_bd h
    have hp46 := h.2.2.2.2.1
    have top := m4IE_top h
    have hnil : T = [] := List.eq_nil_of_length_eq_zero hT
    have t8 : (m4X w 271 ((m4X w 240 46).toInt - 1).toNat).toInt = 8 := by
      rcases top with q | ⟨e, R, q, -⟩
      · exact q.2
      · rw [hnil] at q; cases q
    have k_1 := c_1
    have k_6 := c_6
    refine g_L (v := .ref 240) (n := 1) M_213 q_213_23 rfl ?_
    refine h_get M_213 q_213_24 Tw ro_240 (by decide) kd_241 (fr_240_39 Tw) ?_
    refine g_L (v := .ref 240) (n := 1) M_213 q_213_27 rfl ?_
    have bw_240_46 := (fi_240_46 Tw).2
    refine h_get M_213 q_213_28 Tw ro_240 (by decide) kd_241 (fi_240_46 Tw).1 ?_
    refine g_A (st1 := [.int (1 : Int32), .int (m4X w 240 46), .ref 271]) M_213 q_213_31 rfl ?_
    refine h_isub M_213 q_213_32 (by omega) (by omega) (fun u1 hu1 => ?_)
    have e2 := ar_272 Tw ro_271 (j := u1.toInt.toNat) (by omega)
    refine h_ald (j := u1.toInt.toNat) M_213 q_213_33 Tw ro_271 (by decide) kd_272 (by omega) e2.1 ?_
    refine g_P (v := .int (6 : Int32)) (n := 2) M_213 q_213_34 rfl ?_
    refine g_icmp M_213 q_213_36 mjCi_gt (fun b3 => ?_) (fun b3 => ?_)
    · exact K T w h m4Kb.refl (fun _ _ => rfl) (fun _ => rfl) (by omega) (Or.inl hnil)
    · exfalso; omega
  | succ n ih =>
    intro T w hT h K
    have Tw := h.1
    have he := h.2.1
    have hrb := h.2.2.1
    have bd := m4IE_bd h
    have hp46 := h.2.2.2.2.1
    have top := m4IE_top h
    obtain ⟨e, R, hTe⟩ : ∃ e R, T = e :: R := by
      cases T with
      | nil => cases hT
      | cons e R => exact ⟨e, R, rfl⟩
    subst hTe
    have tt : m4En e ∧ (m4X w 271 ((m4X w 240 46).toInt - 1).toNat).toInt = e.1 ∧ (m4X w 272 ((m4X w 240 46).toInt - 1).toNat).toInt = e.2 := by
      rcases top with q | ⟨e1, R1, q, q1, q2, q3⟩
      · cases q.1
      · cases q; exact ⟨q1, q2, q3⟩
    obtain ⟨en, t1, t2⟩ := tt
    rw [List.length_cons] at hT
    have k_0 := c_0
    have k_1 := c_1
    have k_3 := c_3
    have k_6 := c_6
    refine g_L (v := .ref 240) (n := 1) M_213 q_213_23 rfl ?_
    refine h_get M_213 q_213_24 Tw ro_240 (by decide) kd_241 (fr_240_39 Tw) ?_
    refine g_L (v := .ref 240) (n := 1) M_213 q_213_27 rfl ?_
    have bw_240_46 := (fi_240_46 Tw).2
    refine h_get M_213 q_213_28 Tw ro_240 (by decide) kd_241 (fi_240_46 Tw).1 ?_
    refine g_A (st1 := [.int (1 : Int32), .int (m4X w 240 46), .ref 271]) M_213 q_213_31 rfl ?_
    refine h_isub M_213 q_213_32 (by omega) (by omega) (fun u1 hu1 => ?_)
    have e2 := ar_272 Tw ro_271 (j := u1.toInt.toNat) (by omega)
    refine h_ald (j := u1.toInt.toNat) M_213 q_213_33 Tw ro_271 (by decide) kd_272 (by omega) e2.1 ?_
    refine g_P (v := .int (6 : Int32)) (n := 2) M_213 q_213_34 rfl ?_
    refine g_icmp M_213 q_213_36 mjCi_gt (fun b3 => ?_) (fun b3 => ?_)
    · exact K (e :: R) w h m4Kb.refl (fun _ _ => rfl) (fun _ => rfl) (by omega) (Or.inr ⟨e, R, rfl, by omega⟩)
    · refine g_L (v := .ref 240) (n := 1) M_213 q_213_39 rfl ?_
      refine h_get M_213 q_213_40 Tw ro_240 (by decide) kd_241 (fr_240_39 Tw) ?_
      refine g_L (v := .ref 240) (n := 1) M_213 q_213_43 rfl ?_
      have bw_240_46 := (fi_240_46 Tw).2
      refine h_get M_213 q_213_44 Tw ro_240 (by decide) kd_241 (fi_240_46 Tw).1 ?_
      refine g_A (st1 := [.int (1 : Int32), .int (m4X w 240 46), .ref 271]) M_213 q_213_47 rfl ?_
      refine h_isub M_213 q_213_48 (by omega) (by omega) (fun u4 hu4 => ?_)
      have e5 := ar_272 Tw ro_271 (j := u4.toInt.toNat) (by omega)
      refine h_ald (j := u4.toInt.toNat) M_213 q_213_49 Tw ro_271 (by decide) kd_272 (by omega) e5.1 ?_
      refine g_L (v := .int rk) (n := 1) M_213 q_213_50 rfl ?_
      refine g_icmp M_213 q_213_51 mjCi_lt (fun b6 => ?_) (fun b6 => ?_)
      · exact K (e :: R) w h m4Kb.refl (fun _ _ => rfl) (fun _ => rfl) (by omega) (Or.inr ⟨e, R, rfl, by omega⟩)
      · refine g_L (v := .ref 240) (n := 1) M_213 q_213_54 rfl ?_
        refine g_A (st1 := [.ref 240, .ref 240]) M_213 q_213_55 rfl ?_
        have bw_240_46 := (fi_240_46 Tw).2
        refine h_get M_213 q_213_56 Tw ro_240 (by decide) kd_241 (fi_240_46 Tw).1 ?_
        refine g_A (st1 := [.int (1 : Int32), .int (m4X w 240 46), .ref 240]) M_213 q_213_59 rfl ?_
        refine h_isub M_213 q_213_60 (by omega) (by omega) (fun u7 hu7 => ?_)
        refine h_put M_213 q_213_61 Tw ro_240 (by decide) kd_241 ln_241 (by decide) (m4_fitI rfl) (m4_hasI ty_241_46 (by omega) (by omega)) (fun w8 Tw8 Uw8 => ?_)
        have tw8_240_46 := Uw8.at
        have tw8_240_3 := Uw8.ne (b := 240) (j := 3) (by decide)
        have tw8_240_4 := Uw8.ne (b := 240) (j := 4) (by decide)
        have tw8_240_6 := Uw8.ne (b := 240) (j := 6) (by decide)
        have tw8_240_7 := Uw8.ne (b := 240) (j := 7) (by decide)
        have tw8_240_8 := Uw8.ne (b := 240) (j := 8) (by decide)
        have tw8_240_43 := Uw8.ne (b := 240) (j := 43) (by decide)
        have tw8_240_44 := Uw8.ne (b := 240) (j := 44) (by decide)
        have tw8_240_45 := Uw8.ne (b := 240) (j := 45) (by decide)
        have tw8_240_47 := Uw8.ne (b := 240) (j := 47) (by decide)
        refine g_L (v := .ref 240) (n := 1) M_213 q_213_64 rfl ?_
        refine h_get M_213 q_213_65 Tw8 ro_240 (by decide) kd_241 (fr_240_39 Tw8) ?_
        refine g_L (v := .ref 240) (n := 1) M_213 q_213_68 rfl ?_
        have bw8_240_46 := (fi_240_46 Tw8).2
        refine h_get M_213 q_213_69 Tw8 ro_240 (by decide) kd_241 (fi_240_46 Tw8).1 ?_
        have e9 := ar_272 Tw8 ro_271 (j := (m4X w8 240 46).toInt.toNat) (by omega)
        refine h_ald (j := (m4X w8 240 46).toInt.toNat) M_213 q_213_72 Tw8 ro_271 (by decide) kd_272 (by omega) e9.1 ?_
        refine g_A (st1 := [.int (3 : Int32), .int (m4X w8 271 (m4X w8 240 46).toInt.toNat)]) M_213 q_213_73 rfl ?_
        refine g_icmp M_213 q_213_74 mjCi_ne (fun b10 => ?_) (fun b10 => ?_)
        · refine g_L (v := .ref 240) (n := 1) M_213 q_213_87 rfl ?_
          refine g_L (v := .ref 240) (n := 1) M_213 q_213_88 rfl ?_
          refine h_get M_213 q_213_89 Tw8 ro_240 (by decide) kd_241 (fr_240_40 Tw8) ?_
          refine g_L (v := .ref 240) (n := 1) M_213 q_213_92 rfl ?_
          have bw8_240_46 := (fi_240_46 Tw8).2
          refine h_get M_213 q_213_93 Tw8 ro_240 (by decide) kd_241 (fi_240_46 Tw8).1 ?_
          have e11 := ar_273 Tw8 ro_272 (j := (m4X w8 240 46).toInt.toNat) (by omega)
          refine h_ald (j := (m4X w8 240 46).toInt.toNat) M_213 q_213_96 Tw8 ro_272 (by decide) kd_273 (by omega) e11.1 ?_
          refine g_A (st1 := [.int (0 : Int32), .int (m4X w8 272 (m4X w8 240 46).toInt.toNat), .ref 240]) M_213 q_213_97 rfl ?_
          refine g_call (d := 3) (y1 := 212) (as := [.ref 240, .int (m4X w8 272 (m4X w8 240 46).toInt.toNat), .int (0 : Int32)]) (rest := []) (M1 := mjM_212) (d1 := 0) (ls0 := [some (.ref 240), some (.int (m4X w8 272 (m4X w8 240 46).toInt.toNat)), some (.int (0 : Int32))]) M_213 q_213_98 (h_cv Tw8 ro_240 (by decide) kd_241 (by decide) (show 2 ≤ 3 by decide) rfl (show 0 ≤ 8 by decide)) M_212 (show 3 ≤ 3 by decide) (by decide) rfl (by decide) (H_emit Tw8 (by omega)) ?_
          rintro r w12 ⟨rfl, Tw12, sw12, fw12, nw12, pw12⟩
          have tw12_240_3 : (m4X w12 240 3).toInt = (m4X w8 240 3).toInt := by unfold m4X; rw [fw12 240 3 (by omega) (by omega)]
          have tw12_240_4 : (m4X w12 240 4).toInt = (m4X w8 240 4).toInt := by unfold m4X; rw [fw12 240 4 (by omega) (by omega)]
          have tw12_240_6 : (m4X w12 240 6).toInt = (m4X w8 240 6).toInt := by unfold m4X; rw [fw12 240 6 (by omega) (by omega)]
          have tw12_240_7 : (m4X w12 240 7).toInt = (m4X w8 240 7).toInt := by unfold m4X; rw [fw12 240 7 (by omega) (by omega)]
          have tw12_240_8 : (m4X w12 240 8).toInt = (m4X w8 240 8).toInt := by unfold m4X; rw [fw12 240 8 (by omega) (by omega)]
          have tw12_240_43 : (m4X w12 240 43).toInt = (m4X w8 240 43).toInt := by unfold m4X; rw [fw12 240 43 (by omega) (by omega)]
          have tw12_240_45 : (m4X w12 240 45).toInt = (m4X w8 240 45).toInt := by unfold m4X; rw [fw12 240 45 (by omega) (by omega)]
          have tw12_240_46 : (m4X w12 240 46).toInt = (m4X w8 240 46).toInt := by unfold m4X; rw [fw12 240 46 (by omega) (by omega)]
          have tw12_240_47 : (m4X w12 240 47).toInt = (m4X w8 240 47).toInt := by unfold m4X; rw [fw12 240 47 (by omega) (by omega)]
          show mjGo mjTb mjMt sc _ 213 (101, [some (.ref 240), some (.int rk)], [], w12) _
          refine g_goto M_213 q_213_101 ?_
          have e44 : (m4X w8 240 44).toInt.toNat = (m4X w 240 44).toInt.toNat := by omega
          have ie : m4IE b fr R false w12 := m4IE_pop h (by omega) Tw12 (by omega) (by omega) (by omega) ⟨fun _ => by omega, fun _ => by omega⟩ (by omega) (by omega) (fun k hk => ((m4X_fld (fw12 269 k (by omega) (by omega)))).trans (Uw8.X (b := 269) (j := k) (by omega))) (fun j => ⟨((m4X_fld (fw12 271 j (by omega) (by omega)))).trans (Uw8.X (b := 271) (j := j) (by omega)), ((m4X_fld (fw12 272 j (by omega) (by omega)))).trans (Uw8.X (b := 272) (j := j) (by omega))⟩) (by rw [← e44, pw12]; omega)
          have kb : m4Kb b w w12 := ((m4Kb_up Uw8 (by unfold m4Kp; omega)).trans (m4Kb_fld sw12 (fun a k hk => fw12 a k (by unfold m4Kp at hk; omega) (by unfold m4Kp at hk; omega))))
          have xk : ∀ k, k = 3 ∨ k = 4 ∨ k = 6 ∨ k = 7 ∨ k = 8 → m4X w12 240 k = m4X w 240 k := fun k hk => ((m4X_fld (fw12 240 k (by omega) (by omega)))).trans (Uw8.X (b := 240) (j := k) (by omega))
          have x2 : ∀ j, m4X w12 242 j = m4X w 242 j := fun j => ((m4X_fld (fw12 242 j (by omega) (by omega)))).trans (Uw8.X (b := 242) (j := j) (by omega))
          refine ih R w12 (by omega) ie (fun T1 w9 h9 k9 a9 b9 c9 d9 => K T1 w9 h9 (kb.trans k9) (fun k hk => (a9 k hk).trans (xk k hk)) (fun j => (b9 j).trans (x2 j)) (by omega) d9)
        · refine g_L (v := .ref 240) (n := 1) M_213 q_213_77 rfl ?_
          refine g_A (st1 := [.ref 240, .ref 240]) M_213 q_213_78 rfl ?_
          have bw8_240_45 := (fi_240_45 Tw8).2
          refine h_get M_213 q_213_79 Tw8 ro_240 (by decide) kd_241 (fi_240_45 Tw8).1 ?_
          refine g_A (st1 := [.int (1 : Int32), .int (m4X w8 240 45), .ref 240]) M_213 q_213_82 rfl ?_
          refine h_isub M_213 q_213_83 (by omega) (by omega) (fun u13 hu13 => ?_)
          refine h_put M_213 q_213_84 Tw8 ro_240 (by decide) kd_241 ln_241 (by decide) (m4_fitI rfl) (m4_hasI ty_241_45 (by omega) (by omega)) (fun w14 Tw14 Uw14 => ?_)
          have tw14_240_45 := Uw14.at
          have tw14_240_3 := Uw14.ne (b := 240) (j := 3) (by decide)
          have tw14_240_4 := Uw14.ne (b := 240) (j := 4) (by decide)
          have tw14_240_6 := Uw14.ne (b := 240) (j := 6) (by decide)
          have tw14_240_7 := Uw14.ne (b := 240) (j := 7) (by decide)
          have tw14_240_8 := Uw14.ne (b := 240) (j := 8) (by decide)
          have tw14_240_43 := Uw14.ne (b := 240) (j := 43) (by decide)
          have tw14_240_44 := Uw14.ne (b := 240) (j := 44) (by decide)
          have tw14_240_46 := Uw14.ne (b := 240) (j := 46) (by decide)
          have tw14_240_47 := Uw14.ne (b := 240) (j := 47) (by decide)
          refine g_L (v := .ref 240) (n := 1) M_213 q_213_87 rfl ?_
          refine g_L (v := .ref 240) (n := 1) M_213 q_213_88 rfl ?_
          refine h_get M_213 q_213_89 Tw14 ro_240 (by decide) kd_241 (fr_240_40 Tw14) ?_
          refine g_L (v := .ref 240) (n := 1) M_213 q_213_92 rfl ?_
          have bw14_240_46 := (fi_240_46 Tw14).2
          refine h_get M_213 q_213_93 Tw14 ro_240 (by decide) kd_241 (fi_240_46 Tw14).1 ?_
          have e15 := ar_273 Tw14 ro_272 (j := (m4X w14 240 46).toInt.toNat) (by omega)
          refine h_ald (j := (m4X w14 240 46).toInt.toNat) M_213 q_213_96 Tw14 ro_272 (by decide) kd_273 (by omega) e15.1 ?_
          refine g_A (st1 := [.int (0 : Int32), .int (m4X w14 272 (m4X w14 240 46).toInt.toNat), .ref 240]) M_213 q_213_97 rfl ?_
          refine g_call (d := 3) (y1 := 212) (as := [.ref 240, .int (m4X w14 272 (m4X w14 240 46).toInt.toNat), .int (0 : Int32)]) (rest := []) (M1 := mjM_212) (d1 := 0) (ls0 := [some (.ref 240), some (.int (m4X w14 272 (m4X w14 240 46).toInt.toNat)), some (.int (0 : Int32))]) M_213 q_213_98 (h_cv Tw14 ro_240 (by decide) kd_241 (by decide) (show 2 ≤ 3 by decide) rfl (show 0 ≤ 8 by decide)) M_212 (show 3 ≤ 3 by decide) (by decide) rfl (by decide) (H_emit Tw14 (by omega)) ?_
          rintro r w16 ⟨rfl, Tw16, sw16, fw16, nw16, pw16⟩
          have tw16_240_3 : (m4X w16 240 3).toInt = (m4X w14 240 3).toInt := by unfold m4X; rw [fw16 240 3 (by omega) (by omega)]
          have tw16_240_4 : (m4X w16 240 4).toInt = (m4X w14 240 4).toInt := by unfold m4X; rw [fw16 240 4 (by omega) (by omega)]
          have tw16_240_6 : (m4X w16 240 6).toInt = (m4X w14 240 6).toInt := by unfold m4X; rw [fw16 240 6 (by omega) (by omega)]
          have tw16_240_7 : (m4X w16 240 7).toInt = (m4X w14 240 7).toInt := by unfold m4X; rw [fw16 240 7 (by omega) (by omega)]
          have tw16_240_8 : (m4X w16 240 8).toInt = (m4X w14 240 8).toInt := by unfold m4X; rw [fw16 240 8 (by omega) (by omega)]
          have tw16_240_43 : (m4X w16 240 43).toInt = (m4X w14 240 43).toInt := by unfold m4X; rw [fw16 240 43 (by omega) (by omega)]
          have tw16_240_45 : (m4X w16 240 45).toInt = (m4X w14 240 45).toInt := by unfold m4X; rw [fw16 240 45 (by omega) (by omega)]
          have tw16_240_46 : (m4X w16 240 46).toInt = (m4X w14 240 46).toInt := by unfold m4X; rw [fw16 240 46 (by omega) (by omega)]
          have tw16_240_47 : (m4X w16 240 47).toInt = (m4X w14 240 47).toInt := by unfold m4X; rw [fw16 240 47 (by omega) (by omega)]
          show mjGo mjTb mjMt sc _ 213 (101, [some (.ref 240), some (.int rk)], [], w16) _
          refine g_goto M_213 q_213_101 ?_
          have e44 : (m4X w14 240 44).toInt.toNat = (m4X w 240 44).toInt.toNat := by omega
          have ie : m4IE b fr R false w16 := m4IE_pop h (by omega) Tw16 (by omega) (by omega) (by omega) ⟨fun _ => by omega, fun _ => by omega⟩ (by omega) (by omega) (fun k hk => (((m4X_fld (fw16 269 k (by omega) (by omega)))).trans (Uw14.X (b := 269) (j := k) (by omega))).trans (Uw8.X (b := 269) (j := k) (by omega))) (fun j => ⟨(((m4X_fld (fw16 271 j (by omega) (by omega)))).trans (Uw14.X (b := 271) (j := j) (by omega))).trans (Uw8.X (b := 271) (j := j) (by omega)), (((m4X_fld (fw16 272 j (by omega) (by omega)))).trans (Uw14.X (b := 272) (j := j) (by omega))).trans (Uw8.X (b := 272) (j := j) (by omega))⟩) (by rw [← e44, pw16]; omega)
          have kb : m4Kb b w w16 := (((m4Kb_up Uw8 (by unfold m4Kp; omega)).trans (m4Kb_up Uw14 (by unfold m4Kp; omega))).trans (m4Kb_fld sw16 (fun a k hk => fw16 a k (by unfold m4Kp at hk; omega) (by unfold m4Kp at hk; omega))))
          have xk : ∀ k, k = 3 ∨ k = 4 ∨ k = 6 ∨ k = 7 ∨ k = 8 → m4X w16 240 k = m4X w 240 k := fun k hk => (((m4X_fld (fw16 240 k (by omega) (by omega)))).trans (Uw14.X (b := 240) (j := k) (by omega))).trans (Uw8.X (b := 240) (j := k) (by omega))
          have x2 : ∀ j, m4X w16 242 j = m4X w 242 j := fun j => (((m4X_fld (fw16 242 j (by omega) (by omega)))).trans (Uw14.X (b := 242) (j := j) (by omega))).trans (Uw8.X (b := 242) (j := j) (by omega))
          refine ih R w16 (by omega) ie (fun T1 w9 h9 k9 a9 b9 c9 d9 => K T1 w9 h9 (kb.trans k9) (fun k hk => (a9 k hk).trans (xk k hk)) (fun j => (b9 j).trans (x2 j)) (by omega) d9)
