/-! ===== the lines of a text, by hand ===== -/
theorem H_once0 {sc : List Int32} {b : Nat} {w : MjW} (h : m4RI b w) (hg : (m4X w 240 4).toInt = 0) : mjGo mjTb mjMt sc (4 + 1) 194 (0, [some (.ref 240), some (.int (0 : Int32)), some (.int (1 : Int32)), some (.int (6 : Int32))], [], w) (fun r w1 => m4RI b w1 ∧ m4Kd b w w1 ∧ m4Mu w1 ≤ m4Mu w ∧ ∃ u : Int32, r = some (.int u) ∧ 1 ≤ u.toInt ∧ u.toInt ≤ 6) := by
  have Tw := h.1
  have he := h.2.1
  have hb := h.2.2.1
  have h43 := h.2.2.2.1
  have hs := m4_s63 0 (by decide)
  have k_0 := c_0
  have k_1 := c_1
  have k_6 := c_6
  refine g_L (v := .ref 240) (n := 1) M_194 q_194_0 rfl ?_
  refine h_get M_194 q_194_1 Tw ro_240 (by decide) kd_241 (fr_240_19 Tw) ?_
  refine g_L (v := .ref 240) (n := 1) M_194 q_194_4 rfl ?_
  have bw_240_43 := (fi_240_43 Tw).2
  refine h_get M_194 q_194_5 Tw ro_240 (by decide) kd_241 (fi_240_43 Tw).1 ?_
  refine g_A (st1 := [.int (m4X w 240 43), .ref 251, .int (m4X w 240 43), .ref 251]) M_194 q_194_8 rfl ?_
  have e1 := ar_252 Tw ro_251 (j := (m4X w 240 43).toInt.toNat) (by omega)
  refine h_ald (j := (m4X w 240 43).toInt.toNat) M_194 q_194_9 Tw ro_251 (by decide) kd_252 (by omega) e1.1 ?_
  refine g_A (st1 := [.int (1 : Int32), .int (m4X w 251 (m4X w 240 43).toInt.toNat), .int (m4X w 240 43), .ref 251]) M_194 q_194_10 rfl ?_
  refine g_L (v := .int (0 : Int32)) (n := 1) M_194 q_194_11 rfl ?_
  refine h_ishl M_194 q_194_12 (fun u2 hu2 => ?_)
  rw [← hu2] at hs
  refine h_ior63 M_194 q_194_13 (by omega) (by omega) (by omega) (by omega) (fun u3 hu3 hu3a hu3b => ?_)
  refine h_ast (j := (m4X w 240 43).toInt.toNat) M_194 q_194_14 Tw ro_251 (by decide) kd_252 ln_252 (by omega) (by omega) (m4_hasI (ta_252 _) (by omega) (by omega)) (fun w4 Tw4 Uw4 => ?_)
  have tw4_251_x := Uw4.at
  have tw4_240_3 := Uw4.ne (b := 240) (j := 3) (by first | decide | (left; decide) | (right; omega) | (left; omega))
  have tw4_240_4 := Uw4.ne (b := 240) (j := 4) (by first | decide | (left; decide) | (right; omega) | (left; omega))
  have tw4_240_7 := Uw4.ne (b := 240) (j := 7) (by first | decide | (left; decide) | (right; omega) | (left; omega))
  have tw4_240_8 := Uw4.ne (b := 240) (j := 8) (by first | decide | (left; decide) | (right; omega) | (left; omega))
  refine g_L (v := .ref 240) (n := 1) M_194 q_194_15 rfl ?_
  refine g_L (v := .int (1 : Int32)) (n := 1) M_194 q_194_16 rfl ?_
  refine g_L (v := .int (6 : Int32)) (n := 1) M_194 q_194_17 rfl ?_
  refine g_A (st1 := [.int (0 : Int32), .int (6 : Int32), .int (1 : Int32), .ref 240]) M_194 q_194_18 rfl ?_
  have he3 : (m4X w4 240 7).toInt ≤ (m4X w4 240 3).toInt := by omega
  refine h_ctr (J := m4Q w4 (m4Mu w4)) (sm := mjSm_r_21) (as := [.ref 240, .int (1 : Int32), .int (6 : Int32), .int (0 : Int32)]) (rest := []) (M1 := mjM_195) M_194 q_194_19 (h_cv Tw4 ro_240 (by decide) kd_241 (by decide) (show 3 ≤ 4 by decide) rfl (show 0 ≤ 8 by decide)) M_195 (show 4 ≤ 5 by decide) (by decide) (by decide) (mjC_r_21 (m4Q_ok _ _) (H_r _ _)) ⟨Tw4, m4Q_refl he3⟩ ⟨⟨240, rfl, rfl⟩, ⟨(1 : Int32), rfl, (show (1 : Int) ≤ (1 : Int32).toInt by decide), (show (1 : Int32).toInt ≤ (1 : Int) by decide)⟩, ⟨(6 : Int32), rfl, (show (6 : Int) ≤ (6 : Int32).toInt by decide), (show (6 : Int32).toInt ≤ (6 : Int) by decide)⟩, ⟨(0 : Int32), rfl, (show (0 : Int) ≤ (0 : Int32).toInt by decide), (show (0 : Int32).toInt ≤ (0 : Int) by decide)⟩, trivial⟩ (fun q hq => by cases hq) (fun r w5 hp => ?_)
  obtain ⟨⟨Tw5, Qw5⟩, kpw5, u, rfl, u1, u2⟩ := m4_ans (lo := 1) (hi := 6) hp rfl
  show mjGo mjTb mjMt sc _ 194 (22, [some (.ref 240), some (.int (0 : Int32)), some (.int (1 : Int32)), some (.int (6 : Int32))], [.int u], w5) _
  refine g_ret (v := some (.int u)) M_194 q_194_22 (h_rtI) ?_
  have eR : (m4X w 240 43).toInt.toNat = 1 - b := by omega
  have bt := (ar_252 Tw ro_251 (j := 1 - b) (by omega)).2
  have ri : m4RI b w4 := m4RI_told h Tw4 Uw4 eR (by rw [hu3, hu2, eR]; exact m4_o2 bt.1 bt.2 (by decide))
  have mi := m4Mu_eq (w := w) (w1 := w4) (by omega) (by omega)
  have mq := Qw5.2.2
  exact ⟨m4RI_Q ri (by omega) Tw5 Qw5, (m4Kd_up Uw4 (by unfold m4Kq; omega)).trans (m4Kb_Q Qw5 kpw5.1).toKd, by omega, u, rfl, u1, u2⟩
theorem H_once1 {sc : List Int32} {b : Nat} {w : MjW} (h : m4RI b w) (hg : (m4X w 240 4).toInt = 0) : mjGo mjTb mjMt sc (4 + 1) 194 (0, [some (.ref 240), some (.int (1 : Int32)), some (.int (1 : Int32)), some (.int (5 : Int32))], [], w) (fun r w1 => m4RI b w1 ∧ m4Kd b w w1 ∧ m4Mu w1 ≤ m4Mu w ∧ ∃ u : Int32, r = some (.int u) ∧ 1 ≤ u.toInt ∧ u.toInt ≤ 5) := by
  have Tw := h.1
  have he := h.2.1
  have hb := h.2.2.1
  have h43 := h.2.2.2.1
  have hs := m4_s63 1 (by decide)
  have k_0 := c_0
  have k_1 := c_1
  have k_5 := c_5
  refine g_L (v := .ref 240) (n := 1) M_194 q_194_0 rfl ?_
  refine h_get M_194 q_194_1 Tw ro_240 (by decide) kd_241 (fr_240_19 Tw) ?_
  refine g_L (v := .ref 240) (n := 1) M_194 q_194_4 rfl ?_
  have bw_240_43 := (fi_240_43 Tw).2
  refine h_get M_194 q_194_5 Tw ro_240 (by decide) kd_241 (fi_240_43 Tw).1 ?_
  refine g_A (st1 := [.int (m4X w 240 43), .ref 251, .int (m4X w 240 43), .ref 251]) M_194 q_194_8 rfl ?_
  have e1 := ar_252 Tw ro_251 (j := (m4X w 240 43).toInt.toNat) (by omega)
  refine h_ald (j := (m4X w 240 43).toInt.toNat) M_194 q_194_9 Tw ro_251 (by decide) kd_252 (by omega) e1.1 ?_
  refine g_A (st1 := [.int (1 : Int32), .int (m4X w 251 (m4X w 240 43).toInt.toNat), .int (m4X w 240 43), .ref 251]) M_194 q_194_10 rfl ?_
  refine g_L (v := .int (1 : Int32)) (n := 1) M_194 q_194_11 rfl ?_
  refine h_ishl M_194 q_194_12 (fun u2 hu2 => ?_)
  rw [← hu2] at hs
  refine h_ior63 M_194 q_194_13 (by omega) (by omega) (by omega) (by omega) (fun u3 hu3 hu3a hu3b => ?_)
  refine h_ast (j := (m4X w 240 43).toInt.toNat) M_194 q_194_14 Tw ro_251 (by decide) kd_252 ln_252 (by omega) (by omega) (m4_hasI (ta_252 _) (by omega) (by omega)) (fun w4 Tw4 Uw4 => ?_)
  have tw4_251_x := Uw4.at
  have tw4_240_3 := Uw4.ne (b := 240) (j := 3) (by first | decide | (left; decide) | (right; omega) | (left; omega))
  have tw4_240_4 := Uw4.ne (b := 240) (j := 4) (by first | decide | (left; decide) | (right; omega) | (left; omega))
  have tw4_240_7 := Uw4.ne (b := 240) (j := 7) (by first | decide | (left; decide) | (right; omega) | (left; omega))
  have tw4_240_8 := Uw4.ne (b := 240) (j := 8) (by first | decide | (left; decide) | (right; omega) | (left; omega))
  refine g_L (v := .ref 240) (n := 1) M_194 q_194_15 rfl ?_
  refine g_L (v := .int (1 : Int32)) (n := 1) M_194 q_194_16 rfl ?_
  refine g_L (v := .int (5 : Int32)) (n := 1) M_194 q_194_17 rfl ?_
  refine g_A (st1 := [.int (0 : Int32), .int (5 : Int32), .int (1 : Int32), .ref 240]) M_194 q_194_18 rfl ?_
  have he3 : (m4X w4 240 7).toInt ≤ (m4X w4 240 3).toInt := by omega
  refine h_ctr (J := m4Q w4 (m4Mu w4)) (sm := mjSm_r_23) (as := [.ref 240, .int (1 : Int32), .int (5 : Int32), .int (0 : Int32)]) (rest := []) (M1 := mjM_195) M_194 q_194_19 (h_cv Tw4 ro_240 (by decide) kd_241 (by decide) (show 3 ≤ 4 by decide) rfl (show 0 ≤ 8 by decide)) M_195 (show 4 ≤ 5 by decide) (by decide) (by decide) (mjC_r_23 (m4Q_ok _ _) (H_r _ _)) ⟨Tw4, m4Q_refl he3⟩ ⟨⟨240, rfl, rfl⟩, ⟨(1 : Int32), rfl, (show (1 : Int) ≤ (1 : Int32).toInt by decide), (show (1 : Int32).toInt ≤ (1 : Int) by decide)⟩, ⟨(5 : Int32), rfl, (show (5 : Int) ≤ (5 : Int32).toInt by decide), (show (5 : Int32).toInt ≤ (5 : Int) by decide)⟩, ⟨(0 : Int32), rfl, (show (0 : Int) ≤ (0 : Int32).toInt by decide), (show (0 : Int32).toInt ≤ (0 : Int) by decide)⟩, trivial⟩ (fun q hq => by cases hq) (fun r w5 hp => ?_)
  obtain ⟨⟨Tw5, Qw5⟩, kpw5, u, rfl, u1, u2⟩ := m4_ans (lo := 1) (hi := 5) hp rfl
  show mjGo mjTb mjMt sc _ 194 (22, [some (.ref 240), some (.int (1 : Int32)), some (.int (1 : Int32)), some (.int (5 : Int32))], [.int u], w5) _
  refine g_ret (v := some (.int u)) M_194 q_194_22 (h_rtI) ?_
  have eR : (m4X w 240 43).toInt.toNat = 1 - b := by omega
  have bt := (ar_252 Tw ro_251 (j := 1 - b) (by omega)).2
  have ri : m4RI b w4 := m4RI_told h Tw4 Uw4 eR (by rw [hu3, hu2, eR]; exact m4_o2 bt.1 bt.2 (by decide))
  have mi := m4Mu_eq (w := w) (w1 := w4) (by omega) (by omega)
  have mq := Qw5.2.2
  exact ⟨m4RI_Q ri (by omega) Tw5 Qw5, (m4Kd_up Uw4 (by unfold m4Kq; omega)).trans (m4Kb_Q Qw5 kpw5.1).toKd, by omega, u, rfl, u1, u2⟩
theorem H_once3 {sc : List Int32} {b : Nat} {w : MjW} (h : m4RI b w) (hg : (m4X w 240 4).toInt = 0) : mjGo mjTb mjMt sc (4 + 1) 194 (0, [some (.ref 240), some (.int (3 : Int32)), some (.int (0 : Int32)), some (.int (9 : Int32))], [], w) (fun r w1 => m4RI b w1 ∧ m4Kd b w w1 ∧ m4Mu w1 ≤ m4Mu w ∧ ∃ u : Int32, r = some (.int u) ∧ 0 ≤ u.toInt ∧ u.toInt ≤ 9) := by
  have Tw := h.1
  have he := h.2.1
  have hb := h.2.2.1
  have h43 := h.2.2.2.1
  have hs := m4_s63 3 (by decide)
  have k_0 := c_0
  have k_1 := c_1
  have k_3 := c_3
  have k_9 := c_9
  refine g_L (v := .ref 240) (n := 1) M_194 q_194_0 rfl ?_
  refine h_get M_194 q_194_1 Tw ro_240 (by decide) kd_241 (fr_240_19 Tw) ?_
  refine g_L (v := .ref 240) (n := 1) M_194 q_194_4 rfl ?_
  have bw_240_43 := (fi_240_43 Tw).2
  refine h_get M_194 q_194_5 Tw ro_240 (by decide) kd_241 (fi_240_43 Tw).1 ?_
  refine g_A (st1 := [.int (m4X w 240 43), .ref 251, .int (m4X w 240 43), .ref 251]) M_194 q_194_8 rfl ?_
  have e1 := ar_252 Tw ro_251 (j := (m4X w 240 43).toInt.toNat) (by omega)
  refine h_ald (j := (m4X w 240 43).toInt.toNat) M_194 q_194_9 Tw ro_251 (by decide) kd_252 (by omega) e1.1 ?_
  refine g_A (st1 := [.int (1 : Int32), .int (m4X w 251 (m4X w 240 43).toInt.toNat), .int (m4X w 240 43), .ref 251]) M_194 q_194_10 rfl ?_
  refine g_L (v := .int (3 : Int32)) (n := 1) M_194 q_194_11 rfl ?_
  refine h_ishl M_194 q_194_12 (fun u2 hu2 => ?_)
  rw [← hu2] at hs
  refine h_ior63 M_194 q_194_13 (by omega) (by omega) (by omega) (by omega) (fun u3 hu3 hu3a hu3b => ?_)
  refine h_ast (j := (m4X w 240 43).toInt.toNat) M_194 q_194_14 Tw ro_251 (by decide) kd_252 ln_252 (by omega) (by omega) (m4_hasI (ta_252 _) (by omega) (by omega)) (fun w4 Tw4 Uw4 => ?_)
  have tw4_251_x := Uw4.at
  have tw4_240_3 := Uw4.ne (b := 240) (j := 3) (by first | decide | (left; decide) | (right; omega) | (left; omega))
  have tw4_240_4 := Uw4.ne (b := 240) (j := 4) (by first | decide | (left; decide) | (right; omega) | (left; omega))
  have tw4_240_7 := Uw4.ne (b := 240) (j := 7) (by first | decide | (left; decide) | (right; omega) | (left; omega))
  have tw4_240_8 := Uw4.ne (b := 240) (j := 8) (by first | decide | (left; decide) | (right; omega) | (left; omega))
  refine g_L (v := .ref 240) (n := 1) M_194 q_194_15 rfl ?_
  refine g_L (v := .int (0 : Int32)) (n := 1) M_194 q_194_16 rfl ?_
  refine g_L (v := .int (9 : Int32)) (n := 1) M_194 q_194_17 rfl ?_
  refine g_A (st1 := [.int (0 : Int32), .int (9 : Int32), .int (0 : Int32), .ref 240]) M_194 q_194_18 rfl ?_
  have he3 : (m4X w4 240 7).toInt ≤ (m4X w4 240 3).toInt := by omega
  refine h_ctr (J := m4Q w4 (m4Mu w4)) (sm := mjSm_r_25) (as := [.ref 240, .int (0 : Int32), .int (9 : Int32), .int (0 : Int32)]) (rest := []) (M1 := mjM_195) M_194 q_194_19 (h_cv Tw4 ro_240 (by decide) kd_241 (by decide) (show 3 ≤ 4 by decide) rfl (show 0 ≤ 8 by decide)) M_195 (show 4 ≤ 5 by decide) (by decide) (by decide) (mjC_r_25 (m4Q_ok _ _) (H_r _ _)) ⟨Tw4, m4Q_refl he3⟩ ⟨⟨240, rfl, rfl⟩, ⟨(0 : Int32), rfl, (show (0 : Int) ≤ (0 : Int32).toInt by decide), (show (0 : Int32).toInt ≤ (0 : Int) by decide)⟩, ⟨(9 : Int32), rfl, (show (9 : Int) ≤ (9 : Int32).toInt by decide), (show (9 : Int32).toInt ≤ (9 : Int) by decide)⟩, ⟨(0 : Int32), rfl, (show (0 : Int) ≤ (0 : Int32).toInt by decide), (show (0 : Int32).toInt ≤ (0 : Int) by decide)⟩, trivial⟩ (fun q hq => by cases hq) (fun r w5 hp => ?_)
  obtain ⟨⟨Tw5, Qw5⟩, kpw5, u, rfl, u1, u2⟩ := m4_ans (lo := 0) (hi := 9) hp rfl
  show mjGo mjTb mjMt sc _ 194 (22, [some (.ref 240), some (.int (3 : Int32)), some (.int (0 : Int32)), some (.int (9 : Int32))], [.int u], w5) _
  refine g_ret (v := some (.int u)) M_194 q_194_22 (h_rtI) ?_
  have eR : (m4X w 240 43).toInt.toNat = 1 - b := by omega
  have bt := (ar_252 Tw ro_251 (j := 1 - b) (by omega)).2
  have ri : m4RI b w4 := m4RI_told h Tw4 Uw4 eR (by rw [hu3, hu2, eR]; exact m4_o2 bt.1 bt.2 (by decide))
  have mi := m4Mu_eq (w := w) (w1 := w4) (by omega) (by omega)
  have mq := Qw5.2.2
  exact ⟨m4RI_Q ri (by omega) Tw5 Qw5, (m4Kd_up Uw4 (by unfold m4Kq; omega)).trans (m4Kb_Q Qw5 kpw5.1).toKd, by omega, u, rfl, u1, u2⟩
theorem H_once4 {sc : List Int32} {b : Nat} {w : MjW} (h : m4RI b w) (hg : (m4X w 240 4).toInt = 0) : mjGo mjTb mjMt sc (4 + 1) 194 (0, [some (.ref 240), some (.int (4 : Int32)), some (.int (0 : Int32)), some (.int (100 : Int32))], [], w) (fun r w1 => m4RI b w1 ∧ m4Kd b w w1 ∧ m4Mu w1 ≤ m4Mu w ∧ ∃ u : Int32, r = some (.int u) ∧ 0 ≤ u.toInt ∧ u.toInt ≤ 100) := by
  have Tw := h.1
  have he := h.2.1
  have hb := h.2.2.1
  have h43 := h.2.2.2.1
  have hs := m4_s63 4 (by decide)
  have k_0 := c_0
  have k_1 := c_1
  have k_4 := c_4
  have k_100 := c_100
  refine g_L (v := .ref 240) (n := 1) M_194 q_194_0 rfl ?_
  refine h_get M_194 q_194_1 Tw ro_240 (by decide) kd_241 (fr_240_19 Tw) ?_
  refine g_L (v := .ref 240) (n := 1) M_194 q_194_4 rfl ?_
  have bw_240_43 := (fi_240_43 Tw).2
  refine h_get M_194 q_194_5 Tw ro_240 (by decide) kd_241 (fi_240_43 Tw).1 ?_
  refine g_A (st1 := [.int (m4X w 240 43), .ref 251, .int (m4X w 240 43), .ref 251]) M_194 q_194_8 rfl ?_
  have e1 := ar_252 Tw ro_251 (j := (m4X w 240 43).toInt.toNat) (by omega)
  refine h_ald (j := (m4X w 240 43).toInt.toNat) M_194 q_194_9 Tw ro_251 (by decide) kd_252 (by omega) e1.1 ?_
  refine g_A (st1 := [.int (1 : Int32), .int (m4X w 251 (m4X w 240 43).toInt.toNat), .int (m4X w 240 43), .ref 251]) M_194 q_194_10 rfl ?_
  refine g_L (v := .int (4 : Int32)) (n := 1) M_194 q_194_11 rfl ?_
  refine h_ishl M_194 q_194_12 (fun u2 hu2 => ?_)
  rw [← hu2] at hs
  refine h_ior63 M_194 q_194_13 (by omega) (by omega) (by omega) (by omega) (fun u3 hu3 hu3a hu3b => ?_)
  refine h_ast (j := (m4X w 240 43).toInt.toNat) M_194 q_194_14 Tw ro_251 (by decide) kd_252 ln_252 (by omega) (by omega) (m4_hasI (ta_252 _) (by omega) (by omega)) (fun w4 Tw4 Uw4 => ?_)
  have tw4_251_x := Uw4.at
  have tw4_240_3 := Uw4.ne (b := 240) (j := 3) (by first | decide | (left; decide) | (right; omega) | (left; omega))
  have tw4_240_4 := Uw4.ne (b := 240) (j := 4) (by first | decide | (left; decide) | (right; omega) | (left; omega))
  have tw4_240_7 := Uw4.ne (b := 240) (j := 7) (by first | decide | (left; decide) | (right; omega) | (left; omega))
  have tw4_240_8 := Uw4.ne (b := 240) (j := 8) (by first | decide | (left; decide) | (right; omega) | (left; omega))
  refine g_L (v := .ref 240) (n := 1) M_194 q_194_15 rfl ?_
  refine g_L (v := .int (0 : Int32)) (n := 1) M_194 q_194_16 rfl ?_
  refine g_L (v := .int (100 : Int32)) (n := 1) M_194 q_194_17 rfl ?_
  refine g_A (st1 := [.int (0 : Int32), .int (100 : Int32), .int (0 : Int32), .ref 240]) M_194 q_194_18 rfl ?_
  have he3 : (m4X w4 240 7).toInt ≤ (m4X w4 240 3).toInt := by omega
  refine h_ctr (J := m4Q w4 (m4Mu w4)) (sm := mjSm_r_27) (as := [.ref 240, .int (0 : Int32), .int (100 : Int32), .int (0 : Int32)]) (rest := []) (M1 := mjM_195) M_194 q_194_19 (h_cv Tw4 ro_240 (by decide) kd_241 (by decide) (show 3 ≤ 4 by decide) rfl (show 0 ≤ 8 by decide)) M_195 (show 4 ≤ 5 by decide) (by decide) (by decide) (mjC_r_27 (m4Q_ok _ _) (H_r _ _)) ⟨Tw4, m4Q_refl he3⟩ ⟨⟨240, rfl, rfl⟩, ⟨(0 : Int32), rfl, (show (0 : Int) ≤ (0 : Int32).toInt by decide), (show (0 : Int32).toInt ≤ (0 : Int) by decide)⟩, ⟨(100 : Int32), rfl, (show (100 : Int) ≤ (100 : Int32).toInt by decide), (show (100 : Int32).toInt ≤ (100 : Int) by decide)⟩, ⟨(0 : Int32), rfl, (show (0 : Int) ≤ (0 : Int32).toInt by decide), (show (0 : Int32).toInt ≤ (0 : Int) by decide)⟩, trivial⟩ (fun q hq => by cases hq) (fun r w5 hp => ?_)
  obtain ⟨⟨Tw5, Qw5⟩, kpw5, u, rfl, u1, u2⟩ := m4_ans (lo := 0) (hi := 100) hp rfl
  show mjGo mjTb mjMt sc _ 194 (22, [some (.ref 240), some (.int (4 : Int32)), some (.int (0 : Int32)), some (.int (100 : Int32))], [.int u], w5) _
  refine g_ret (v := some (.int u)) M_194 q_194_22 (h_rtI) ?_
  have eR : (m4X w 240 43).toInt.toNat = 1 - b := by omega
  have bt := (ar_252 Tw ro_251 (j := 1 - b) (by omega)).2
  have ri : m4RI b w4 := m4RI_told h Tw4 Uw4 eR (by rw [hu3, hu2, eR]; exact m4_o2 bt.1 bt.2 (by decide))
  have mi := m4Mu_eq (w := w) (w1 := w4) (by omega) (by omega)
  have mq := Qw5.2.2
  exact ⟨m4RI_Q ri (by omega) Tw5 Qw5, (m4Kd_up Uw4 (by unfold m4Kq; omega)).trans (m4Kb_Q Qw5 kpw5.1).toKd, by omega, u, rfl, u1, u2⟩
theorem H_once5 {sc : List Int32} {b : Nat} {w : MjW} (h : m4RI b w) (hg : (m4X w 240 4).toInt = 0) : mjGo mjTb mjMt sc (4 + 1) 194 (0, [some (.ref 240), some (.int (5 : Int32)), some (.int (0 : Int32)), some (.int (999 : Int32))], [], w) (fun r w1 => m4RI b w1 ∧ m4Kd b w w1 ∧ m4Mu w1 ≤ m4Mu w ∧ ∃ u : Int32, r = some (.int u) ∧ 0 ≤ u.toInt ∧ u.toInt ≤ 999) := by
  have Tw := h.1
  have he := h.2.1
  have hb := h.2.2.1
  have h43 := h.2.2.2.1
  have hs := m4_s63 5 (by decide)
  have k_0 := c_0
  have k_1 := c_1
  have k_5 := c_5
  have k_999 := c_999
  refine g_L (v := .ref 240) (n := 1) M_194 q_194_0 rfl ?_
  refine h_get M_194 q_194_1 Tw ro_240 (by decide) kd_241 (fr_240_19 Tw) ?_
  refine g_L (v := .ref 240) (n := 1) M_194 q_194_4 rfl ?_
  have bw_240_43 := (fi_240_43 Tw).2
  refine h_get M_194 q_194_5 Tw ro_240 (by decide) kd_241 (fi_240_43 Tw).1 ?_
  refine g_A (st1 := [.int (m4X w 240 43), .ref 251, .int (m4X w 240 43), .ref 251]) M_194 q_194_8 rfl ?_
  have e1 := ar_252 Tw ro_251 (j := (m4X w 240 43).toInt.toNat) (by omega)
  refine h_ald (j := (m4X w 240 43).toInt.toNat) M_194 q_194_9 Tw ro_251 (by decide) kd_252 (by omega) e1.1 ?_
  refine g_A (st1 := [.int (1 : Int32), .int (m4X w 251 (m4X w 240 43).toInt.toNat), .int (m4X w 240 43), .ref 251]) M_194 q_194_10 rfl ?_
  refine g_L (v := .int (5 : Int32)) (n := 1) M_194 q_194_11 rfl ?_
  refine h_ishl M_194 q_194_12 (fun u2 hu2 => ?_)
  rw [← hu2] at hs
  refine h_ior63 M_194 q_194_13 (by omega) (by omega) (by omega) (by omega) (fun u3 hu3 hu3a hu3b => ?_)
  refine h_ast (j := (m4X w 240 43).toInt.toNat) M_194 q_194_14 Tw ro_251 (by decide) kd_252 ln_252 (by omega) (by omega) (m4_hasI (ta_252 _) (by omega) (by omega)) (fun w4 Tw4 Uw4 => ?_)
  have tw4_251_x := Uw4.at
  have tw4_240_3 := Uw4.ne (b := 240) (j := 3) (by first | decide | (left; decide) | (right; omega) | (left; omega))
  have tw4_240_4 := Uw4.ne (b := 240) (j := 4) (by first | decide | (left; decide) | (right; omega) | (left; omega))
  have tw4_240_7 := Uw4.ne (b := 240) (j := 7) (by first | decide | (left; decide) | (right; omega) | (left; omega))
  have tw4_240_8 := Uw4.ne (b := 240) (j := 8) (by first | decide | (left; decide) | (right; omega) | (left; omega))
  refine g_L (v := .ref 240) (n := 1) M_194 q_194_15 rfl ?_
  refine g_L (v := .int (0 : Int32)) (n := 1) M_194 q_194_16 rfl ?_
  refine g_L (v := .int (999 : Int32)) (n := 1) M_194 q_194_17 rfl ?_
  refine g_A (st1 := [.int (0 : Int32), .int (999 : Int32), .int (0 : Int32), .ref 240]) M_194 q_194_18 rfl ?_
  have he3 : (m4X w4 240 7).toInt ≤ (m4X w4 240 3).toInt := by omega
  refine h_ctr (J := m4Q w4 (m4Mu w4)) (sm := mjSm_r_28) (as := [.ref 240, .int (0 : Int32), .int (999 : Int32), .int (0 : Int32)]) (rest := []) (M1 := mjM_195) M_194 q_194_19 (h_cv Tw4 ro_240 (by decide) kd_241 (by decide) (show 3 ≤ 4 by decide) rfl (show 0 ≤ 8 by decide)) M_195 (show 4 ≤ 5 by decide) (by decide) (by decide) (mjC_r_28 (m4Q_ok _ _) (H_r _ _)) ⟨Tw4, m4Q_refl he3⟩ ⟨⟨240, rfl, rfl⟩, ⟨(0 : Int32), rfl, (show (0 : Int) ≤ (0 : Int32).toInt by decide), (show (0 : Int32).toInt ≤ (0 : Int) by decide)⟩, ⟨(999 : Int32), rfl, (show (999 : Int) ≤ (999 : Int32).toInt by decide), (show (999 : Int32).toInt ≤ (999 : Int) by decide)⟩, ⟨(0 : Int32), rfl, (show (0 : Int) ≤ (0 : Int32).toInt by decide), (show (0 : Int32).toInt ≤ (0 : Int) by decide)⟩, trivial⟩ (fun q hq => by cases hq) (fun r w5 hp => ?_)
  obtain ⟨⟨Tw5, Qw5⟩, kpw5, u, rfl, u1, u2⟩ := m4_ans (lo := 0) (hi := 999) hp rfl
  show mjGo mjTb mjMt sc _ 194 (22, [some (.ref 240), some (.int (5 : Int32)), some (.int (0 : Int32)), some (.int (999 : Int32))], [.int u], w5) _
  refine g_ret (v := some (.int u)) M_194 q_194_22 (h_rtI) ?_
  have eR : (m4X w 240 43).toInt.toNat = 1 - b := by omega
  have bt := (ar_252 Tw ro_251 (j := 1 - b) (by omega)).2
  have ri : m4RI b w4 := m4RI_told h Tw4 Uw4 eR (by rw [hu3, hu2, eR]; exact m4_o2 bt.1 bt.2 (by decide))
  have mi := m4Mu_eq (w := w) (w1 := w4) (by omega) (by omega)
  have mq := Qw5.2.2
  exact ⟨m4RI_Q ri (by omega) Tw5 Qw5, (m4Kd_up Uw4 (by unfold m4Kq; omega)).trans (m4Kb_Q Qw5 kpw5.1).toKd, by omega, u, rfl, u1, u2⟩
