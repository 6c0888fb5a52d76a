/-! ===== by hand ===== -/
theorem H_laterx {t : Int} {sc : List Int32} {w : MjW} {b : Int32} (Tw : mjTyd m4S w) (ht : (m4X w 185 8).toInt = t) : mjGo mjTb mjMt sc 1 162 (0, [some (.ref 0), some (.int b)], [], w) (fun r w1 => mjTyd m4S w1 ∧ mjKp m4S [(186, 8)] w w1 ∧ ∃ u : Int32, r = some (.int u) ∧ ((¬ (0 ≤ b.toInt ∧ b.toInt ≤ 1000 ∧ t + b.toInt ≤ 100000) ∧ u.toInt = -1 ∧ (m4X w1 185 8).toInt = t) ∨ ((0 ≤ b.toInt ∧ b.toInt ≤ 1000 ∧ t + b.toInt ≤ 100000) ∧ u.toInt = t + b.toInt ∧ (m4X w1 185 8).toInt = t + b.toInt))) := by
  have bt := (fi_185_8 Tw).2
  have bb := mjB.all b
  have bb1 := bb.1
  have bb2 := bb.2
  show mjGo mjTb mjMt sc (0 + 1) 162 (0, [some (.ref 0), some (.int b)], [], w) _
  have k_m1 := c_m1
  have k_1000 := c_1000
  have k_100000 := c_100000
  refine g_L (v := .int b) (n := 1) M_162 q_162_0 rfl ?_
  refine g_if M_162 q_162_1 mjCz_lt (fun b1 => ?_) (fun b1 => ?_)
  · refine g_A (st1 := [.int (-1 : Int32)]) M_162 q_162_26 rfl ?_
    refine g_ret (v := some (.int (-1 : Int32))) M_162 q_162_27 (h_rtI) ?_
    exact ⟨Tw, mjKp.refl, _, rfl, by omega⟩
  · refine g_L (v := .int b) (n := 1) M_162 q_162_4 rfl ?_
    refine g_P (v := .int (1000 : Int32)) (n := 3) M_162 q_162_5 rfl ?_
    refine g_icmp M_162 q_162_8 mjCi_gt (fun b2 => ?_) (fun b2 => ?_)
    · refine g_A (st1 := [.int (-1 : Int32)]) M_162 q_162_26 rfl ?_
      refine g_ret (v := some (.int (-1 : Int32))) M_162 q_162_27 (h_rtI) ?_
      exact ⟨Tw, mjKp.refl, _, rfl, by omega⟩
    · refine g_L (v := .ref 0) (n := 1) M_162 q_162_11 rfl ?_
      refine h_get M_162 q_162_12 Tw ro_0 (by decide) kd_1 (fr_0_10 Tw) ?_
      have bw_185_8 := (fi_185_8 Tw).2
      refine h_get M_162 q_162_15 Tw ro_185 (by decide) kd_186 (fi_185_8 Tw).1 ?_
      refine g_L (v := .int b) (n := 1) M_162 q_162_18 rfl ?_
      refine h_iadd M_162 q_162_19 (by omega) (by omega) (fun u3 hu3 => ?_)
      refine g_P (v := .int (100000 : Int32)) (n := 3) M_162 q_162_20 rfl ?_
      refine g_icmp M_162 q_162_23 mjCi_le (fun b4 => ?_) (fun b4 => ?_)
      · refine g_L (v := .ref 0) (n := 1) M_162 q_162_28 rfl ?_
        refine h_get M_162 q_162_29 Tw ro_0 (by decide) kd_1 (fr_0_10 Tw) ?_
        refine g_A (st1 := [.ref 185, .ref 185]) M_162 q_162_32 rfl ?_
        have bw_185_8 := (fi_185_8 Tw).2
        refine h_get M_162 q_162_33 Tw ro_185 (by decide) kd_186 (fi_185_8 Tw).1 ?_
        refine g_L (v := .int b) (n := 1) M_162 q_162_36 rfl ?_
        refine h_iadd M_162 q_162_37 (by omega) (by omega) (fun u5 hu5 => ?_)
        refine h_put M_162 q_162_38 Tw ro_185 (by decide) kd_186 ln_186 (by decide) (m4_fitI rfl) (m4_hasI ty_186_8 (by omega) (by omega)) (fun w6 Tw6 Uw6 => ?_)
        have tw6_185_8 := Uw6.at
        refine g_L (v := .ref 0) (n := 1) M_162 q_162_41 rfl ?_
        refine h_get M_162 q_162_42 Tw6 ro_0 (by decide) kd_1 (fr_0_10 Tw6) ?_
        have bw6_185_8 := (fi_185_8 Tw6).2
        refine h_get M_162 q_162_45 Tw6 ro_185 (by decide) kd_186 (fi_185_8 Tw6).1 ?_
        refine g_ret (v := some (.int (m4X w6 185 8))) M_162 q_162_48 (h_rtI) ?_
        exact ⟨Tw6, Uw6.kp ro_185 rfl, _, rfl, by omega⟩
      · refine g_A (st1 := [.int (-1 : Int32)]) M_162 q_162_26 rfl ?_
        refine g_ret (v := some (.int (-1 : Int32))) M_162 q_162_27 (h_rtI) ?_
        exact ⟨Tw, mjKp.refl, _, rfl, by omega⟩
theorem H_laterm {t : Int} {sc : List Int32} {w : MjW} {b : Int32} (Tw : mjTyd m4S w) (ht : (m4X w 240 74).toInt = t) : mjGo mjTb mjMt sc 1 300 (0, [some (.ref 240), some (.int b)], [], w) (fun r w1 => mjTyd m4S w1 ∧ mjKp m4S [(241, 74)] w w1 ∧ ∃ u : Int32, r = some (.int u) ∧ ((¬ (0 ≤ b.toInt ∧ b.toInt ≤ 1000 ∧ t + b.toInt ≤ 100000) ∧ u.toInt = -1 ∧ (m4X w1 240 74).toInt = t) ∨ ((0 ≤ b.toInt ∧ b.toInt ≤ 1000 ∧ t + b.toInt ≤ 100000) ∧ u.toInt = t + b.toInt ∧ (m4X w1 240 74).toInt = t + b.toInt))) := by
  have bt := (fi_240_74 Tw).2
  have bb := mjB.all b
  have bb1 := bb.1
  have bb2 := bb.2
  show mjGo mjTb mjMt sc (0 + 1) 300 (0, [some (.ref 240), some (.int b)], [], w) _
  have k_m1 := c_m1
  have k_0 := c_0
  have k_1000 := c_1000
  have k_100000 := c_100000
  refine g_L (v := .int b) (n := 1) M_300 q_300_0 rfl ?_
  refine g_A (st1 := [.int (0 : Int32), .int b]) M_300 q_300_1 rfl ?_
  refine g_P (v := .int (1000 : Int32)) (n := 3) M_300 q_300_2 rfl ?_
  refine h_run (as := [.int b, .int (0 : Int32), .int (1000 : Int32)]) (rest := []) (M1 := mjM_221) (d1 := 0) (ls0 := [some (.int b), some (.int (0 : Int32)), some (.int (1000 : Int32))]) M_300 q_300_5 rfl M_221 (show 3 ≤ 3 by decide) (by decide) rfl (by omega) H_isIn (fun u1 hu1 => ?_)
  refine g_if M_300 q_300_8 mjCz_eq (fun b2 => ?_) (fun b2 => ?_)
  · refine g_A (st1 := [.int (-1 : Int32)]) M_300 q_300_23 rfl ?_
    refine g_ret (v := some (.int (-1 : Int32))) M_300 q_300_24 (h_rtI) ?_
    exact ⟨Tw, mjKp.refl, _, rfl, by omega⟩
  · refine g_L (v := .ref 240) (n := 1) M_300 q_300_11 rfl ?_
    have bw_240_74 := (fi_240_74 Tw).2
    refine h_get M_300 q_300_12 Tw ro_240 (by decide) kd_241 (fi_240_74 Tw).1 ?_
    refine g_L (v := .int b) (n := 1) M_300 q_300_15 rfl ?_
    refine h_iadd M_300 q_300_16 (by omega) (by omega) (fun u3 hu3 => ?_)
    refine g_P (v := .int (100000 : Int32)) (n := 3) M_300 q_300_17 rfl ?_
    refine g_icmp M_300 q_300_20 mjCi_le (fun b4 => ?_) (fun b4 => ?_)
    · refine g_L (v := .ref 240) (n := 1) M_300 q_300_25 rfl ?_
      refine g_A (st1 := [.ref 240, .ref 240]) M_300 q_300_26 rfl ?_
      have bw_240_74 := (fi_240_74 Tw).2
      refine h_get M_300 q_300_27 Tw ro_240 (by decide) kd_241 (fi_240_74 Tw).1 ?_
      refine g_L (v := .int b) (n := 1) M_300 q_300_30 rfl ?_
      refine h_iadd M_300 q_300_31 (by omega) (by omega) (fun u5 hu5 => ?_)
      refine h_put M_300 q_300_32 Tw ro_240 (by decide) kd_241 ln_241 (by decide) (m4_fitI rfl) (m4_hasI ty_241_74 (by omega) (by omega)) (fun w6 Tw6 Uw6 => ?_)
      have tw6_240_74 := Uw6.at
      refine g_L (v := .ref 240) (n := 1) M_300 q_300_35 rfl ?_
      have bw6_240_74 := (fi_240_74 Tw6).2
      refine h_get M_300 q_300_36 Tw6 ro_240 (by decide) kd_241 (fi_240_74 Tw6).1 ?_
      refine g_ret (v := some (.int (m4X w6 240 74))) M_300 q_300_39 (h_rtI) ?_
      exact ⟨Tw6, Uw6.kp ro_240 rfl, _, rfl, by omega⟩
    · refine g_A (st1 := [.int (-1 : Int32)]) M_300 q_300_23 rfl ?_
      refine g_ret (v := some (.int (-1 : Int32))) M_300 q_300_24 (h_rtI) ?_
      exact ⟨Tw, mjKp.refl, _, rfl, by omega⟩
