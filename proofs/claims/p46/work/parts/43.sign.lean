/-! ===== the parser, by hand ===== -/
theorem H_isDigit {sc : List Int32} {w : MjW} {c : Int32} : mjGo mjTb mjMt sc 0 185 (0, [some (.int c)], [], w) (fun r w1 => w1 = w ∧ ∃ u : Int32, r = some (.int u) ∧ ((u.toInt = 1 ∧ 48 ≤ c.toInt ∧ c.toInt ≤ 57) ∨ (u.toInt = 0 ∧ ¬ (48 ≤ c.toInt ∧ c.toInt ≤ 57)))) := by
  have k_0 := c_0
  have k_1 := c_1
  have k_48 := c_48
  have k_57 := c_57
  refine g_L (v := .int c) (n := 1) M_185 q_185_0 rfl ?_
  refine g_P (v := .int (48 : Int32)) (n := 2) M_185 q_185_1 rfl ?_
  refine g_icmp M_185 q_185_3 mjCi_lt (fun b1 => ?_) (fun b1 => ?_)
  · refine g_A (st1 := [.int (0 : Int32)]) M_185 q_185_16 rfl ?_
    refine g_ret (v := some (.int (0 : Int32))) M_185 q_185_17 (h_rtZ) ?_
    exact ⟨rfl, _, rfl, by omega⟩
  · refine g_L (v := .int c) (n := 1) M_185 q_185_6 rfl ?_
    refine g_P (v := .int (57 : Int32)) (n := 2) M_185 q_185_7 rfl ?_
    refine g_icmp M_185 q_185_9 mjCi_gt (fun b2 => ?_) (fun b2 => ?_)
    · refine g_A (st1 := [.int (0 : Int32)]) M_185 q_185_16 rfl ?_
      refine g_ret (v := some (.int (0 : Int32))) M_185 q_185_17 (h_rtZ) ?_
      exact ⟨rfl, _, rfl, by omega⟩
    · refine g_A (st1 := [.int (1 : Int32)]) M_185 q_185_12 rfl ?_
      refine g_goto M_185 q_185_13 ?_
      refine g_ret (v := some (.int (1 : Int32))) M_185 q_185_17 (h_rtZ) ?_
      exact ⟨rfl, _, rfl, by omega⟩
theorem H_sign {sc : List Int32} {w : MjW} {k : Int32} (Tw : mjTyd m4S w) (hk : 0 ≤ k.toInt) : mjGo mjTb mjMt sc 0 182 (0, [some (.ref 240), some (.int k)], [], w) (fun r w1 => w1 = w ∧ ∃ u : Int32, r = some (.int u) ∧ (u.toInt = m4Sg w k.toInt ∧ 0 ≤ u.toInt ∧ u.toInt ≤ 255 ∧ ((m4X w 240 3).toInt ≤ k.toInt → u.toInt = 0))) := by
  have k_0 := c_0
  have k_255 := c_255
  refine g_L (v := .int k) (n := 1) M_182 q_182_0 rfl ?_
  refine g_L (v := .ref 240) (n := 1) M_182 q_182_1 rfl ?_
  have bw_240_3 := (fi_240_3 Tw).2
  refine h_get M_182 q_182_2 Tw ro_240 (by decide) kd_241 (fi_240_3 Tw).1 ?_
  refine g_icmp M_182 q_182_5 mjCi_ge (fun b1 => ?_) (fun b1 => ?_)
  · refine g_A (st1 := [.int (0 : Int32)]) M_182 q_182_21 rfl ?_
    refine g_ret (v := some (.int (0 : Int32))) M_182 q_182_22 (h_rtI) ?_
    exact ⟨rfl, _, rfl, by unfold m4Sg; rw [if_neg (by omega)]; rfl, by omega, by omega, fun _ => rfl⟩
  · refine g_L (v := .ref 240) (n := 1) M_182 q_182_8 rfl ?_
    refine h_get M_182 q_182_9 Tw ro_240 (by decide) kd_241 (fr_240_1 Tw) ?_
    refine g_L (v := .int k) (n := 1) M_182 q_182_12 rfl ?_
    have e2 := ar_243 Tw ro_242 (j := k.toInt.toNat) (by omega)
    refine h_bald (j := k.toInt.toNat) M_182 q_182_13 Tw ro_242 (by decide) kd_243 (by omega) e2.1 ?_
    refine g_P (v := .int (255 : Int32)) (n := 3) M_182 q_182_14 rfl ?_
    refine h_iand M_182 q_182_17 (by omega) (fun u3 hu3 hu3a hu3b => ?_)
    refine g_goto M_182 q_182_18 ?_
    refine g_ret (v := some (.int u3)) M_182 q_182_22 (h_rtI) ?_
    refine ⟨rfl, _, rfl, ?_, by omega, by omega, fun h => by omega⟩
    unfold m4Sg
    rw [if_pos (by omega), hu3]
