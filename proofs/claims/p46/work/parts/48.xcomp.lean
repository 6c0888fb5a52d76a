/-! ===== the parser, by hand ===== -/
theorem m4Rep_bot {w : MjW} : ∀ {T : List (Int × Int)}, m4Rep w (T ++ [(8, 0)]) → (m4X w 271 0).toInt = 8
  | [], h => h.1
  | _ :: _, h => m4Rep_bot h.2.2
theorem H_ic1 {sc : List Int32} {d : Nat} {P : Option Value → MjW → Prop} {w : MjW} (Tw : mjTyd m4S w) (h8 : (m4X w 271 0).toInt = 8) (K : ∀ u : Int32, 0 ≤ u.toInt → u.toInt ≤ 1 → P (some (.int u)) w) (n : Nat) : ∀ k : Int32, 0 ≤ k.toInt → k.toInt ≤ 89 → k.toInt < (n : Int) → mjGo mjTb mjMt sc d 215 (7, [some (.ref 240), some (.int k)], [], w) P := by
  induction n with
  | zero => intro k k0 k1 k2; omega
  | succ n ih =>
    intro k k0 k1 k2
    have hz : k.toInt = 0 → (m4X w 271 k.toInt.toNat).toInt = 8 := fun e => by rw [e]; exact h8
    have k_0 := c_0
    have k_1 := c_1
    have k_4 := c_4
    have k_5 := c_5
    have k_6 := c_6
    refine g_L (v := .ref 240) (n := 1) M_215 q_215_7 rfl ?_
    refine h_get M_215 q_215_8 Tw ro_240 (by decide) kd_241 (fr_240_39 Tw) ?_
    refine g_L (v := .int k) (n := 1) M_215 q_215_11 rfl ?_
    have e1 := ar_272 Tw ro_271 (j := k.toInt.toNat) (by omega)
    refine h_ald (j := k.toInt.toNat) M_215 q_215_12 Tw ro_271 (by decide) kd_272 (by omega) e1.1 ?_
    refine g_A (st1 := [.int (5 : Int32), .int (m4X w 271 (k.toInt.toNat))]) M_215 q_215_13 rfl ?_
    refine g_icmp M_215 q_215_14 mjCi_eq (fun b2 => ?_) (fun b2 => ?_)
    · refine h_inc (x := k) M_215 q_215_28 rfl rfl (by omega) (by omega) rfl (fun u3 hu3 => ?_)
      show mjGo mjTb mjMt sc _ 215 (31, [some (.ref 240), some (.int u3)], [], w) _
      refine g_goto M_215 q_215_31 ?_
      exact ih u3 (by omega) (by omega) (by omega)
    · refine g_L (v := .ref 240) (n := 1) M_215 q_215_17 rfl ?_
      refine h_get M_215 q_215_18 Tw ro_240 (by decide) kd_241 (fr_240_39 Tw) ?_
      refine g_L (v := .int k) (n := 1) M_215 q_215_21 rfl ?_
      have e4 := ar_272 Tw ro_271 (j := k.toInt.toNat) (by omega)
      refine h_ald (j := k.toInt.toNat) M_215 q_215_22 Tw ro_271 (by decide) kd_272 (by omega) e4.1 ?_
      refine g_P (v := .int (6 : Int32)) (n := 2) M_215 q_215_23 rfl ?_
      refine g_icmp M_215 q_215_25 mjCi_ne (fun b5 => ?_) (fun b5 => ?_)
      · refine g_L (v := .ref 240) (n := 1) M_215 q_215_34 rfl ?_
        refine h_get M_215 q_215_35 Tw ro_240 (by decide) kd_241 (fr_240_39 Tw) ?_
        refine g_L (v := .int k) (n := 1) M_215 q_215_38 rfl ?_
        have e6 := ar_272 Tw ro_271 (j := k.toInt.toNat) (by omega)
        refine h_ald (j := k.toInt.toNat) M_215 q_215_39 Tw ro_271 (by decide) kd_272 (by omega) e6.1 ?_
        refine g_A (st1 := [.int (4 : Int32), .int (m4X w 271 (k.toInt.toNat))]) M_215 q_215_40 rfl ?_
        refine g_icmp M_215 q_215_41 mjCi_ne (fun b7 => ?_) (fun b7 => ?_)
        · refine g_A (st1 := [.int (0 : Int32)]) M_215 q_215_48 rfl ?_
          refine g_ret (v := some (.int (0 : Int32))) M_215 q_215_49 (h_rtZ) ?_
          exact K _ (by omega) (by omega)
        · refine g_A (st1 := [.int (1 : Int32)]) M_215 q_215_44 rfl ?_
          refine g_goto M_215 q_215_45 ?_
          refine g_ret (v := some (.int (1 : Int32))) M_215 q_215_49 (h_rtZ) ?_
          exact K _ (by omega) (by omega)
      · refine h_inc (x := k) M_215 q_215_28 rfl rfl (by omega) (by omega) rfl (fun u8 hu8 => ?_)
        show mjGo mjTb mjMt sc _ 215 (31, [some (.ref 240), some (.int u8)], [], w) _
        refine g_goto M_215 q_215_31 ?_
        exact ih u8 (by omega) (by omega) (by omega)
theorem H_isCompared {sc : List Int32} {w : MjW} (Tw : mjTyd m4S w) (h8 : (m4X w 271 0).toInt = 8) (hp : 1 ≤ (m4X w 240 46).toInt) : mjGo mjTb mjMt sc 0 215 (0, [some (.ref 240), none], [], w) (fun r w1 => w1 = w ∧ ∃ u : Int32, r = some (.int u) ∧ (0 ≤ u.toInt ∧ u.toInt ≤ 1)) := by
  have k_1 := c_1
  refine g_L (v := .ref 240) (n := 1) M_215 q_215_0 rfl ?_
  have bw_240_46 := (fi_240_46 Tw).2
  refine h_get M_215 q_215_1 Tw ro_240 (by decide) kd_241 (fi_240_46 Tw).1 ?_
  refine g_A (st1 := [.int (1 : Int32), .int (m4X w 240 46)]) M_215 q_215_4 rfl ?_
  refine h_isub M_215 q_215_5 (by omega) (by omega) (fun u1 hu1 => ?_)
  refine g_S (ls1 := [some (.ref 240), some (.int u1)]) (st1 := []) (n := 1) M_215 q_215_6 rfl ?_
  exact H_ic1 Tw h8 (fun u u0 u1 => ⟨rfl, u, rfl, u0, u1⟩) 90 _ (by omega) (by omega) (by omega)
