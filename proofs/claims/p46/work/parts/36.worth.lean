/-! ===== by hand ===== -/
theorem m4_same {w w1 : MjW} (h : mjKp m4S [] w w1) : w1 = w := by
  apply List.ext_getElem?
  intro a
  have h1 : (mjShp w1)[a]? = (mjShp w)[a]? := by rw [h.1]
  have hf : ∀ j, mjFld w1 a j = mjFld w a j := fun j => h.2 a j rfl
  unfold mjShp at h1
  rw [List.getElem?_map, List.getElem?_map] at h1
  unfold mjFld at hf
  cases e1 : w1[a]? with
  | none => cases e2 : w[a]? with
    | none => rfl
    | some c => rw [e1, e2] at h1; cases h1
  | some c1 => cases e2 : w[a]? with
    | none => rw [e1, e2] at h1; cases h1
    | some c =>
      rw [e1, e2] at h1 hf
      obtain ⟨k1, v1⟩ := c1
      obtain ⟨k, v⟩ := c
      simp only [Option.map_some, Option.some.injEq, Prod.mk.injEq] at h1
      have : v1 = v := List.ext_getElem? hf
      rw [this, h1.1]
theorem m4_true : mjUok m4S m4U (fun _ => True) := ⟨m4Un_ok, m4Gq_ok, fun _ _ _ _ _ _ _ _ _ _ => trivial, fun _ _ _ _ _ _ _ _ _ => trivial⟩
theorem mjHp_true : mjHp (fun _ => True) := fun e he => (by cases he)
/-- a call that changes nothing, whose answer is an int -/
theorem h_pure {sc : List Int32} {d y pc : Nat} {ls : MjL} {st : List Value} {w : MjW} {P : Option Value → MjW → Prop} {M : MjM} {inf : List Nat} {ins : Instr} {len : Nat} {y1 : Nat} {as rest : List Value} {M1 : MjM} {sm : MjSm} {lo hi : Int} (hM : mjMt y = some M) (hq : mjTb y pc = some (ins, len, 6, inf)) (hC : mjC ins inf st w = some (y1, as, rest)) (hM1 : mjMt y1 = some M1) (hl : (mjEnc as).length ≤ M1.2.2.1) (hy : 0 < y1) (hd : sm.2.2.2.2 ≤ d) (ctr : mjCtr m4S (fun _ => True) y1 sm) (hT : mjTyd m4S w) (ha : mjArgs m4S as sm.1) (hf : sm.2.1 = []) (hm : sm.2.2.2.1 = []) (ho : sm.2.2.1 = [((0, lo, hi, 0, 0), [], [])]) (kk : ∀ u : Int32, lo ≤ u.toInt → u.toInt ≤ hi → mjGo mjTb mjMt sc (d + 1) y (pc + 3, ls, .int u :: rest, w) P) : mjGo mjTb mjMt sc (d + 1) y (pc, ls, st, w) P := by
  refine h_ctr hM hq hC hM1 hl hy hd ctr ⟨hT, trivial⟩ ha (fun q hq => by rw [hf] at hq; cases hq) (fun r w1 hp => ?_)
  obtain ⟨-, kp, o, ho1, hr, -, -⟩ := hp
  rw [hm] at kp
  have e := m4_same kp
  subst e
  rw [ho] at ho1
  rcases List.mem_cons.mp ho1 with e | e
  · subst e
    unfold mjRs at hr
    rw [if_neg (show ¬ (0 : Nat) = 7 by decide)] at hr
    obtain ⟨v, rfl, x, rfl, h1, h2⟩ := hr
    exact kk x h1 h2
  · cases e
theorem H_wo1 {sc : List Int32} {d : Nat} {P : Option Value → MjW → Prop} {f K N T : Nat} (hx : m4Fx f K N T) (hd : 1 ≤ d) (n : Nat) : ∀ (w : MjW) (top i : Int32) (l4 : Option Value), mjTyd m4S w → m4F w f K N T → 0 ≤ top.toInt → top.toInt ≤ 30 → 0 ≤ i.toInt → 271 - i.toInt ≤ (n : Int) → (∀ (w1 : MjW) (v : Int32), mjTyd m4S w1 → mjKp m4S [(14, 255)] w w1 → P (some (.int v)) w1) → mjGo mjTb mjMt sc (d + 1) 77 (26, [some (.ref f), some (.ref 214), some (.int top), some (.int i), l4], [], w) P := by
  obtain ⟨hf0, hK, hN, hTT⟩ := m4Fx_ro hx
  obtain ⟨n1, n2, n3, n4, n5, n6⟩ := m4Fx_ne hx
  induction n with
  | zero =>
    intro w top i l4 Tw hF h1 h2 h3 h4 k
    obtain ⟨F0w, F1w, F2w, F3w⟩ := id hF
    have k_0 := c_0
    refine g_L (v := .int i) (n := 1) M_77 q_77_26 rfl ?_
    refine g_L (v := .ref f) (n := 1) M_77 q_77_27 rfl ?_
    have bw_f_3 := (fj_11_3 hf0 Tw).2
    refine h_get M_77 q_77_28 Tw hf0 (by decide) kd_11 (fj_11_3 hf0 Tw).1 ?_
    refine g_icmp M_77 q_77_31 mjCi_ge (fun b1 => ?_) (fun b1 => ?_)
    · refine g_L (v := .ref f) (n := 1) M_77 q_77_171 rfl ?_
      refine h_get M_77 q_77_172 Tw hf0 (by decide) kd_11 (F2w) ?_
      refine g_A (st1 := [.int (0 : Int32), .ref T]) M_77 q_77_175 rfl ?_
      have e2 := ar_14 Tw hTT (j := 0) (by omega)
      refine h_ald (j := 0) M_77 q_77_176 Tw hTT (by decide) kd_14 (by omega) e2.1 ?_
      refine g_ret (v := some (.int (m4X w T 0))) M_77 q_77_177 (h_rtI) ?_
      exact k w _ Tw mjKp.refl
    · exfalso; omega
  | succ n ih =>
    intro w top i l4 Tw hF h1 h2 h3 h4 k
    obtain ⟨F0w, F1w, F2w, F3w⟩ := id hF
    have k_0 := c_0
    have k_1 := c_1
    have k_2 := c_2
    have k_30 := c_30
    refine g_L (v := .int i) (n := 1) M_77 q_77_26 rfl ?_
    refine g_L (v := .ref f) (n := 1) M_77 q_77_27 rfl ?_
    have bw_f_3 := (fj_11_3 hf0 Tw).2
    refine h_get M_77 q_77_28 Tw hf0 (by decide) kd_11 (fj_11_3 hf0 Tw).1 ?_
    refine g_icmp M_77 q_77_31 mjCi_ge (fun b1 => ?_) (fun b1 => ?_)
    · refine g_L (v := .ref f) (n := 1) M_77 q_77_171 rfl ?_
      refine h_get M_77 q_77_172 Tw hf0 (by decide) kd_11 (F2w) ?_
      refine g_A (st1 := [.int (0 : Int32), .ref T]) M_77 q_77_175 rfl ?_
      have e2 := ar_14 Tw hTT (j := 0) (by omega)
      refine h_ald (j := 0) M_77 q_77_176 Tw hTT (by decide) kd_14 (by omega) e2.1 ?_
      refine g_ret (v := some (.int (m4X w T 0))) M_77 q_77_177 (h_rtI) ?_
      exact k w _ Tw mjKp.refl
    · refine g_L (v := .ref f) (n := 1) M_77 q_77_34 rfl ?_
      refine h_get M_77 q_77_35 Tw hf0 (by decide) kd_11 (F0w) ?_
      refine g_L (v := .int i) (n := 1) M_77 q_77_38 rfl ?_
      have e3 := ar_12 Tw hK (j := i.toInt.toNat) (by omega)
      refine h_ald (j := i.toInt.toNat) M_77 q_77_39 Tw hK (by decide) kd_12 (by omega) e3.1 ?_
      refine g_S (ls1 := [some (.ref f), some (.ref 214), some (.int top), some (.int i), some (.int (m4X w K (i.toInt.toNat)))]) (st1 := []) (n := 2) M_77 q_77_40 rfl ?_
      refine g_L (v := .int (m4X w K (i.toInt.toNat))) (n := 2) M_77 q_77_42 rfl ?_
      refine g_if M_77 q_77_44 mjCz_eq (fun b4 => ?_) (fun b4 => ?_)
      · refine g_L (v := .int top) (n := 1) M_77 q_77_53 rfl ?_
        refine g_P (v := .int (30 : Int32)) (n := 2) M_77 q_77_54 rfl ?_
        refine g_icmp M_77 q_77_56 mjCi_ge (fun b5 => ?_) (fun b5 => ?_)
        · refine h_inc (x := i) M_77 q_77_165 rfl rfl (by omega) (by omega) rfl (fun u6 hu6 => ?_)
          show mjGo mjTb mjMt sc _ 77 (168, [some (.ref f), some (.ref 214), some (.int top), some (.int u6), some (.int (m4X w K (i.toInt.toNat)))], [], w) _
          refine g_goto M_77 q_77_168 ?_
          exact ih w top u6 _ Tw hF (by omega) (by omega) (by omega) (by omega) k
        · refine g_L (v := .ref f) (n := 1) M_77 q_77_59 rfl ?_
          refine h_get M_77 q_77_60 Tw hf0 (by decide) kd_11 (F2w) ?_
          refine g_L (v := .int top) (n := 1) M_77 q_77_63 rfl ?_
          refine g_L (v := .int (m4X w K (i.toInt.toNat))) (n := 2) M_77 q_77_64 rfl ?_
          refine g_if M_77 q_77_66 mjCz_ne (fun b7 => ?_) (fun b7 => ?_)
          · refine g_L (v := .ref 214) (n := 1) M_77 q_77_78 rfl ?_
            refine g_L (v := .ref f) (n := 1) M_77 q_77_79 rfl ?_
            refine h_get M_77 q_77_80 Tw hf0 (by decide) kd_11 (F1w) ?_
            refine g_L (v := .int i) (n := 1) M_77 q_77_83 rfl ?_
            have e8 := ar_13 Tw hN (j := i.toInt.toNat) (by omega)
            refine h_ald (j := i.toInt.toNat) M_77 q_77_84 Tw hN (by decide) kd_13 (by omega) e8.1 ?_
            have hn := F3w i.toInt.toNat
            have e9 := ar_215 Tw ro_214 (j := (m4X w N (i.toInt.toNat)).toInt.toNat) (by omega)
            refine h_ald (j := (m4X w N (i.toInt.toNat)).toInt.toNat) M_77 q_77_85 Tw ro_214 (by decide) kd_215 (by omega) e9.1 ?_
            refine h_ast (j := top.toInt.toNat) M_77 q_77_86 Tw hTT (by decide) kd_14 ln_14 (by omega) (by omega) (m4_hasI (ta_14 _) (mjB.all _).1 (mjB.all _).2) (fun w10 Tw10 Uw10 => ?_)
            have tw10_T_x := Uw10.at
            have F0w10 := (Uw10.fld (b := f) (j := 0) (Or.inl (by omega))).trans F0w
            have F1w10 := (Uw10.fld (b := f) (j := 1) (Or.inl (by omega))).trans F1w
            have F2w10 := (Uw10.fld (b := f) (j := 2) (Or.inl (by omega))).trans F2w
            refine h_inc (x := top) M_77 q_77_87 rfl rfl (by omega) (by omega) rfl (fun u11 hu11 => ?_)
            show mjGo mjTb mjMt sc _ 77 (90, [some (.ref f), some (.ref 214), some (.int u11), some (.int i), some (.int (m4X w K (i.toInt.toNat)))], [], w10) _
            refine g_goto M_77 q_77_90 ?_
            refine h_inc (x := i) M_77 q_77_165 rfl rfl (by omega) (by omega) rfl (fun u12 hu12 => ?_)
            show mjGo mjTb mjMt sc _ 77 (168, [some (.ref f), some (.ref 214), some (.int u11), some (.int u12), some (.int (m4X w K (i.toInt.toNat)))], [], w10) _
            refine g_goto M_77 q_77_168 ?_
            have kp : mjKp m4S [(14, 255)] w w10 := Uw10.kp hTT rfl
            refine ih w10 u11 u12 _ Tw10 (m4F_ag hF (fun j _ => Uw10.fld (Or.inl n3)) (fun j => Uw10.X (Or.inl n5)) (fun j => Uw10.X (Or.inl n6))) (by omega) (by omega) (by omega) (by omega) (fun w9 v9 T9 k9 => k w9 v9 T9 (kp.trans k9))
          · refine g_L (v := .ref f) (n := 1) M_77 q_77_69 rfl ?_
            refine h_get M_77 q_77_70 Tw hf0 (by decide) kd_11 (F1w) ?_
            refine g_L (v := .int i) (n := 1) M_77 q_77_73 rfl ?_
            have e13 := ar_13 Tw hN (j := i.toInt.toNat) (by omega)
            refine h_ald (j := i.toInt.toNat) M_77 q_77_74 Tw hN (by decide) kd_13 (by omega) e13.1 ?_
            refine g_goto M_77 q_77_75 ?_
            refine h_ast (j := top.toInt.toNat) M_77 q_77_86 Tw hTT (by decide) kd_14 ln_14 (by omega) (by omega) (m4_hasI (ta_14 _) (mjB.all _).1 (mjB.all _).2) (fun w14 Tw14 Uw14 => ?_)
            have tw14_T_x := Uw14.at
            have F0w14 := (Uw14.fld (b := f) (j := 0) (Or.inl (by omega))).trans F0w
            have F1w14 := (Uw14.fld (b := f) (j := 1) (Or.inl (by omega))).trans F1w
            have F2w14 := (Uw14.fld (b := f) (j := 2) (Or.inl (by omega))).trans F2w
            refine h_inc (x := top) M_77 q_77_87 rfl rfl (by omega) (by omega) rfl (fun u15 hu15 => ?_)
            show mjGo mjTb mjMt sc _ 77 (90, [some (.ref f), some (.ref 214), some (.int u15), some (.int i), some (.int (m4X w K (i.toInt.toNat)))], [], w14) _
            refine g_goto M_77 q_77_90 ?_
            refine h_inc (x := i) M_77 q_77_165 rfl rfl (by omega) (by omega) rfl (fun u16 hu16 => ?_)
            show mjGo mjTb mjMt sc _ 77 (168, [some (.ref f), some (.ref 214), some (.int u15), some (.int u16), some (.int (m4X w K (i.toInt.toNat)))], [], w14) _
            refine g_goto M_77 q_77_168 ?_
            have kp : mjKp m4S [(14, 255)] w w14 := Uw14.kp hTT rfl
            refine ih w14 u15 u16 _ Tw14 (m4F_ag hF (fun j _ => Uw14.fld (Or.inl n3)) (fun j => Uw14.X (Or.inl n5)) (fun j => Uw14.X (Or.inl n6))) (by omega) (by omega) (by omega) (by omega) (fun w9 v9 T9 k9 => k w9 v9 T9 (kp.trans k9))
      · refine g_L (v := .int (m4X w K (i.toInt.toNat))) (n := 2) M_77 q_77_47 rfl ?_
        refine g_A (st1 := [.int (1 : Int32), .int (m4X w K (i.toInt.toNat))]) M_77 q_77_49 rfl ?_
        refine g_icmp M_77 q_77_50 mjCi_ne (fun b17 => ?_) (fun b17 => ?_)
        · refine g_L (v := .int (m4X w K (i.toInt.toNat))) (n := 2) M_77 q_77_93 rfl ?_
          refine g_A (st1 := [.int (2 : Int32), .int (m4X w K (i.toInt.toNat))]) M_77 q_77_95 rfl ?_
          refine g_icmp M_77 q_77_96 mjCi_ne (fun b18 => ?_) (fun b18 => ?_)
          · refine g_L (v := .int top) (n := 1) M_77 q_77_130 rfl ?_
            refine g_A (st1 := [.int (1 : Int32), .int top]) M_77 q_77_131 rfl ?_
            refine g_icmp M_77 q_77_132 mjCi_le (fun b19 => ?_) (fun b19 => ?_)
            · refine h_inc (x := i) M_77 q_77_165 rfl rfl (by omega) (by omega) rfl (fun u20 hu20 => ?_)
              show mjGo mjTb mjMt sc _ 77 (168, [some (.ref f), some (.ref 214), some (.int top), some (.int u20), some (.int (m4X w K (i.toInt.toNat)))], [], w) _
              refine g_goto M_77 q_77_168 ?_
              exact ih w top u20 _ Tw hF (by omega) (by omega) (by omega) (by omega) k
            · refine h_inc (x := top) M_77 q_77_135 rfl rfl (by omega) (by omega) rfl (fun u21 hu21 => ?_)
              show mjGo mjTb mjMt sc _ 77 (138, [some (.ref f), some (.ref 214), some (.int u21), some (.int i), some (.int (m4X w K (i.toInt.toNat)))], [], w) _
              refine g_L (v := .ref f) (n := 1) M_77 q_77_138 rfl ?_
              refine h_get M_77 q_77_139 Tw hf0 (by decide) kd_11 (F2w) ?_
              refine g_L (v := .int u21) (n := 1) M_77 q_77_142 rfl ?_
              refine g_A (st1 := [.int (1 : Int32), .int u21, .ref T]) M_77 q_77_143 rfl ?_
              refine h_isub M_77 q_77_144 (by omega) (by omega) (fun u22 hu22 => ?_)
              refine g_L (v := .int (m4X w K (i.toInt.toNat))) (n := 2) M_77 q_77_145 rfl ?_
              refine g_L (v := .ref f) (n := 1) M_77 q_77_147 rfl ?_
              refine h_get M_77 q_77_148 Tw hf0 (by decide) kd_11 (F2w) ?_
              refine g_L (v := .int u21) (n := 1) M_77 q_77_151 rfl ?_
              refine g_A (st1 := [.int (1 : Int32), .int u21, .ref T, .int (m4X w K (i.toInt.toNat)), .int u22, .ref T]) M_77 q_77_152 rfl ?_
              refine h_isub M_77 q_77_153 (by omega) (by omega) (fun u23 hu23 => ?_)
              have e24 := ar_14 Tw hTT (j := u23.toInt.toNat) (by omega)
              refine h_ald (j := u23.toInt.toNat) M_77 q_77_154 Tw hTT (by decide) kd_14 (by omega) e24.1 ?_
              refine g_L (v := .ref f) (n := 1) M_77 q_77_155 rfl ?_
              refine h_get M_77 q_77_156 Tw hf0 (by decide) kd_11 (F2w) ?_
              refine g_L (v := .int u21) (n := 1) M_77 q_77_159 rfl ?_
              have e25 := ar_14 Tw hTT (j := u21.toInt.toNat) (by omega)
              refine h_ald (j := u21.toInt.toNat) M_77 q_77_160 Tw hTT (by decide) kd_14 (by omega) e25.1 ?_
              refine h_pure (lo := -2147483648) (hi := 2147483647) (as := [.int (m4X w K (i.toInt.toNat)), .int (m4X w T (u23.toInt.toNat)), .int (m4X w T (u21.toInt.toNat))]) (rest := [.int u22, .ref T]) (M1 := mjM_78) M_77 q_77_161 rfl rfl (show 3 ≤ 3 by decide) (by decide) hd (mjC_p_0 m4_true mjHp_true) Tw ⟨⟨_, rfl, mjB.all _⟩, ⟨_, rfl, mjB.all _⟩, ⟨_, rfl, mjB.all _⟩, trivial⟩ rfl rfl rfl (fun u26 hu26 hu26a => ?_)
              refine h_ast (j := u22.toInt.toNat) M_77 q_77_164 Tw hTT (by decide) kd_14 ln_14 (by omega) (by omega) (m4_hasI (ta_14 _) (mjB.all _).1 (mjB.all _).2) (fun w27 Tw27 Uw27 => ?_)
              have tw27_T_x := Uw27.at
              have F0w27 := (Uw27.fld (b := f) (j := 0) (Or.inl (by omega))).trans F0w
              have F1w27 := (Uw27.fld (b := f) (j := 1) (Or.inl (by omega))).trans F1w
              have F2w27 := (Uw27.fld (b := f) (j := 2) (Or.inl (by omega))).trans F2w
              refine h_inc (x := i) M_77 q_77_165 rfl rfl (by omega) (by omega) rfl (fun u28 hu28 => ?_)
              show mjGo mjTb mjMt sc _ 77 (168, [some (.ref f), some (.ref 214), some (.int u21), some (.int u28), some (.int (m4X w K (i.toInt.toNat)))], [], w27) _
              refine g_goto M_77 q_77_168 ?_
              have kp : mjKp m4S [(14, 255)] w w27 := Uw27.kp hTT rfl
              refine ih w27 u21 u28 _ Tw27 (m4F_ag hF (fun j _ => Uw27.fld (Or.inl n3)) (fun j => Uw27.X (Or.inl n5)) (fun j => Uw27.X (Or.inl n6))) (by omega) (by omega) (by omega) (by omega) (fun w9 v9 T9 k9 => k w9 v9 T9 (kp.trans k9))
          · refine g_L (v := .int top) (n := 1) M_77 q_77_99 rfl ?_
            refine g_if M_77 q_77_100 mjCz_le (fun b29 => ?_) (fun b29 => ?_)
            · refine g_L (v := .int top) (n := 1) M_77 q_77_130 rfl ?_
              refine g_A (st1 := [.int (1 : Int32), .int top]) M_77 q_77_131 rfl ?_
              refine g_icmp M_77 q_77_132 mjCi_le (fun b30 => ?_) (fun b30 => ?_)
              · refine h_inc (x := i) M_77 q_77_165 rfl rfl (by omega) (by omega) rfl (fun u31 hu31 => ?_)
                show mjGo mjTb mjMt sc _ 77 (168, [some (.ref f), some (.ref 214), some (.int top), some (.int u31), some (.int (m4X w K (i.toInt.toNat)))], [], w) _
                refine g_goto M_77 q_77_168 ?_
                exact ih w top u31 _ Tw hF (by omega) (by omega) (by omega) (by omega) k
              · refine h_inc (x := top) M_77 q_77_135 rfl rfl (by omega) (by omega) rfl (fun u32 hu32 => ?_)
                show mjGo mjTb mjMt sc _ 77 (138, [some (.ref f), some (.ref 214), some (.int u32), some (.int i), some (.int (m4X w K (i.toInt.toNat)))], [], w) _
                refine g_L (v := .ref f) (n := 1) M_77 q_77_138 rfl ?_
                refine h_get M_77 q_77_139 Tw hf0 (by decide) kd_11 (F2w) ?_
                refine g_L (v := .int u32) (n := 1) M_77 q_77_142 rfl ?_
                refine g_A (st1 := [.int (1 : Int32), .int u32, .ref T]) M_77 q_77_143 rfl ?_
                refine h_isub M_77 q_77_144 (by omega) (by omega) (fun u33 hu33 => ?_)
                refine g_L (v := .int (m4X w K (i.toInt.toNat))) (n := 2) M_77 q_77_145 rfl ?_
                refine g_L (v := .ref f) (n := 1) M_77 q_77_147 rfl ?_
                refine h_get M_77 q_77_148 Tw hf0 (by decide) kd_11 (F2w) ?_
                refine g_L (v := .int u32) (n := 1) M_77 q_77_151 rfl ?_
                refine g_A (st1 := [.int (1 : Int32), .int u32, .ref T, .int (m4X w K (i.toInt.toNat)), .int u33, .ref T]) M_77 q_77_152 rfl ?_
                refine h_isub M_77 q_77_153 (by omega) (by omega) (fun u34 hu34 => ?_)
                have e35 := ar_14 Tw hTT (j := u34.toInt.toNat) (by omega)
                refine h_ald (j := u34.toInt.toNat) M_77 q_77_154 Tw hTT (by decide) kd_14 (by omega) e35.1 ?_
                refine g_L (v := .ref f) (n := 1) M_77 q_77_155 rfl ?_
                refine h_get M_77 q_77_156 Tw hf0 (by decide) kd_11 (F2w) ?_
                refine g_L (v := .int u32) (n := 1) M_77 q_77_159 rfl ?_
                have e36 := ar_14 Tw hTT (j := u32.toInt.toNat) (by omega)
                refine h_ald (j := u32.toInt.toNat) M_77 q_77_160 Tw hTT (by decide) kd_14 (by omega) e36.1 ?_
                refine h_pure (lo := -2147483648) (hi := 2147483647) (as := [.int (m4X w K (i.toInt.toNat)), .int (m4X w T (u34.toInt.toNat)), .int (m4X w T (u32.toInt.toNat))]) (rest := [.int u33, .ref T]) (M1 := mjM_78) M_77 q_77_161 rfl rfl (show 3 ≤ 3 by decide) (by decide) hd (mjC_p_0 m4_true mjHp_true) Tw ⟨⟨_, rfl, mjB.all _⟩, ⟨_, rfl, mjB.all _⟩, ⟨_, rfl, mjB.all _⟩, trivial⟩ rfl rfl rfl (fun u37 hu37 hu37a => ?_)
                refine h_ast (j := u33.toInt.toNat) M_77 q_77_164 Tw hTT (by decide) kd_14 ln_14 (by omega) (by omega) (m4_hasI (ta_14 _) (mjB.all _).1 (mjB.all _).2) (fun w38 Tw38 Uw38 => ?_)
                have tw38_T_x := Uw38.at
                have F0w38 := (Uw38.fld (b := f) (j := 0) (Or.inl (by omega))).trans F0w
                have F1w38 := (Uw38.fld (b := f) (j := 1) (Or.inl (by omega))).trans F1w
                have F2w38 := (Uw38.fld (b := f) (j := 2) (Or.inl (by omega))).trans F2w
                refine h_inc (x := i) M_77 q_77_165 rfl rfl (by omega) (by omega) rfl (fun u39 hu39 => ?_)
                show mjGo mjTb mjMt sc _ 77 (168, [some (.ref f), some (.ref 214), some (.int u32), some (.int u39), some (.int (m4X w K (i.toInt.toNat)))], [], w38) _
                refine g_goto M_77 q_77_168 ?_
                have kp : mjKp m4S [(14, 255)] w w38 := Uw38.kp hTT rfl
                refine ih w38 u32 u39 _ Tw38 (m4F_ag hF (fun j _ => Uw38.fld (Or.inl n3)) (fun j => Uw38.X (Or.inl n5)) (fun j => Uw38.X (Or.inl n6))) (by omega) (by omega) (by omega) (by omega) (fun w9 v9 T9 k9 => k w9 v9 T9 (kp.trans k9))
            · refine g_L (v := .ref f) (n := 1) M_77 q_77_103 rfl ?_
              refine h_get M_77 q_77_104 Tw hf0 (by decide) kd_11 (F2w) ?_
              refine g_L (v := .int top) (n := 1) M_77 q_77_107 rfl ?_
              refine g_A (st1 := [.int (1 : Int32), .int top, .ref T]) M_77 q_77_108 rfl ?_
              refine h_isub M_77 q_77_109 (by omega) (by omega) (fun u40 hu40 => ?_)
              refine g_L (v := .ref f) (n := 1) M_77 q_77_110 rfl ?_
              refine h_get M_77 q_77_111 Tw hf0 (by decide) kd_11 (F2w) ?_
              refine g_L (v := .int top) (n := 1) M_77 q_77_114 rfl ?_
              refine g_A (st1 := [.int (1 : Int32), .int top, .ref T, .int u40, .ref T]) M_77 q_77_115 rfl ?_
              refine h_isub M_77 q_77_116 (by omega) (by omega) (fun u41 hu41 => ?_)
              have e42 := ar_14 Tw hTT (j := u41.toInt.toNat) (by omega)
              refine h_ald (j := u41.toInt.toNat) M_77 q_77_117 Tw hTT (by decide) kd_14 (by omega) e42.1 ?_
              refine g_if M_77 q_77_118 mjCz_ne (fun b43 => ?_) (fun b43 => ?_)
              · refine g_A (st1 := [.int (0 : Int32), .int u40, .ref T]) M_77 q_77_125 rfl ?_
                refine h_ast (j := u40.toInt.toNat) M_77 q_77_126 Tw hTT (by decide) kd_14 ln_14 (by omega) (by omega) (m4_hasI (ta_14 _) (mjB.all _).1 (mjB.all _).2) (fun w44 Tw44 Uw44 => ?_)
                have tw44_T_x := Uw44.at
                have F0w44 := (Uw44.fld (b := f) (j := 0) (Or.inl (by omega))).trans F0w
                have F1w44 := (Uw44.fld (b := f) (j := 1) (Or.inl (by omega))).trans F1w
                have F2w44 := (Uw44.fld (b := f) (j := 2) (Or.inl (by omega))).trans F2w
                refine g_goto M_77 q_77_127 ?_
                refine h_inc (x := i) M_77 q_77_165 rfl rfl (by omega) (by omega) rfl (fun u45 hu45 => ?_)
                show mjGo mjTb mjMt sc _ 77 (168, [some (.ref f), some (.ref 214), some (.int top), some (.int u45), some (.int (m4X w K (i.toInt.toNat)))], [], w44) _
                refine g_goto M_77 q_77_168 ?_
                have kp : mjKp m4S [(14, 255)] w w44 := Uw44.kp hTT rfl
                refine ih w44 top u45 _ Tw44 (m4F_ag hF (fun j _ => Uw44.fld (Or.inl n3)) (fun j => Uw44.X (Or.inl n5)) (fun j => Uw44.X (Or.inl n6))) (by omega) (by omega) (by omega) (by omega) (fun w9 v9 T9 k9 => k w9 v9 T9 (kp.trans k9))
              · refine g_A (st1 := [.int (1 : Int32), .int u40, .ref T]) M_77 q_77_121 rfl ?_
                refine g_goto M_77 q_77_122 ?_
                refine h_ast (j := u40.toInt.toNat) M_77 q_77_126 Tw hTT (by decide) kd_14 ln_14 (by omega) (by omega) (m4_hasI (ta_14 _) (mjB.all _).1 (mjB.all _).2) (fun w46 Tw46 Uw46 => ?_)
                have tw46_T_x := Uw46.at
                have F0w46 := (Uw46.fld (b := f) (j := 0) (Or.inl (by omega))).trans F0w
                have F1w46 := (Uw46.fld (b := f) (j := 1) (Or.inl (by omega))).trans F1w
                have F2w46 := (Uw46.fld (b := f) (j := 2) (Or.inl (by omega))).trans F2w
                refine g_goto M_77 q_77_127 ?_
                refine h_inc (x := i) M_77 q_77_165 rfl rfl (by omega) (by omega) rfl (fun u47 hu47 => ?_)
                show mjGo mjTb mjMt sc _ 77 (168, [some (.ref f), some (.ref 214), some (.int top), some (.int u47), some (.int (m4X w K (i.toInt.toNat)))], [], w46) _
                refine g_goto M_77 q_77_168 ?_
                have kp : mjKp m4S [(14, 255)] w w46 := Uw46.kp hTT rfl
                refine ih w46 top u47 _ Tw46 (m4F_ag hF (fun j _ => Uw46.fld (Or.inl n3)) (fun j => Uw46.X (Or.inl n5)) (fun j => Uw46.X (Or.inl n6))) (by omega) (by omega) (by omega) (by omega) (fun w9 v9 T9 k9 => k w9 v9 T9 (kp.trans k9))
        · refine g_L (v := .int top) (n := 1) M_77 q_77_53 rfl ?_
          refine g_P (v := .int (30 : Int32)) (n := 2) M_77 q_77_54 rfl ?_
          refine g_icmp M_77 q_77_56 mjCi_ge (fun b48 => ?_) (fun b48 => ?_)
          · refine h_inc (x := i) M_77 q_77_165 rfl rfl (by omega) (by omega) rfl (fun u49 hu49 => ?_)
            show mjGo mjTb mjMt sc _ 77 (168, [some (.ref f), some (.ref 214), some (.int top), some (.int u49), some (.int (m4X w K (i.toInt.toNat)))], [], w) _
            refine g_goto M_77 q_77_168 ?_
            exact ih w top u49 _ Tw hF (by omega) (by omega) (by omega) (by omega) k
          · refine g_L (v := .ref f) (n := 1) M_77 q_77_59 rfl ?_
            refine h_get M_77 q_77_60 Tw hf0 (by decide) kd_11 (F2w) ?_
            refine g_L (v := .int top) (n := 1) M_77 q_77_63 rfl ?_
            refine g_L (v := .int (m4X w K (i.toInt.toNat))) (n := 2) M_77 q_77_64 rfl ?_
            refine g_if M_77 q_77_66 mjCz_ne (fun b50 => ?_) (fun b50 => ?_)
            · refine g_L (v := .ref 214) (n := 1) M_77 q_77_78 rfl ?_
              refine g_L (v := .ref f) (n := 1) M_77 q_77_79 rfl ?_
              refine h_get M_77 q_77_80 Tw hf0 (by decide) kd_11 (F1w) ?_
              refine g_L (v := .int i) (n := 1) M_77 q_77_83 rfl ?_
              have e51 := ar_13 Tw hN (j := i.toInt.toNat) (by omega)
              refine h_ald (j := i.toInt.toNat) M_77 q_77_84 Tw hN (by decide) kd_13 (by omega) e51.1 ?_
              have hn := F3w i.toInt.toNat
              have e52 := ar_215 Tw ro_214 (j := (m4X w N (i.toInt.toNat)).toInt.toNat) (by omega)
              refine h_ald (j := (m4X w N (i.toInt.toNat)).toInt.toNat) M_77 q_77_85 Tw ro_214 (by decide) kd_215 (by omega) e52.1 ?_
              refine h_ast (j := top.toInt.toNat) M_77 q_77_86 Tw hTT (by decide) kd_14 ln_14 (by omega) (by omega) (m4_hasI (ta_14 _) (mjB.all _).1 (mjB.all _).2) (fun w53 Tw53 Uw53 => ?_)
              have tw53_T_x := Uw53.at
              have F0w53 := (Uw53.fld (b := f) (j := 0) (Or.inl (by omega))).trans F0w
              have F1w53 := (Uw53.fld (b := f) (j := 1) (Or.inl (by omega))).trans F1w
              have F2w53 := (Uw53.fld (b := f) (j := 2) (Or.inl (by omega))).trans F2w
              refine h_inc (x := top) M_77 q_77_87 rfl rfl (by omega) (by omega) rfl (fun u54 hu54 => ?_)
              show mjGo mjTb mjMt sc _ 77 (90, [some (.ref f), some (.ref 214), some (.int u54), some (.int i), some (.int (m4X w K (i.toInt.toNat)))], [], w53) _
              refine g_goto M_77 q_77_90 ?_
              refine h_inc (x := i) M_77 q_77_165 rfl rfl (by omega) (by omega) rfl (fun u55 hu55 => ?_)
              show mjGo mjTb mjMt sc _ 77 (168, [some (.ref f), some (.ref 214), some (.int u54), some (.int u55), some (.int (m4X w K (i.toInt.toNat)))], [], w53) _
              refine g_goto M_77 q_77_168 ?_
              have kp : mjKp m4S [(14, 255)] w w53 := Uw53.kp hTT rfl
              refine ih w53 u54 u55 _ Tw53 (m4F_ag hF (fun j _ => Uw53.fld (Or.inl n3)) (fun j => Uw53.X (Or.inl n5)) (fun j => Uw53.X (Or.inl n6))) (by omega) (by omega) (by omega) (by omega) (fun w9 v9 T9 k9 => k w9 v9 T9 (kp.trans k9))
            · refine g_L (v := .ref f) (n := 1) M_77 q_77_69 rfl ?_
              refine h_get M_77 q_77_70 Tw hf0 (by decide) kd_11 (F1w) ?_
              refine g_L (v := .int i) (n := 1) M_77 q_77_73 rfl ?_
              have e56 := ar_13 Tw hN (j := i.toInt.toNat) (by omega)
              refine h_ald (j := i.toInt.toNat) M_77 q_77_74 Tw hN (by decide) kd_13 (by omega) e56.1 ?_
              refine g_goto M_77 q_77_75 ?_
              refine h_ast (j := top.toInt.toNat) M_77 q_77_86 Tw hTT (by decide) kd_14 ln_14 (by omega) (by omega) (m4_hasI (ta_14 _) (mjB.all _).1 (mjB.all _).2) (fun w57 Tw57 Uw57 => ?_)
              have tw57_T_x := Uw57.at
              have F0w57 := (Uw57.fld (b := f) (j := 0) (Or.inl (by omega))).trans F0w
              have F1w57 := (Uw57.fld (b := f) (j := 1) (Or.inl (by omega))).trans F1w
              have F2w57 := (Uw57.fld (b := f) (j := 2) (Or.inl (by omega))).trans F2w
              refine h_inc (x := top) M_77 q_77_87 rfl rfl (by omega) (by omega) rfl (fun u58 hu58 => ?_)
              show mjGo mjTb mjMt sc _ 77 (90, [some (.ref f), some (.ref 214), some (.int u58), some (.int i), some (.int (m4X w K (i.toInt.toNat)))], [], w57) _
              refine g_goto M_77 q_77_90 ?_
              refine h_inc (x := i) M_77 q_77_165 rfl rfl (by omega) (by omega) rfl (fun u59 hu59 => ?_)
              show mjGo mjTb mjMt sc _ 77 (168, [some (.ref f), some (.ref 214), some (.int u58), some (.int u59), some (.int (m4X w K (i.toInt.toNat)))], [], w57) _
              refine g_goto M_77 q_77_168 ?_
              have kp : mjKp m4S [(14, 255)] w w57 := Uw57.kp hTT rfl
              refine ih w57 u58 u59 _ Tw57 (m4F_ag hF (fun j _ => Uw57.fld (Or.inl n3)) (fun j => Uw57.X (Or.inl n5)) (fun j => Uw57.X (Or.inl n6))) (by omega) (by omega) (by omega) (by omega) (fun w9 v9 T9 k9 => k w9 v9 T9 (kp.trans k9))
theorem H_worth {t : Int} {sm : MjSm} (hs : sm = ([(2, 11, 11, 0, 0), (3, 214, 214, 0, 0)], [], [((0, -2147483648, 2147483647, 0, 0), [], [])], [(14, 255)], 2)) : mjCtr m4S (m4J t) 77 sm := by
  subst hs
  intro sc w as M hI ha hf hM
  cases (M_77).symm.trans hM
  obtain ⟨f, rfl, f1⟩ : ∃ f : Nat, as = [.ref f, .ref 214] ∧ (m4S.1 f : Int) = 11 := by
    match as, ha with
    | [_, _], ⟨⟨f, e0, f1⟩, ⟨a, e1, a1⟩, _⟩ => subst e0; subst e1; have : a = 214 := Int.ofNat.inj a1; subst this; exact ⟨f, rfl, f1⟩
  obtain ⟨K, N, T, hx⟩ := m4Fx_of f1
  have Tw := hI.1
  have hF := m4Fx_J hx hI.2
  obtain ⟨hf0, hK, hN, hTT⟩ := m4Fx_ro hx
  obtain ⟨F0w, F1w, F2w, F3w⟩ := id hF
  obtain ⟨-, -, -, j6, -⟩ := id hI.2
  show mjGo mjTb mjMt sc (1 + 1) 77 (0, [some (.ref f), some (.ref 214), none, none, none], [], w) _
  have k_0 := c_0
  have k_1 := c_1
  have k_2 := c_2
  have k_40 := c_40
  refine g_L (v := .ref f) (n := 1) M_77 q_77_0 rfl ?_
  have bw_f_4 := (fj_11_4 hf0 Tw).2
  refine h_get M_77 q_77_1 Tw hf0 (by decide) kd_11 (fj_11_4 hf0 Tw).1 ?_
  refine g_if M_77 q_77_4 mjCz_eq (fun b1 => ?_) (fun b1 => ?_)
  · refine g_A (st1 := [.int (0 : Int32)]) M_77 q_77_22 rfl ?_
    refine g_S (ls1 := [some (.ref f), some (.ref 214), some (.int (0 : Int32)), none, none]) (st1 := []) (n := 1) M_77 q_77_23 rfl ?_
    refine g_A (st1 := [.int (0 : Int32)]) M_77 q_77_24 rfl ?_
    refine g_S (ls1 := [some (.ref f), some (.ref 214), some (.int (0 : Int32)), some (.int (0 : Int32)), none]) (st1 := []) (n := 1) M_77 q_77_25 rfl ?_
    refine H_wo1 hx (by decide) 271 w (0 : Int32) (0 : Int32) none Tw hF (by decide) (by decide) (by decide) (by decide) (fun w1 v T1 k1 => ?_)
    exact m4_post rfl T1 (m4J_kp hI.2 k1 (by decide) (by rw [k1.X (a := 240) (k := 60) ro_240 rfl, k1.X (a := 240) (k := 61) ro_240 rfl]; exact j6)) k1 (m4_ri (mjB.all v).1 (mjB.all v).2)
  · refine g_L (v := .ref 214) (n := 1) M_77 q_77_7 rfl ?_
    refine g_A (st1 := [.int (0 : Int32), .ref 214]) M_77 q_77_8 rfl ?_
    have e2 := ar_215 Tw ro_214 (j := 0) (by omega)
    refine h_ald (j := 0) M_77 q_77_9 Tw ro_214 (by decide) kd_215 (by omega) e2.1 ?_
    refine g_L (v := .ref 214) (n := 1) M_77 q_77_10 rfl ?_
    refine g_A (st1 := [.int (1 : Int32), .ref 214, .int (m4X w 214 0)]) M_77 q_77_11 rfl ?_
    have e3 := ar_215 Tw ro_214 (j := 1) (by omega)
    refine h_ald (j := 1) M_77 q_77_12 Tw ro_214 (by decide) kd_215 (by omega) e3.1 ?_
    refine g_two M_77 q_77_13 rfl (fun u4 _ => ?_)
    refine g_L (v := .ref 214) (n := 1) M_77 q_77_14 rfl ?_
    refine g_A (st1 := [.int (2 : Int32), .ref 214, .int u4]) M_77 q_77_15 rfl ?_
    have e5 := ar_215 Tw ro_214 (j := 2) (by omega)
    refine h_ald (j := 2) M_77 q_77_16 Tw ro_214 (by decide) kd_215 (by omega) e5.1 ?_
    refine g_two M_77 q_77_17 rfl (fun u6 _ => ?_)
    refine g_P (v := .int (40 : Int32)) (n := 2) M_77 q_77_18 rfl ?_
    refine g_two M_77 q_77_20 rfl (fun u7 _ => ?_)
    refine g_ret (v := some (.int u7)) M_77 q_77_21 (h_rtI) ?_
    exact m4_post rfl hI.1 hI.2 mjKp.refl (m4_ri (mjB.all _).1 (mjB.all _).2)
