/-! ===== the parser, by hand ===== -/
theorem H_un3 {sc : List Int32} {b : Nat} {fr : Int} {T : List (Int × Int)} {w : MjW} {bg nt br c fl : Int32} {l6 : Option Value} (h : m4IE b fr T true w) (hg : (m4X w 240 4).toInt = 0) (n0 : 0 ≤ nt.toInt) (n1 : nt.toInt ≤ 1) (b0 : 0 ≤ br.toInt) (b1 : br.toInt ≤ 1) (htk : (m4X w 240 8).toInt ≠ 0) (hn : nt.toInt = 0 → (m4X w 240 47).toInt ≠ 30) (hw : nt.toInt = 1 ∨ br.toInt = 1 → (m4X w 240 45).toInt ≠ 7) (hc : c.toInt = 0 ∨ (97 ≤ c.toInt ∧ c.toInt ≤ 122)) : mjGo mjTb mjMt sc (3 + 1) 209 (156, [some (.ref 240), some (.int bg), some (.int nt), some (.int br), some (.int c), some (.int fl), l6], [], w) (fun r w1 => mjTyd m4S w1 ∧ m4Kb b w w1 ∧ (m4X w1 240 7).toInt ≤ (m4X w1 240 3).toInt ∧ ∃ u : Int32, r = some (.int u) ∧ (¬ (m4X w1 240 4).toInt = 0 ∨ ((m4X w1 240 4).toInt = 0 ∧ (m4Mu w1 < m4Mu w ∨ (m4Mu w1 ≤ m4Mu w ∧ (m4X w1 240 46).toInt < (m4X w 240 46).toInt)) ∧ ((u.toInt = 1 ∧ ∃ T1, m4IE b fr T1 true w1) ∨ (u.toInt = 0 ∧ (((m4X w1 240 46).toInt = 0 ∧ m4Hs w1 fr 1 ∧ fr ≤ (m4X w1 240 44).toInt ∧ (m4X w1 240 44).toInt ≤ fr + 280) ∨ ∃ T1, m4IE b fr T1 false w1)))))) := by
  have Tw := h.1
  have he := h.2.1
  have hrb := h.2.2.1
  have bd := m4IE_bd h
  have bc := (mjB.all c).1
  have bc2 := (mjB.all c).2
  have hfr := h.2.2.2.2.2.2.2.1
  have hp46 := h.2.2.2.2.1
  have b8w := (fi_240_8 Tw).2
  have k_0 := c_0
  have k_1 := c_1
  have k_3 := c_3
  have k_7 := c_7
  have k_110 := c_110
  have k_126 := c_126
  refine g_L (v := .ref 240) (n := 1) M_209 q_209_156 rfl ?_
  refine h_get M_209 q_209_157 Tw ro_240 (by decide) kd_241 (fr_240_15 Tw) ?_
  refine g_L (v := .ref 240) (n := 1) M_209 q_209_160 rfl ?_
  have bw_240_43 := (fi_240_43 Tw).2
  refine h_get M_209 q_209_161 Tw ro_240 (by decide) kd_241 (fi_240_43 Tw).1 ?_
  refine g_A (st1 := [.int (m4X w 240 43), .ref 247, .int (m4X w 240 43), .ref 247]) M_209 q_209_164 rfl ?_
  have e1 := ar_248 Tw ro_247 (j := (m4X w 240 43).toInt.toNat) (by omega)
  refine h_ald (j := (m4X w 240 43).toInt.toNat) M_209 q_209_165 Tw ro_247 (by decide) kd_248 (by omega) e1.1 ?_
  refine g_L (v := .int nt) (n := 1) M_209 q_209_166 rfl ?_
  refine g_if M_209 q_209_167 mjCz_eq (fun b2 => ?_) (fun b2 => ?_)
  · refine g_A (st1 := [.int (1 : Int32), .int (m4X w 247 (m4X w 240 43).toInt.toNat), .int (m4X w 240 43), .ref 247]) M_209 q_209_174 rfl ?_
    refine g_two M_209 q_209_175 rfl (fun u3 _ => ?_)
    refine h_ast (j := (m4X w 240 43).toInt.toNat) M_209 q_209_176 Tw ro_247 (by decide) kd_248 ln_248 (by omega) (by omega) (m4_hasI (ta_248 _) (mjB.all _).1 (mjB.all _).2) (fun w4 Tw4 Uw4 => ?_)
    have tw4_247_x := Uw4.at
    have tw4_240_3 := Uw4.ne (b := 240) (j := 3) (by first | decide | (left; decide) | (right; omega) | (left; omega))
    have tw4_240_4 := Uw4.ne (b := 240) (j := 4) (by first | decide | (left; decide) | (right; omega) | (left; omega))
    have tw4_240_7 := Uw4.ne (b := 240) (j := 7) (by first | decide | (left; decide) | (right; omega) | (left; omega))
    have tw4_240_8 := Uw4.ne (b := 240) (j := 8) (by first | decide | (left; decide) | (right; omega) | (left; omega))
    have tw4_240_43 := Uw4.ne (b := 240) (j := 43) (by first | decide | (left; decide) | (right; omega) | (left; omega))
    have tw4_240_44 := Uw4.ne (b := 240) (j := 44) (by first | decide | (left; decide) | (right; omega) | (left; omega))
    have tw4_240_45 := Uw4.ne (b := 240) (j := 45) (by first | decide | (left; decide) | (right; omega) | (left; omega))
    have tw4_240_46 := Uw4.ne (b := 240) (j := 46) (by first | decide | (left; decide) | (right; omega) | (left; omega))
    have tw4_240_47 := Uw4.ne (b := 240) (j := 47) (by first | decide | (left; decide) | (right; omega) | (left; omega))
    refine g_L (v := .ref 240) (n := 1) M_209 q_209_177 rfl ?_
    refine g_A (st1 := [.ref 240, .ref 240]) M_209 q_209_178 rfl ?_
    have bw4_240_47 := (fi_240_47 Tw4).2
    refine h_get M_209 q_209_179 Tw4 ro_240 (by decide) kd_241 (fi_240_47 Tw4).1 ?_
    refine g_L (v := .int nt) (n := 1) M_209 q_209_182 rfl ?_
    refine g_if M_209 q_209_183 mjCz_eq (fun b5 => ?_) (fun b5 => ?_)
    · refine g_A (st1 := [.int (1 : Int32), .int (m4X w4 240 47), .ref 240]) M_209 q_209_190 rfl ?_
      refine h_iadd M_209 q_209_191 (by omega) (by omega) (fun u6 hu6 => ?_)
      refine h_put M_209 q_209_192 Tw4 ro_240 (by decide) kd_241 ln_241 (by decide) (m4_fitI rfl) (m4_hasI ty_241_47 (by omega) (by omega)) (fun w7 Tw7 Uw7 => ?_)
      have tw7_240_47 := Uw7.at
      have tw7_240_3 := Uw7.ne (b := 240) (j := 3) (by decide)
      have tw7_240_4 := Uw7.ne (b := 240) (j := 4) (by decide)
      have tw7_240_7 := Uw7.ne (b := 240) (j := 7) (by decide)
      have tw7_240_8 := Uw7.ne (b := 240) (j := 8) (by decide)
      have tw7_240_43 := Uw7.ne (b := 240) (j := 43) (by decide)
      have tw7_240_44 := Uw7.ne (b := 240) (j := 44) (by decide)
      have tw7_240_45 := Uw7.ne (b := 240) (j := 45) (by decide)
      have tw7_240_46 := Uw7.ne (b := 240) (j := 46) (by decide)
      refine g_L (v := .int c) (n := 2) M_209 q_209_195 rfl ?_
      refine g_if M_209 q_209_197 mjCz_ne (fun b8 => ?_) (fun b8 => ?_)
      · refine g_A (st1 := [.int (0 : Int32)]) M_209 q_209_207 rfl ?_
        refine g_S (ls1 := [some (.ref 240), some (.int bg), some (.int nt), some (.int br), some (.int c), some (.int fl), some (.int (0 : Int32))]) (st1 := []) (n := 2) M_209 q_209_208 rfl ?_
        refine g_L (v := .ref 240) (n := 1) M_209 q_209_210 rfl ?_
        refine g_call (d := 3) (y1 := 181) (as := [.ref 240]) (rest := []) (M1 := mjM_181) (d1 := 2) (ls0 := [some (.ref 240), none, none]) M_209 q_209_211 (h_cv Tw7 ro_240 (by decide) kd_241 (by decide) (show 0 ≤ 1 by decide) rfl (show 0 ≤ 8 by decide)) M_181 (show 1 ≤ 3 by decide) (by decide) rfl (by decide) (H_goOn (d := 1) (by decide) Tw7 (by omega)) ?_
        rintro r w9 ⟨rfl, Tw9, kw9, gw9a, gw9b⟩
        have muw9 := m4Mu_go (fi_240_8 Tw9).2.1 gw9b
        have tw9_240_3 := congrArg Int32.toInt (kw9.X (a := 240) (k := 3) ro_240 rfl)
        have tw9_240_4 := congrArg Int32.toInt (kw9.X (a := 240) (k := 4) ro_240 rfl)
        have tw9_240_43 := congrArg Int32.toInt (kw9.X (a := 240) (k := 43) ro_240 rfl)
        have tw9_240_44 := congrArg Int32.toInt (kw9.X (a := 240) (k := 44) ro_240 rfl)
        have tw9_240_45 := congrArg Int32.toInt (kw9.X (a := 240) (k := 45) ro_240 rfl)
        have tw9_240_46 := congrArg Int32.toInt (kw9.X (a := 240) (k := 46) ro_240 rfl)
        have tw9_240_47 := congrArg Int32.toInt (kw9.X (a := 240) (k := 47) ro_240 rfl)
        show mjGo mjTb mjMt sc _ 209 (214, [some (.ref 240), some (.int bg), some (.int nt), some (.int br), some (.int c), some (.int fl), some (.int (0 : Int32))], [], w9) _
        refine g_L (v := .int nt) (n := 1) M_209 q_209_214 rfl ?_
        refine g_if M_209 q_209_215 mjCz_ne (fun b10 => ?_) (fun b10 => ?_)
        · exfalso; omega
        · refine g_L (v := .int br) (n := 1) M_209 q_209_218 rfl ?_
          refine g_if M_209 q_209_219 mjCz_eq (fun b11 => ?_) (fun b11 => ?_)
          · refine g_L (v := .ref 240) (n := 1) M_209 q_209_250 rfl ?_
            refine g_L (v := .int c) (n := 2) M_209 q_209_251 rfl ?_
            refine g_if M_209 q_209_253 mjCz_ne (fun b12 => ?_) (fun b12 => ?_)
            · refine g_L (v := .int c) (n := 2) M_209 q_209_261 rfl ?_
              refine g_L (v := .int (0 : Int32)) (n := 2) M_209 q_209_263 rfl ?_
              refine g_call (d := 3) (y1 := 212) (as := [.ref 240, .int c, .int (0 : Int32)]) (rest := []) (M1 := mjM_212) (d1 := 0) (ls0 := [some (.ref 240), some (.int c), some (.int (0 : Int32))]) M_209 q_209_265 (h_cv Tw9 ro_240 (by decide) kd_241 (by decide) (show 2 ≤ 3 by decide) rfl (show 0 ≤ 8 by decide)) M_212 (show 3 ≤ 3 by decide) (by decide) rfl (by decide) (H_emit Tw9 (by omega)) ?_
              rintro r w13 ⟨rfl, Tw13, sw13, fw13, nw13, pw13⟩
              have tw13_240_3 : (m4X w13 240 3).toInt = (m4X w9 240 3).toInt := by unfold m4X; rw [fw13 240 3 (by omega) (by omega)]
              have tw13_240_4 : (m4X w13 240 4).toInt = (m4X w9 240 4).toInt := by unfold m4X; rw [fw13 240 4 (by omega) (by omega)]
              have tw13_240_7 : (m4X w13 240 7).toInt = (m4X w9 240 7).toInt := by unfold m4X; rw [fw13 240 7 (by omega) (by omega)]
              have tw13_240_8 : (m4X w13 240 8).toInt = (m4X w9 240 8).toInt := by unfold m4X; rw [fw13 240 8 (by omega) (by omega)]
              have tw13_240_43 : (m4X w13 240 43).toInt = (m4X w9 240 43).toInt := by unfold m4X; rw [fw13 240 43 (by omega) (by omega)]
              have tw13_240_45 : (m4X w13 240 45).toInt = (m4X w9 240 45).toInt := by unfold m4X; rw [fw13 240 45 (by omega) (by omega)]
              have tw13_240_46 : (m4X w13 240 46).toInt = (m4X w9 240 46).toInt := by unfold m4X; rw [fw13 240 46 (by omega) (by omega)]
              have tw13_240_47 : (m4X w13 240 47).toInt = (m4X w9 240 47).toInt := by unfold m4X; rw [fw13 240 47 (by omega) (by omega)]
              show mjGo mjTb mjMt sc _ 209 (268, [some (.ref 240), some (.int bg), some (.int nt), some (.int br), some (.int c), some (.int fl), some (.int (0 : Int32))], [], w13) _
              refine g_A (st1 := [.int (0 : Int32)]) M_209 q_209_268 rfl ?_
              refine g_ret (v := some (.int (0 : Int32))) M_209 q_209_269 (h_rtZ) ?_
              have kb : m4Kb b w w13 := ((((m4Kb_up Uw4 (by unfold m4Kp m4Kq; omega)).trans (m4Kb_up Uw7 (by unfold m4Kp m4Kq; omega))).trans (m4Kb_kp kw9 (by decide))).trans (m4Kb_fld sw13 (fun a k hk => fw13 a k (by unfold m4Kp m4Kq at hk; omega) (by unfold m4Kp m4Kq at hk; omega))))
              have e44 : (m4X w9 240 44).toInt.toNat = (m4X w 240 44).toInt.toNat := by omega
              have ie : m4IE b fr T false w13 := m4IE_unit (c := (c).toInt) h Tw13 (by omega) (by omega) (by omega) (by omega) (by omega) (by omega) (by omega) (by omega) (fun k hk => ((((m4X_fld (fw13 269 k (by omega) (by omega)))).trans (kw9.X (a := 269) (k := k) ro_269 rfl)).trans (Uw7.X (b := 269) (j := k) (by omega))).trans (Uw4.X (b := 269) (j := k) (by omega))) (fun j => ⟨((((m4X_fld (fw13 271 j (by omega) (by omega)))).trans (kw9.X (a := 271) (k := j) ro_271 rfl)).trans (Uw7.X (b := 271) (j := j) (by omega))).trans (Uw4.X (b := 271) (j := j) (by omega)), ((((m4X_fld (fw13 272 j (by omega) (by omega)))).trans (kw9.X (a := 272) (k := j) ro_272 rfl)).trans (Uw7.X (b := 272) (j := j) (by omega))).trans (Uw4.X (b := 272) (j := j) (by omega))⟩) (by rw [← e44, pw13])
              have mf := m4Mu_eq (w := w9) (w1 := w13) (by omega) (by omega)
              have mi := m4Mu_eq (w := w) (w1 := w7) (by omega) (by omega)
              exact ⟨Tw13, kb, by omega, _, rfl, Or.inr ⟨by omega, Or.inl (by have := muw9.2 (by omega); omega), Or.inr ⟨rfl, Or.inr ⟨_, ie⟩⟩⟩⟩
            · exfalso; omega
          · refine g_L (v := .ref 240) (n := 1) M_209 q_209_222 rfl ?_
            refine g_L (v := .int nt) (n := 1) M_209 q_209_223 rfl ?_
            refine g_if M_209 q_209_224 mjCz_eq (fun b14 => ?_) (fun b14 => ?_)
            · refine g_P (v := .int (7 : Int32)) (n := 2) M_209 q_209_231 rfl ?_
              refine g_P (v := .int (126 : Int32)) (n := 2) M_209 q_209_233 rfl ?_
              refine g_call (d := 3) (y1 := 208) (as := [.ref 240, .int (7 : Int32), .int (126 : Int32)]) (rest := []) (M1 := mjM_208) (d1 := 0) (ls0 := [some (.ref 240), some (.int (7 : Int32)), some (.int (126 : Int32))]) M_209 q_209_235 (h_cv Tw9 ro_240 (by decide) kd_241 (by decide) (show 2 ≤ 3 by decide) rfl (show 0 ≤ 8 by decide)) M_208 (show 3 ≤ 3 by decide) (by decide) rfl (by decide) (H_pushE Tw9 (by omega)) ?_
              rintro r w15 ⟨rfl, Tw15, sw15, fw15, nw15, pw15⟩
              have tw15_240_3 : (m4X w15 240 3).toInt = (m4X w9 240 3).toInt := by unfold m4X; rw [fw15 240 3 (by omega) (by omega)]
              have tw15_240_4 : (m4X w15 240 4).toInt = (m4X w9 240 4).toInt := by unfold m4X; rw [fw15 240 4 (by omega) (by omega)]
              have tw15_240_7 : (m4X w15 240 7).toInt = (m4X w9 240 7).toInt := by unfold m4X; rw [fw15 240 7 (by omega) (by omega)]
              have tw15_240_8 : (m4X w15 240 8).toInt = (m4X w9 240 8).toInt := by unfold m4X; rw [fw15 240 8 (by omega) (by omega)]
              have tw15_240_43 : (m4X w15 240 43).toInt = (m4X w9 240 43).toInt := by unfold m4X; rw [fw15 240 43 (by omega) (by omega)]
              have tw15_240_44 : (m4X w15 240 44).toInt = (m4X w9 240 44).toInt := by unfold m4X; rw [fw15 240 44 (by omega) (by omega)]
              have tw15_240_45 : (m4X w15 240 45).toInt = (m4X w9 240 45).toInt := by unfold m4X; rw [fw15 240 45 (by omega) (by omega)]
              have tw15_240_47 : (m4X w15 240 47).toInt = (m4X w9 240 47).toInt := by unfold m4X; rw [fw15 240 47 (by omega) (by omega)]
              show mjGo mjTb mjMt sc _ 209 (238, [some (.ref 240), some (.int bg), some (.int nt), some (.int br), some (.int c), some (.int fl), some (.int (0 : Int32))], [], w15) _
              refine g_L (v := .ref 240) (n := 1) M_209 q_209_238 rfl ?_
              refine g_A (st1 := [.ref 240, .ref 240]) M_209 q_209_239 rfl ?_
              have bw15_240_45 := (fi_240_45 Tw15).2
              refine h_get M_209 q_209_240 Tw15 ro_240 (by decide) kd_241 (fi_240_45 Tw15).1 ?_
              refine g_A (st1 := [.int (1 : Int32), .int (m4X w15 240 45), .ref 240]) M_209 q_209_243 rfl ?_
              refine h_iadd M_209 q_209_244 (by omega) (by omega) (fun u16 hu16 => ?_)
              refine h_put M_209 q_209_245 Tw15 ro_240 (by decide) kd_241 ln_241 (by decide) (m4_fitI rfl) (m4_hasI ty_241_45 (by omega) (by omega)) (fun w17 Tw17 Uw17 => ?_)
              have tw17_240_45 := Uw17.at
              have tw17_240_3 := Uw17.ne (b := 240) (j := 3) (by decide)
              have tw17_240_4 := Uw17.ne (b := 240) (j := 4) (by decide)
              have tw17_240_7 := Uw17.ne (b := 240) (j := 7) (by decide)
              have tw17_240_8 := Uw17.ne (b := 240) (j := 8) (by decide)
              have tw17_240_43 := Uw17.ne (b := 240) (j := 43) (by decide)
              have tw17_240_44 := Uw17.ne (b := 240) (j := 44) (by decide)
              have tw17_240_46 := Uw17.ne (b := 240) (j := 46) (by decide)
              have tw17_240_47 := Uw17.ne (b := 240) (j := 47) (by decide)
              refine g_A (st1 := [.int (1 : Int32)]) M_209 q_209_248 rfl ?_
              refine g_ret (v := some (.int (1 : Int32))) M_209 q_209_249 (h_rtZ) ?_
              have kb : m4Kb b w w17 := (((((m4Kb_up Uw4 (by unfold m4Kp m4Kq; omega)).trans (m4Kb_up Uw7 (by unfold m4Kp m4Kq; omega))).trans (m4Kb_kp kw9 (by decide))).trans (m4Kb_fld sw15 (fun a k hk => fw15 a k (by unfold m4Kp m4Kq at hk; omega) (by unfold m4Kp m4Kq at hk; omega)))).trans (m4Kb_up Uw17 (by unfold m4Kp m4Kq; omega)))
              have e46 : (m4X w9 240 46).toInt.toNat = (m4X w 240 46).toInt.toNat := by omega
              have ie : m4IE b fr ((7, 126) :: T) true w17 := m4IE_push h Tw17 (by omega) (by omega) (by omega) ((((((Uw17.X (b := 240) (j := 44) (by omega))).trans (m4X_fld (fw15 240 44 (by omega) (by omega)))).trans (kw9.X (a := 240) (k := 44) ro_240 rfl)).trans (Uw7.X (b := 240) (j := 44) (by omega))).trans (Uw4.X (b := 240) (j := 44) (by omega))) (by omega) (by omega) (by omega) (fun k => (((((Uw17.X (b := 269) (j := k) (by omega))).trans (m4X_fld (fw15 269 k (by omega) (by omega)))).trans (kw9.X (a := 269) (k := k) ro_269 rfl)).trans (Uw7.X (b := 269) (j := k) (by omega))).trans (Uw4.X (b := 269) (j := k) (by omega))) (fun j hj => ⟨(((((Uw17.X (b := 271) (j := j) (by omega))).trans (m4X_fld (fw15 271 j (by omega) (by omega)))).trans (kw9.X (a := 271) (k := j) ro_271 rfl)).trans (Uw7.X (b := 271) (j := j) (by omega))).trans (Uw4.X (b := 271) (j := j) (by omega)), (((((Uw17.X (b := 272) (j := j) (by omega))).trans (m4X_fld (fw15 272 j (by omega) (by omega)))).trans (kw9.X (a := 272) (k := j) ro_272 rfl)).trans (Uw7.X (b := 272) (j := j) (by omega))).trans (Uw4.X (b := 272) (j := j) (by omega))⟩) (by rw [← e46, Uw17.X (Or.inl (by decide)), pw15.1]; rfl) (by rw [← e46, Uw17.X (Or.inl (by decide)), pw15.2]; rfl)
              have mf := m4Mu_eq (w := w9) (w1 := w17) (by omega) (by omega)
              have mi := m4Mu_eq (w := w) (w1 := w7) (by omega) (by omega)
              exact ⟨Tw17, kb, by omega, _, rfl, Or.inr ⟨by omega, Or.inl (by have := muw9.2 (by omega); omega), Or.inl ⟨rfl, _, ie⟩⟩⟩
            · exfalso; omega
      · refine g_L (v := .ref 240) (n := 1) M_209 q_209_200 rfl ?_
        have bw7_240_9 := (fi_240_9 Tw7).2
        refine h_get M_209 q_209_201 Tw7 ro_240 (by decide) kd_241 (fi_240_9 Tw7).1 ?_
        refine g_goto M_209 q_209_204 ?_
        refine g_S (ls1 := [some (.ref 240), some (.int bg), some (.int nt), some (.int br), some (.int c), some (.int fl), some (.int (m4X w7 240 9))]) (st1 := []) (n := 2) M_209 q_209_208 rfl ?_
        refine g_L (v := .ref 240) (n := 1) M_209 q_209_210 rfl ?_
        refine g_call (d := 3) (y1 := 181) (as := [.ref 240]) (rest := []) (M1 := mjM_181) (d1 := 2) (ls0 := [some (.ref 240), none, none]) M_209 q_209_211 (h_cv Tw7 ro_240 (by decide) kd_241 (by decide) (show 0 ≤ 1 by decide) rfl (show 0 ≤ 8 by decide)) M_181 (show 1 ≤ 3 by decide) (by decide) rfl (by decide) (H_goOn (d := 1) (by decide) Tw7 (by omega)) ?_
        rintro r w18 ⟨rfl, Tw18, kw18, gw18a, gw18b⟩
        have muw18 := m4Mu_go (fi_240_8 Tw18).2.1 gw18b
        have tw18_240_3 := congrArg Int32.toInt (kw18.X (a := 240) (k := 3) ro_240 rfl)
        have tw18_240_4 := congrArg Int32.toInt (kw18.X (a := 240) (k := 4) ro_240 rfl)
        have tw18_240_43 := congrArg Int32.toInt (kw18.X (a := 240) (k := 43) ro_240 rfl)
        have tw18_240_44 := congrArg Int32.toInt (kw18.X (a := 240) (k := 44) ro_240 rfl)
        have tw18_240_45 := congrArg Int32.toInt (kw18.X (a := 240) (k := 45) ro_240 rfl)
        have tw18_240_46 := congrArg Int32.toInt (kw18.X (a := 240) (k := 46) ro_240 rfl)
        have tw18_240_47 := congrArg Int32.toInt (kw18.X (a := 240) (k := 47) ro_240 rfl)
        show mjGo mjTb mjMt sc _ 209 (214, [some (.ref 240), some (.int bg), some (.int nt), some (.int br), some (.int c), some (.int fl), some (.int (m4X w7 240 9))], [], w18) _
        refine g_L (v := .int nt) (n := 1) M_209 q_209_214 rfl ?_
        refine g_if M_209 q_209_215 mjCz_ne (fun b19 => ?_) (fun b19 => ?_)
        · exfalso; omega
        · refine g_L (v := .int br) (n := 1) M_209 q_209_218 rfl ?_
          refine g_if M_209 q_209_219 mjCz_eq (fun b20 => ?_) (fun b20 => ?_)
          · refine g_L (v := .ref 240) (n := 1) M_209 q_209_250 rfl ?_
            refine g_L (v := .int c) (n := 2) M_209 q_209_251 rfl ?_
            refine g_if M_209 q_209_253 mjCz_ne (fun b21 => ?_) (fun b21 => ?_)
            · exfalso; omega
            · refine g_P (v := .int (110 : Int32)) (n := 2) M_209 q_209_256 rfl ?_
              refine g_goto M_209 q_209_258 ?_
              refine g_L (v := .int (m4X w7 240 9)) (n := 2) M_209 q_209_263 rfl ?_
              refine g_call (d := 3) (y1 := 212) (as := [.ref 240, .int (110 : Int32), .int (m4X w7 240 9)]) (rest := []) (M1 := mjM_212) (d1 := 0) (ls0 := [some (.ref 240), some (.int (110 : Int32)), some (.int (m4X w7 240 9))]) M_209 q_209_265 (h_cv Tw18 ro_240 (by decide) kd_241 (by decide) (show 2 ≤ 3 by decide) rfl (show 0 ≤ 8 by decide)) M_212 (show 3 ≤ 3 by decide) (by decide) rfl (by decide) (H_emit Tw18 (by omega)) ?_
              rintro r w22 ⟨rfl, Tw22, sw22, fw22, nw22, pw22⟩
              have tw22_240_3 : (m4X w22 240 3).toInt = (m4X w18 240 3).toInt := by unfold m4X; rw [fw22 240 3 (by omega) (by omega)]
              have tw22_240_4 : (m4X w22 240 4).toInt = (m4X w18 240 4).toInt := by unfold m4X; rw [fw22 240 4 (by omega) (by omega)]
              have tw22_240_7 : (m4X w22 240 7).toInt = (m4X w18 240 7).toInt := by unfold m4X; rw [fw22 240 7 (by omega) (by omega)]
              have tw22_240_8 : (m4X w22 240 8).toInt = (m4X w18 240 8).toInt := by unfold m4X; rw [fw22 240 8 (by omega) (by omega)]
              have tw22_240_43 : (m4X w22 240 43).toInt = (m4X w18 240 43).toInt := by unfold m4X; rw [fw22 240 43 (by omega) (by omega)]
              have tw22_240_45 : (m4X w22 240 45).toInt = (m4X w18 240 45).toInt := by unfold m4X; rw [fw22 240 45 (by omega) (by omega)]
              have tw22_240_46 : (m4X w22 240 46).toInt = (m4X w18 240 46).toInt := by unfold m4X; rw [fw22 240 46 (by omega) (by omega)]
              have tw22_240_47 : (m4X w22 240 47).toInt = (m4X w18 240 47).toInt := by unfold m4X; rw [fw22 240 47 (by omega) (by omega)]
              show mjGo mjTb mjMt sc _ 209 (268, [some (.ref 240), some (.int bg), some (.int nt), some (.int br), some (.int c), some (.int fl), some (.int (m4X w7 240 9))], [], w22) _
              refine g_A (st1 := [.int (0 : Int32)]) M_209 q_209_268 rfl ?_
              refine g_ret (v := some (.int (0 : Int32))) M_209 q_209_269 (h_rtZ) ?_
              have kb : m4Kb b w w22 := ((((m4Kb_up Uw4 (by unfold m4Kp m4Kq; omega)).trans (m4Kb_up Uw7 (by unfold m4Kp m4Kq; omega))).trans (m4Kb_kp kw18 (by decide))).trans (m4Kb_fld sw22 (fun a k hk => fw22 a k (by unfold m4Kp m4Kq at hk; omega) (by unfold m4Kp m4Kq at hk; omega))))
              have e44 : (m4X w18 240 44).toInt.toNat = (m4X w 240 44).toInt.toNat := by omega
              have ie : m4IE b fr T false w22 := m4IE_unit (c := ((110 : Int32)).toInt) h Tw22 (by omega) (by omega) (by omega) (by omega) (by omega) (by omega) (by omega) (by omega) (fun k hk => ((((m4X_fld (fw22 269 k (by omega) (by omega)))).trans (kw18.X (a := 269) (k := k) ro_269 rfl)).trans (Uw7.X (b := 269) (j := k) (by omega))).trans (Uw4.X (b := 269) (j := k) (by omega))) (fun j => ⟨((((m4X_fld (fw22 271 j (by omega) (by omega)))).trans (kw18.X (a := 271) (k := j) ro_271 rfl)).trans (Uw7.X (b := 271) (j := j) (by omega))).trans (Uw4.X (b := 271) (j := j) (by omega)), ((((m4X_fld (fw22 272 j (by omega) (by omega)))).trans (kw18.X (a := 272) (k := j) ro_272 rfl)).trans (Uw7.X (b := 272) (j := j) (by omega))).trans (Uw4.X (b := 272) (j := j) (by omega))⟩) (by rw [← e44, pw22])
              have mf := m4Mu_eq (w := w18) (w1 := w22) (by omega) (by omega)
              have mi := m4Mu_eq (w := w) (w1 := w7) (by omega) (by omega)
              exact ⟨Tw22, kb, by omega, _, rfl, Or.inr ⟨by omega, Or.inl (by have := muw18.2 (by omega); omega), Or.inr ⟨rfl, Or.inr ⟨_, ie⟩⟩⟩⟩
          · refine g_L (v := .ref 240) (n := 1) M_209 q_209_222 rfl ?_
            refine g_L (v := .int nt) (n := 1) M_209 q_209_223 rfl ?_
            refine g_if M_209 q_209_224 mjCz_eq (fun b23 => ?_) (fun b23 => ?_)
            · refine g_P (v := .int (7 : Int32)) (n := 2) M_209 q_209_231 rfl ?_
              refine g_P (v := .int (126 : Int32)) (n := 2) M_209 q_209_233 rfl ?_
              refine g_call (d := 3) (y1 := 208) (as := [.ref 240, .int (7 : Int32), .int (126 : Int32)]) (rest := []) (M1 := mjM_208) (d1 := 0) (ls0 := [some (.ref 240), some (.int (7 : Int32)), some (.int (126 : Int32))]) M_209 q_209_235 (h_cv Tw18 ro_240 (by decide) kd_241 (by decide) (show 2 ≤ 3 by decide) rfl (show 0 ≤ 8 by decide)) M_208 (show 3 ≤ 3 by decide) (by decide) rfl (by decide) (H_pushE Tw18 (by omega)) ?_
              rintro r w24 ⟨rfl, Tw24, sw24, fw24, nw24, pw24⟩
              have tw24_240_3 : (m4X w24 240 3).toInt = (m4X w18 240 3).toInt := by unfold m4X; rw [fw24 240 3 (by omega) (by omega)]
              have tw24_240_4 : (m4X w24 240 4).toInt = (m4X w18 240 4).toInt := by unfold m4X; rw [fw24 240 4 (by omega) (by omega)]
              have tw24_240_7 : (m4X w24 240 7).toInt = (m4X w18 240 7).toInt := by unfold m4X; rw [fw24 240 7 (by omega) (by omega)]
              have tw24_240_8 : (m4X w24 240 8).toInt = (m4X w18 240 8).toInt := by unfold m4X; rw [fw24 240 8 (by omega) (by omega)]
              have tw24_240_43 : (m4X w24 240 43).toInt = (m4X w18 240 43).toInt := by unfold m4X; rw [fw24 240 43 (by omega) (by omega)]
              have tw24_240_44 : (m4X w24 240 44).toInt = (m4X w18 240 44).toInt := by unfold m4X; rw [fw24 240 44 (by omega) (by omega)]
              have tw24_240_45 : (m4X w24 240 45).toInt = (m4X w18 240 45).toInt := by unfold m4X; rw [fw24 240 45 (by omega) (by omega)]
              have tw24_240_47 : (m4X w24 240 47).toInt = (m4X w18 240 47).toInt := by unfold m4X; rw [fw24 240 47 (by omega) (by omega)]
              show mjGo mjTb mjMt sc _ 209 (238, [some (.ref 240), some (.int bg), some (.int nt), some (.int br), some (.int c), some (.int fl), some (.int (m4X w7 240 9))], [], w24) _
              refine g_L (v := .ref 240) (n := 1) M_209 q_209_238 rfl ?_
              refine g_A (st1 := [.ref 240, .ref 240]) M_209 q_209_239 rfl ?_
              have bw24_240_45 := (fi_240_45 Tw24).2
              refine h_get M_209 q_209_240 Tw24 ro_240 (by decide) kd_241 (fi_240_45 Tw24).1 ?_
              refine g_A (st1 := [.int (1 : Int32), .int (m4X w24 240 45), .ref 240]) M_209 q_209_243 rfl ?_
              refine h_iadd M_209 q_209_244 (by omega) (by omega) (fun u25 hu25 => ?_)
              refine h_put M_209 q_209_245 Tw24 ro_240 (by decide) kd_241 ln_241 (by decide) (m4_fitI rfl) (m4_hasI ty_241_45 (by omega) (by omega)) (fun w26 Tw26 Uw26 => ?_)
              have tw26_240_45 := Uw26.at
              have tw26_240_3 := Uw26.ne (b := 240) (j := 3) (by decide)
              have tw26_240_4 := Uw26.ne (b := 240) (j := 4) (by decide)
              have tw26_240_7 := Uw26.ne (b := 240) (j := 7) (by decide)
              have tw26_240_8 := Uw26.ne (b := 240) (j := 8) (by decide)
              have tw26_240_43 := Uw26.ne (b := 240) (j := 43) (by decide)
              have tw26_240_44 := Uw26.ne (b := 240) (j := 44) (by decide)
              have tw26_240_46 := Uw26.ne (b := 240) (j := 46) (by decide)
              have tw26_240_47 := Uw26.ne (b := 240) (j := 47) (by decide)
              refine g_A (st1 := [.int (1 : Int32)]) M_209 q_209_248 rfl ?_
              refine g_ret (v := some (.int (1 : Int32))) M_209 q_209_249 (h_rtZ) ?_
              have kb : m4Kb b w w26 := (((((m4Kb_up Uw4 (by unfold m4Kp m4Kq; omega)).trans (m4Kb_up Uw7 (by unfold m4Kp m4Kq; omega))).trans (m4Kb_kp kw18 (by decide))).trans (m4Kb_fld sw24 (fun a k hk => fw24 a k (by unfold m4Kp m4Kq at hk; omega) (by unfold m4Kp m4Kq at hk; omega)))).trans (m4Kb_up Uw26 (by unfold m4Kp m4Kq; omega)))
              have e46 : (m4X w18 240 46).toInt.toNat = (m4X w 240 46).toInt.toNat := by omega
              have ie : m4IE b fr ((7, 126) :: T) true w26 := m4IE_push h Tw26 (by omega) (by omega) (by omega) ((((((Uw26.X (b := 240) (j := 44) (by omega))).trans (m4X_fld (fw24 240 44 (by omega) (by omega)))).trans (kw18.X (a := 240) (k := 44) ro_240 rfl)).trans (Uw7.X (b := 240) (j := 44) (by omega))).trans (Uw4.X (b := 240) (j := 44) (by omega))) (by omega) (by omega) (by omega) (fun k => (((((Uw26.X (b := 269) (j := k) (by omega))).trans (m4X_fld (fw24 269 k (by omega) (by omega)))).trans (kw18.X (a := 269) (k := k) ro_269 rfl)).trans (Uw7.X (b := 269) (j := k) (by omega))).trans (Uw4.X (b := 269) (j := k) (by omega))) (fun j hj => ⟨(((((Uw26.X (b := 271) (j := j) (by omega))).trans (m4X_fld (fw24 271 j (by omega) (by omega)))).trans (kw18.X (a := 271) (k := j) ro_271 rfl)).trans (Uw7.X (b := 271) (j := j) (by omega))).trans (Uw4.X (b := 271) (j := j) (by omega)), (((((Uw26.X (b := 272) (j := j) (by omega))).trans (m4X_fld (fw24 272 j (by omega) (by omega)))).trans (kw18.X (a := 272) (k := j) ro_272 rfl)).trans (Uw7.X (b := 272) (j := j) (by omega))).trans (Uw4.X (b := 272) (j := j) (by omega))⟩) (by rw [← e46, Uw26.X (Or.inl (by decide)), pw24.1]; rfl) (by rw [← e46, Uw26.X (Or.inl (by decide)), pw24.2]; rfl)
              have mf := m4Mu_eq (w := w18) (w1 := w26) (by omega) (by omega)
              have mi := m4Mu_eq (w := w) (w1 := w7) (by omega) (by omega)
              exact ⟨Tw26, kb, by omega, _, rfl, Or.inr ⟨by omega, Or.inl (by have := muw18.2 (by omega); omega), Or.inl ⟨rfl, _, ie⟩⟩⟩
            · exfalso; omega
    · exfalso; omega
  · refine g_A (st1 := [.int (0 : Int32), .int (m4X w 247 (m4X w 240 43).toInt.toNat), .int (m4X w 240 43), .ref 247]) M_209 q_209_170 rfl ?_
    refine g_goto M_209 q_209_171 ?_
    refine g_two M_209 q_209_175 rfl (fun u27 _ => ?_)
    refine h_ast (j := (m4X w 240 43).toInt.toNat) M_209 q_209_176 Tw ro_247 (by decide) kd_248 ln_248 (by omega) (by omega) (m4_hasI (ta_248 _) (mjB.all _).1 (mjB.all _).2) (fun w28 Tw28 Uw28 => ?_)
    have tw28_247_x := Uw28.at
    have tw28_240_3 := Uw28.ne (b := 240) (j := 3) (by first | decide | (left; decide) | (right; omega) | (left; omega))
    have tw28_240_4 := Uw28.ne (b := 240) (j := 4) (by first | decide | (left; decide) | (right; omega) | (left; omega))
    have tw28_240_7 := Uw28.ne (b := 240) (j := 7) (by first | decide | (left; decide) | (right; omega) | (left; omega))
    have tw28_240_8 := Uw28.ne (b := 240) (j := 8) (by first | decide | (left; decide) | (right; omega) | (left; omega))
    have tw28_240_43 := Uw28.ne (b := 240) (j := 43) (by first | decide | (left; decide) | (right; omega) | (left; omega))
    have tw28_240_44 := Uw28.ne (b := 240) (j := 44) (by first | decide | (left; decide) | (right; omega) | (left; omega))
    have tw28_240_45 := Uw28.ne (b := 240) (j := 45) (by first | decide | (left; decide) | (right; omega) | (left; omega))
    have tw28_240_46 := Uw28.ne (b := 240) (j := 46) (by first | decide | (left; decide) | (right; omega) | (left; omega))
    have tw28_240_47 := Uw28.ne (b := 240) (j := 47) (by first | decide | (left; decide) | (right; omega) | (left; omega))
    refine g_L (v := .ref 240) (n := 1) M_209 q_209_177 rfl ?_
    refine g_A (st1 := [.ref 240, .ref 240]) M_209 q_209_178 rfl ?_
    have bw28_240_47 := (fi_240_47 Tw28).2
    refine h_get M_209 q_209_179 Tw28 ro_240 (by decide) kd_241 (fi_240_47 Tw28).1 ?_
    refine g_L (v := .int nt) (n := 1) M_209 q_209_182 rfl ?_
    refine g_if M_209 q_209_183 mjCz_eq (fun b29 => ?_) (fun b29 => ?_)
    · exfalso; omega
    · refine g_A (st1 := [.int (0 : Int32), .int (m4X w28 240 47), .ref 240]) M_209 q_209_186 rfl ?_
      refine g_goto M_209 q_209_187 ?_
      refine h_iadd M_209 q_209_191 (by omega) (by omega) (fun u30 hu30 => ?_)
      refine h_put M_209 q_209_192 Tw28 ro_240 (by decide) kd_241 ln_241 (by decide) (m4_fitI rfl) (m4_hasI ty_241_47 (by omega) (by omega)) (fun w31 Tw31 Uw31 => ?_)
      have tw31_240_47 := Uw31.at
      have tw31_240_3 := Uw31.ne (b := 240) (j := 3) (by decide)
      have tw31_240_4 := Uw31.ne (b := 240) (j := 4) (by decide)
      have tw31_240_7 := Uw31.ne (b := 240) (j := 7) (by decide)
      have tw31_240_8 := Uw31.ne (b := 240) (j := 8) (by decide)
      have tw31_240_43 := Uw31.ne (b := 240) (j := 43) (by decide)
      have tw31_240_44 := Uw31.ne (b := 240) (j := 44) (by decide)
      have tw31_240_45 := Uw31.ne (b := 240) (j := 45) (by decide)
      have tw31_240_46 := Uw31.ne (b := 240) (j := 46) (by decide)
      refine g_L (v := .int c) (n := 2) M_209 q_209_195 rfl ?_
      refine g_if M_209 q_209_197 mjCz_ne (fun b32 => ?_) (fun b32 => ?_)
      · refine g_A (st1 := [.int (0 : Int32)]) M_209 q_209_207 rfl ?_
        refine g_S (ls1 := [some (.ref 240), some (.int bg), some (.int nt), some (.int br), some (.int c), some (.int fl), some (.int (0 : Int32))]) (st1 := []) (n := 2) M_209 q_209_208 rfl ?_
        refine g_L (v := .ref 240) (n := 1) M_209 q_209_210 rfl ?_
        refine g_call (d := 3) (y1 := 181) (as := [.ref 240]) (rest := []) (M1 := mjM_181) (d1 := 2) (ls0 := [some (.ref 240), none, none]) M_209 q_209_211 (h_cv Tw31 ro_240 (by decide) kd_241 (by decide) (show 0 ≤ 1 by decide) rfl (show 0 ≤ 8 by decide)) M_181 (show 1 ≤ 3 by decide) (by decide) rfl (by decide) (H_goOn (d := 1) (by decide) Tw31 (by omega)) ?_
        rintro r w33 ⟨rfl, Tw33, kw33, gw33a, gw33b⟩
        have muw33 := m4Mu_go (fi_240_8 Tw33).2.1 gw33b
        have tw33_240_3 := congrArg Int32.toInt (kw33.X (a := 240) (k := 3) ro_240 rfl)
        have tw33_240_4 := congrArg Int32.toInt (kw33.X (a := 240) (k := 4) ro_240 rfl)
        have tw33_240_43 := congrArg Int32.toInt (kw33.X (a := 240) (k := 43) ro_240 rfl)
        have tw33_240_44 := congrArg Int32.toInt (kw33.X (a := 240) (k := 44) ro_240 rfl)
        have tw33_240_45 := congrArg Int32.toInt (kw33.X (a := 240) (k := 45) ro_240 rfl)
        have tw33_240_46 := congrArg Int32.toInt (kw33.X (a := 240) (k := 46) ro_240 rfl)
        have tw33_240_47 := congrArg Int32.toInt (kw33.X (a := 240) (k := 47) ro_240 rfl)
        show mjGo mjTb mjMt sc _ 209 (214, [some (.ref 240), some (.int bg), some (.int nt), some (.int br), some (.int c), some (.int fl), some (.int (0 : Int32))], [], w33) _
        refine g_L (v := .int nt) (n := 1) M_209 q_209_214 rfl ?_
        refine g_if M_209 q_209_215 mjCz_ne (fun b34 => ?_) (fun b34 => ?_)
        · refine g_L (v := .ref 240) (n := 1) M_209 q_209_222 rfl ?_
          refine g_L (v := .int nt) (n := 1) M_209 q_209_223 rfl ?_
          refine g_if M_209 q_209_224 mjCz_eq (fun b35 => ?_) (fun b35 => ?_)
          · exfalso; omega
          · refine g_A (st1 := [.int (3 : Int32), .ref 240]) M_209 q_209_227 rfl ?_
            refine g_goto M_209 q_209_228 ?_
            refine g_P (v := .int (126 : Int32)) (n := 2) M_209 q_209_233 rfl ?_
            refine g_call (d := 3) (y1 := 208) (as := [.ref 240, .int (3 : Int32), .int (126 : Int32)]) (rest := []) (M1 := mjM_208) (d1 := 0) (ls0 := [some (.ref 240), some (.int (3 : Int32)), some (.int (126 : Int32))]) M_209 q_209_235 (h_cv Tw33 ro_240 (by decide) kd_241 (by decide) (show 2 ≤ 3 by decide) rfl (show 0 ≤ 8 by decide)) M_208 (show 3 ≤ 3 by decide) (by decide) rfl (by decide) (H_pushE Tw33 (by omega)) ?_
            rintro r w36 ⟨rfl, Tw36, sw36, fw36, nw36, pw36⟩
            have tw36_240_3 : (m4X w36 240 3).toInt = (m4X w33 240 3).toInt := by unfold m4X; rw [fw36 240 3 (by omega) (by omega)]
            have tw36_240_4 : (m4X w36 240 4).toInt = (m4X w33 240 4).toInt := by unfold m4X; rw [fw36 240 4 (by omega) (by omega)]
            have tw36_240_7 : (m4X w36 240 7).toInt = (m4X w33 240 7).toInt := by unfold m4X; rw [fw36 240 7 (by omega) (by omega)]
            have tw36_240_8 : (m4X w36 240 8).toInt = (m4X w33 240 8).toInt := by unfold m4X; rw [fw36 240 8 (by omega) (by omega)]
            have tw36_240_43 : (m4X w36 240 43).toInt = (m4X w33 240 43).toInt := by unfold m4X; rw [fw36 240 43 (by omega) (by omega)]
            have tw36_240_44 : (m4X w36 240 44).toInt = (m4X w33 240 44).toInt := by unfold m4X; rw [fw36 240 44 (by omega) (by omega)]
            have tw36_240_45 : (m4X w36 240 45).toInt = (m4X w33 240 45).toInt := by unfold m4X; rw [fw36 240 45 (by omega) (by omega)]
            have tw36_240_47 : (m4X w36 240 47).toInt = (m4X w33 240 47).toInt := by unfold m4X; rw [fw36 240 47 (by omega) (by omega)]
            show mjGo mjTb mjMt sc _ 209 (238, [some (.ref 240), some (.int bg), some (.int nt), some (.int br), some (.int c), some (.int fl), some (.int (0 : Int32))], [], w36) _
            refine g_L (v := .ref 240) (n := 1) M_209 q_209_238 rfl ?_
            refine g_A (st1 := [.ref 240, .ref 240]) M_209 q_209_239 rfl ?_
            have bw36_240_45 := (fi_240_45 Tw36).2
            refine h_get M_209 q_209_240 Tw36 ro_240 (by decide) kd_241 (fi_240_45 Tw36).1 ?_
            refine g_A (st1 := [.int (1 : Int32), .int (m4X w36 240 45), .ref 240]) M_209 q_209_243 rfl ?_
            refine h_iadd M_209 q_209_244 (by omega) (by omega) (fun u37 hu37 => ?_)
            refine h_put M_209 q_209_245 Tw36 ro_240 (by decide) kd_241 ln_241 (by decide) (m4_fitI rfl) (m4_hasI ty_241_45 (by omega) (by omega)) (fun w38 Tw38 Uw38 => ?_)
            have tw38_240_45 := Uw38.at
            have tw38_240_3 := Uw38.ne (b := 240) (j := 3) (by decide)
            have tw38_240_4 := Uw38.ne (b := 240) (j := 4) (by decide)
            have tw38_240_7 := Uw38.ne (b := 240) (j := 7) (by decide)
            have tw38_240_8 := Uw38.ne (b := 240) (j := 8) (by decide)
            have tw38_240_43 := Uw38.ne (b := 240) (j := 43) (by decide)
            have tw38_240_44 := Uw38.ne (b := 240) (j := 44) (by decide)
            have tw38_240_46 := Uw38.ne (b := 240) (j := 46) (by decide)
            have tw38_240_47 := Uw38.ne (b := 240) (j := 47) (by decide)
            refine g_A (st1 := [.int (1 : Int32)]) M_209 q_209_248 rfl ?_
            refine g_ret (v := some (.int (1 : Int32))) M_209 q_209_249 (h_rtZ) ?_
            have kb : m4Kb b w w38 := (((((m4Kb_up Uw28 (by unfold m4Kp m4Kq; omega)).trans (m4Kb_up Uw31 (by unfold m4Kp m4Kq; omega))).trans (m4Kb_kp kw33 (by decide))).trans (m4Kb_fld sw36 (fun a k hk => fw36 a k (by unfold m4Kp m4Kq at hk; omega) (by unfold m4Kp m4Kq at hk; omega)))).trans (m4Kb_up Uw38 (by unfold m4Kp m4Kq; omega)))
            have e46 : (m4X w33 240 46).toInt.toNat = (m4X w 240 46).toInt.toNat := by omega
            have ie : m4IE b fr ((3, 126) :: T) true w38 := m4IE_push h Tw38 (by omega) (by omega) (by omega) ((((((Uw38.X (b := 240) (j := 44) (by omega))).trans (m4X_fld (fw36 240 44 (by omega) (by omega)))).trans (kw33.X (a := 240) (k := 44) ro_240 rfl)).trans (Uw31.X (b := 240) (j := 44) (by omega))).trans (Uw28.X (b := 240) (j := 44) (by omega))) (by omega) (by omega) (by omega) (fun k => (((((Uw38.X (b := 269) (j := k) (by omega))).trans (m4X_fld (fw36 269 k (by omega) (by omega)))).trans (kw33.X (a := 269) (k := k) ro_269 rfl)).trans (Uw31.X (b := 269) (j := k) (by omega))).trans (Uw28.X (b := 269) (j := k) (by omega))) (fun j hj => ⟨(((((Uw38.X (b := 271) (j := j) (by omega))).trans (m4X_fld (fw36 271 j (by omega) (by omega)))).trans (kw33.X (a := 271) (k := j) ro_271 rfl)).trans (Uw31.X (b := 271) (j := j) (by omega))).trans (Uw28.X (b := 271) (j := j) (by omega)), (((((Uw38.X (b := 272) (j := j) (by omega))).trans (m4X_fld (fw36 272 j (by omega) (by omega)))).trans (kw33.X (a := 272) (k := j) ro_272 rfl)).trans (Uw31.X (b := 272) (j := j) (by omega))).trans (Uw28.X (b := 272) (j := j) (by omega))⟩) (by rw [← e46, Uw38.X (Or.inl (by decide)), pw36.1]; rfl) (by rw [← e46, Uw38.X (Or.inl (by decide)), pw36.2]; rfl)
            have mf := m4Mu_eq (w := w33) (w1 := w38) (by omega) (by omega)
            have mi := m4Mu_eq (w := w) (w1 := w31) (by omega) (by omega)
            exact ⟨Tw38, kb, by omega, _, rfl, Or.inr ⟨by omega, Or.inl (by have := muw33.2 (by omega); omega), Or.inl ⟨rfl, _, ie⟩⟩⟩
        · exfalso; omega
      · refine g_L (v := .ref 240) (n := 1) M_209 q_209_200 rfl ?_
        have bw31_240_9 := (fi_240_9 Tw31).2
        refine h_get M_209 q_209_201 Tw31 ro_240 (by decide) kd_241 (fi_240_9 Tw31).1 ?_
        refine g_goto M_209 q_209_204 ?_
        refine g_S (ls1 := [some (.ref 240), some (.int bg), some (.int nt), some (.int br), some (.int c), some (.int fl), some (.int (m4X w31 240 9))]) (st1 := []) (n := 2) M_209 q_209_208 rfl ?_
        refine g_L (v := .ref 240) (n := 1) M_209 q_209_210 rfl ?_
        refine g_call (d := 3) (y1 := 181) (as := [.ref 240]) (rest := []) (M1 := mjM_181) (d1 := 2) (ls0 := [some (.ref 240), none, none]) M_209 q_209_211 (h_cv Tw31 ro_240 (by decide) kd_241 (by decide) (show 0 ≤ 1 by decide) rfl (show 0 ≤ 8 by decide)) M_181 (show 1 ≤ 3 by decide) (by decide) rfl (by decide) (H_goOn (d := 1) (by decide) Tw31 (by omega)) ?_
        rintro r w39 ⟨rfl, Tw39, kw39, gw39a, gw39b⟩
        have muw39 := m4Mu_go (fi_240_8 Tw39).2.1 gw39b
        have tw39_240_3 := congrArg Int32.toInt (kw39.X (a := 240) (k := 3) ro_240 rfl)
        have tw39_240_4 := congrArg Int32.toInt (kw39.X (a := 240) (k := 4) ro_240 rfl)
        have tw39_240_43 := congrArg Int32.toInt (kw39.X (a := 240) (k := 43) ro_240 rfl)
        have tw39_240_44 := congrArg Int32.toInt (kw39.X (a := 240) (k := 44) ro_240 rfl)
        have tw39_240_45 := congrArg Int32.toInt (kw39.X (a := 240) (k := 45) ro_240 rfl)
        have tw39_240_46 := congrArg Int32.toInt (kw39.X (a := 240) (k := 46) ro_240 rfl)
        have tw39_240_47 := congrArg Int32.toInt (kw39.X (a := 240) (k := 47) ro_240 rfl)
        show mjGo mjTb mjMt sc _ 209 (214, [some (.ref 240), some (.int bg), some (.int nt), some (.int br), some (.int c), some (.int fl), some (.int (m4X w31 240 9))], [], w39) _
        refine g_L (v := .int nt) (n := 1) M_209 q_209_214 rfl ?_
        refine g_if M_209 q_209_215 mjCz_ne (fun b40 => ?_) (fun b40 => ?_)
        · refine g_L (v := .ref 240) (n := 1) M_209 q_209_222 rfl ?_
          refine g_L (v := .int nt) (n := 1) M_209 q_209_223 rfl ?_
          refine g_if M_209 q_209_224 mjCz_eq (fun b41 => ?_) (fun b41 => ?_)
          · exfalso; omega
          · refine g_A (st1 := [.int (3 : Int32), .ref 240]) M_209 q_209_227 rfl ?_
            refine g_goto M_209 q_209_228 ?_
            refine g_P (v := .int (126 : Int32)) (n := 2) M_209 q_209_233 rfl ?_
            refine g_call (d := 3) (y1 := 208) (as := [.ref 240, .int (3 : Int32), .int (126 : Int32)]) (rest := []) (M1 := mjM_208) (d1 := 0) (ls0 := [some (.ref 240), some (.int (3 : Int32)), some (.int (126 : Int32))]) M_209 q_209_235 (h_cv Tw39 ro_240 (by decide) kd_241 (by decide) (show 2 ≤ 3 by decide) rfl (show 0 ≤ 8 by decide)) M_208 (show 3 ≤ 3 by decide) (by decide) rfl (by decide) (H_pushE Tw39 (by omega)) ?_
            rintro r w42 ⟨rfl, Tw42, sw42, fw42, nw42, pw42⟩
            have tw42_240_3 : (m4X w42 240 3).toInt = (m4X w39 240 3).toInt := by unfold m4X; rw [fw42 240 3 (by omega) (by omega)]
            have tw42_240_4 : (m4X w42 240 4).toInt = (m4X w39 240 4).toInt := by unfold m4X; rw [fw42 240 4 (by omega) (by omega)]
            have tw42_240_7 : (m4X w42 240 7).toInt = (m4X w39 240 7).toInt := by unfold m4X; rw [fw42 240 7 (by omega) (by omega)]
            have tw42_240_8 : (m4X w42 240 8).toInt = (m4X w39 240 8).toInt := by unfold m4X; rw [fw42 240 8 (by omega) (by omega)]
            have tw42_240_43 : (m4X w42 240 43).toInt = (m4X w39 240 43).toInt := by unfold m4X; rw [fw42 240 43 (by omega) (by omega)]
            have tw42_240_44 : (m4X w42 240 44).toInt = (m4X w39 240 44).toInt := by unfold m4X; rw [fw42 240 44 (by omega) (by omega)]
            have tw42_240_45 : (m4X w42 240 45).toInt = (m4X w39 240 45).toInt := by unfold m4X; rw [fw42 240 45 (by omega) (by omega)]
            have tw42_240_47 : (m4X w42 240 47).toInt = (m4X w39 240 47).toInt := by unfold m4X; rw [fw42 240 47 (by omega) (by omega)]
            show mjGo mjTb mjMt sc _ 209 (238, [some (.ref 240), some (.int bg), some (.int nt), some (.int br), some (.int c), some (.int fl), some (.int (m4X w31 240 9))], [], w42) _
            refine g_L (v := .ref 240) (n := 1) M_209 q_209_238 rfl ?_
            refine g_A (st1 := [.ref 240, .ref 240]) M_209 q_209_239 rfl ?_
            have bw42_240_45 := (fi_240_45 Tw42).2
            refine h_get M_209 q_209_240 Tw42 ro_240 (by decide) kd_241 (fi_240_45 Tw42).1 ?_
            refine g_A (st1 := [.int (1 : Int32), .int (m4X w42 240 45), .ref 240]) M_209 q_209_243 rfl ?_
            refine h_iadd M_209 q_209_244 (by omega) (by omega) (fun u43 hu43 => ?_)
            refine h_put M_209 q_209_245 Tw42 ro_240 (by decide) kd_241 ln_241 (by decide) (m4_fitI rfl) (m4_hasI ty_241_45 (by omega) (by omega)) (fun w44 Tw44 Uw44 => ?_)
            have tw44_240_45 := Uw44.at
            have tw44_240_3 := Uw44.ne (b := 240) (j := 3) (by decide)
            have tw44_240_4 := Uw44.ne (b := 240) (j := 4) (by decide)
            have tw44_240_7 := Uw44.ne (b := 240) (j := 7) (by decide)
            have tw44_240_8 := Uw44.ne (b := 240) (j := 8) (by decide)
            have tw44_240_43 := Uw44.ne (b := 240) (j := 43) (by decide)
            have tw44_240_44 := Uw44.ne (b := 240) (j := 44) (by decide)
            have tw44_240_46 := Uw44.ne (b := 240) (j := 46) (by decide)
            have tw44_240_47 := Uw44.ne (b := 240) (j := 47) (by decide)
            refine g_A (st1 := [.int (1 : Int32)]) M_209 q_209_248 rfl ?_
            refine g_ret (v := some (.int (1 : Int32))) M_209 q_209_249 (h_rtZ) ?_
            have kb : m4Kb b w w44 := (((((m4Kb_up Uw28 (by unfold m4Kp m4Kq; omega)).trans (m4Kb_up Uw31 (by unfold m4Kp m4Kq; omega))).trans (m4Kb_kp kw39 (by decide))).trans (m4Kb_fld sw42 (fun a k hk => fw42 a k (by unfold m4Kp m4Kq at hk; omega) (by unfold m4Kp m4Kq at hk; omega)))).trans (m4Kb_up Uw44 (by unfold m4Kp m4Kq; omega)))
            have e46 : (m4X w39 240 46).toInt.toNat = (m4X w 240 46).toInt.toNat := by omega
            have ie : m4IE b fr ((3, 126) :: T) true w44 := m4IE_push h Tw44 (by omega) (by omega) (by omega) ((((((Uw44.X (b := 240) (j := 44) (by omega))).trans (m4X_fld (fw42 240 44 (by omega) (by omega)))).trans (kw39.X (a := 240) (k := 44) ro_240 rfl)).trans (Uw31.X (b := 240) (j := 44) (by omega))).trans (Uw28.X (b := 240) (j := 44) (by omega))) (by omega) (by omega) (by omega) (fun k => (((((Uw44.X (b := 269) (j := k) (by omega))).trans (m4X_fld (fw42 269 k (by omega) (by omega)))).trans (kw39.X (a := 269) (k := k) ro_269 rfl)).trans (Uw31.X (b := 269) (j := k) (by omega))).trans (Uw28.X (b := 269) (j := k) (by omega))) (fun j hj => ⟨(((((Uw44.X (b := 271) (j := j) (by omega))).trans (m4X_fld (fw42 271 j (by omega) (by omega)))).trans (kw39.X (a := 271) (k := j) ro_271 rfl)).trans (Uw31.X (b := 271) (j := j) (by omega))).trans (Uw28.X (b := 271) (j := j) (by omega)), (((((Uw44.X (b := 272) (j := j) (by omega))).trans (m4X_fld (fw42 272 j (by omega) (by omega)))).trans (kw39.X (a := 272) (k := j) ro_272 rfl)).trans (Uw31.X (b := 272) (j := j) (by omega))).trans (Uw28.X (b := 272) (j := j) (by omega))⟩) (by rw [← e46, Uw44.X (Or.inl (by decide)), pw42.1]; rfl) (by rw [← e46, Uw44.X (Or.inl (by decide)), pw42.2]; rfl)
            have mf := m4Mu_eq (w := w39) (w1 := w44) (by omega) (by omega)
            have mi := m4Mu_eq (w := w) (w1 := w31) (by omega) (by omega)
            exact ⟨Tw44, kb, by omega, _, rfl, Or.inr ⟨by omega, Or.inl (by have := muw39.2 (by omega); omega), Or.inl ⟨rfl, _, ie⟩⟩⟩
        · exfalso; omega
theorem H_un2 {sc : List Int32} {b : Nat} {fr : Int} {T : List (Int × Int)} {w : MjW} {bg nt br c fl : Int32} {l6 : Option Value} (h : m4IE b fr T true w) (hg : (m4X w 240 4).toInt = 0) (n0 : 0 ≤ nt.toInt) (n1 : nt.toInt ≤ 1) (nt3 : nt.toInt = 1 → (m4X w 240 8).toInt = 3) (r0 : 0 ≤ br.toInt) (r1 : br.toInt ≤ 1) (br5 : br.toInt = 1 → (m4X w 240 8).toInt = 5) (hc : c.toInt = 0 ∨ (97 ≤ c.toInt ∧ c.toInt ≤ 122 ∧ (m4X w 240 8).toInt = 3)) (f0 : 0 ≤ fl.toInt) (f1 : fl.toInt = 0 → (m4X w 240 47).toInt ≠ 30) : mjGo mjTb mjMt sc (3 + 1) 209 (100, [some (.ref 240), some (.int bg), some (.int nt), some (.int br), some (.int c), some (.int fl), l6], [], w) (fun r w1 => mjTyd m4S w1 ∧ m4Kb b w w1 ∧ (m4X w1 240 7).toInt ≤ (m4X w1 240 3).toInt ∧ ∃ u : Int32, r = some (.int u) ∧ (¬ (m4X w1 240 4).toInt = 0 ∨ ((m4X w1 240 4).toInt = 0 ∧ (m4Mu w1 < m4Mu w ∨ (m4Mu w1 ≤ m4Mu w ∧ (m4X w1 240 46).toInt < (m4X w 240 46).toInt)) ∧ ((u.toInt = 1 ∧ ∃ T1, m4IE b fr T1 true w1) ∨ (u.toInt = 0 ∧ (((m4X w1 240 46).toInt = 0 ∧ m4Hs w1 fr 1 ∧ fr ≤ (m4X w1 240 44).toInt ∧ (m4X w1 240 44).toInt ≤ fr + 280) ∨ ∃ T1, m4IE b fr T1 false w1)))))) := by
  have Tw := h.1
  have he := h.2.1
  have hrb := h.2.2.1
  have bd := m4IE_bd h
  have hp46 := h.2.2.2.2.1
  have hfr := h.2.2.2.2.2.2.2.1
  have k_1 := c_1
  have k_4 := c_4
  have k_7 := c_7
  refine g_L (v := .int nt) (n := 1) M_209 q_209_100 rfl ?_
  refine g_if M_209 q_209_101 mjCz_ne (fun b1 => ?_) (fun b1 => ?_)
  · refine g_L (v := .int nt) (n := 1) M_209 q_209_126 rfl ?_
    refine g_if M_209 q_209_127 mjCz_ne (fun b2 => ?_) (fun b2 => ?_)
    · refine g_L (v := .ref 240) (n := 1) M_209 q_209_134 rfl ?_
      have bw_240_45 := (fi_240_45 Tw).2
      refine h_get M_209 q_209_135 Tw ro_240 (by decide) kd_241 (fi_240_45 Tw).1 ?_
      refine g_P (v := .int (7 : Int32)) (n := 2) M_209 q_209_138 rfl ?_
      refine g_icmp M_209 q_209_140 mjCi_ne (fun b3 => ?_) (fun b3 => ?_)
      · refine g_L (v := .ref 240) (n := 1) M_209 q_209_147 rfl ?_
        refine h_run (as := [.ref 240]) (rest := []) (M1 := mjM_187) (d1 := 0) (ls0 := [some (.ref 240)]) M_209 q_209_148 (h_cv Tw ro_240 (by decide) kd_241 (by decide) (show 0 ≤ 1 by decide) rfl (show 0 ≤ 8 by decide)) M_187 (show 1 ≤ 1 by decide) (by decide) rfl (by omega) (H_isGood Tw) (fun u4 hu4 => ?_)
        refine g_if M_209 q_209_151 mjCz_ne (fun b5 => ?_) (fun b5 => ?_)
        · exact H_un3 h hg n0 n1 r0 r1 (by omega) (by omega) (by omega) (by omega)
        · refine g_A (st1 := [.int (1 : Int32)]) M_209 q_209_154 rfl ?_
          refine g_ret (v := some (.int (1 : Int32))) M_209 q_209_155 (h_rtZ) ?_
          exfalso; omega
      · refine g_L (v := .ref 240) (n := 1) M_209 q_209_143 rfl ?_
        refine h_ctr (J := m4Q w (m4Mu w)) (sm := mjSm_r_8) (as := [.ref 240]) (rest := []) (M1 := mjM_192) M_209 q_209_144 (h_cv Tw ro_240 (by decide) kd_241 (by decide) (show 0 ≤ 1 by decide) rfl (show 0 ≤ 8 by decide)) M_192 (show 1 ≤ 1 by decide) (by decide) (by decide) (mjC_r_8 (m4Q_ok _ _) (H_r _ _)) ⟨Tw, m4Q_refl (by omega)⟩ ⟨⟨240, rfl, rfl⟩, trivial⟩ (fun q hq => by cases hq) (fun r w6 hp => ?_)
        obtain ⟨rfl, Tw6, Qw6, kpw6, fkw6⟩ := H_misp hp
        show mjGo mjTb mjMt sc _ 209 (147, [some (.ref 240), some (.int bg), some (.int nt), some (.int br), some (.int c), some (.int fl), l6], [], w6) _
        refine g_L (v := .ref 240) (n := 1) M_209 q_209_147 rfl ?_
        refine h_run (as := [.ref 240]) (rest := []) (M1 := mjM_187) (d1 := 0) (ls0 := [some (.ref 240)]) M_209 q_209_148 (h_cv Tw6 ro_240 (by decide) kd_241 (by decide) (show 0 ≤ 1 by decide) rfl (show 0 ≤ 8 by decide)) M_187 (show 1 ≤ 1 by decide) (by decide) rfl (by omega) (H_isGood Tw6) (fun u7 hu7 => ?_)
        refine g_if M_209 q_209_151 mjCz_ne (fun b8 => ?_) (fun b8 => ?_)
        · exfalso; omega
        · refine g_A (st1 := [.int (1 : Int32)]) M_209 q_209_154 rfl ?_
          refine g_ret (v := some (.int (1 : Int32))) M_209 q_209_155 (h_rtZ) ?_
          exact ⟨Tw6, (m4Kb_Q Qw6 kpw6.1), Qw6.2.1, _, rfl, Or.inl (by omega)⟩
    · refine g_L (v := .int br) (n := 1) M_209 q_209_130 rfl ?_
      refine g_if M_209 q_209_131 mjCz_eq (fun b9 => ?_) (fun b9 => ?_)
      · refine g_L (v := .ref 240) (n := 1) M_209 q_209_147 rfl ?_
        refine h_run (as := [.ref 240]) (rest := []) (M1 := mjM_187) (d1 := 0) (ls0 := [some (.ref 240)]) M_209 q_209_148 (h_cv Tw ro_240 (by decide) kd_241 (by decide) (show 0 ≤ 1 by decide) rfl (show 0 ≤ 8 by decide)) M_187 (show 1 ≤ 1 by decide) (by decide) rfl (by omega) (H_isGood Tw) (fun u10 hu10 => ?_)
        refine g_if M_209 q_209_151 mjCz_ne (fun b11 => ?_) (fun b11 => ?_)
        · exact H_un3 h hg n0 n1 r0 r1 (by omega) (by omega) (by omega) (by omega)
        · refine g_A (st1 := [.int (1 : Int32)]) M_209 q_209_154 rfl ?_
          refine g_ret (v := some (.int (1 : Int32))) M_209 q_209_155 (h_rtZ) ?_
          exfalso; omega
      · refine g_L (v := .ref 240) (n := 1) M_209 q_209_134 rfl ?_
        have bw_240_45 := (fi_240_45 Tw).2
        refine h_get M_209 q_209_135 Tw ro_240 (by decide) kd_241 (fi_240_45 Tw).1 ?_
        refine g_P (v := .int (7 : Int32)) (n := 2) M_209 q_209_138 rfl ?_
        refine g_icmp M_209 q_209_140 mjCi_ne (fun b12 => ?_) (fun b12 => ?_)
        · refine g_L (v := .ref 240) (n := 1) M_209 q_209_147 rfl ?_
          refine h_run (as := [.ref 240]) (rest := []) (M1 := mjM_187) (d1 := 0) (ls0 := [some (.ref 240)]) M_209 q_209_148 (h_cv Tw ro_240 (by decide) kd_241 (by decide) (show 0 ≤ 1 by decide) rfl (show 0 ≤ 8 by decide)) M_187 (show 1 ≤ 1 by decide) (by decide) rfl (by omega) (H_isGood Tw) (fun u13 hu13 => ?_)
          refine g_if M_209 q_209_151 mjCz_ne (fun b14 => ?_) (fun b14 => ?_)
          · exact H_un3 h hg n0 n1 r0 r1 (by omega) (by omega) (by omega) (by omega)
          · refine g_A (st1 := [.int (1 : Int32)]) M_209 q_209_154 rfl ?_
            refine g_ret (v := some (.int (1 : Int32))) M_209 q_209_155 (h_rtZ) ?_
            exfalso; omega
        · refine g_L (v := .ref 240) (n := 1) M_209 q_209_143 rfl ?_
          refine h_ctr (J := m4Q w (m4Mu w)) (sm := mjSm_r_8) (as := [.ref 240]) (rest := []) (M1 := mjM_192) M_209 q_209_144 (h_cv Tw ro_240 (by decide) kd_241 (by decide) (show 0 ≤ 1 by decide) rfl (show 0 ≤ 8 by decide)) M_192 (show 1 ≤ 1 by decide) (by decide) (by decide) (mjC_r_8 (m4Q_ok _ _) (H_r _ _)) ⟨Tw, m4Q_refl (by omega)⟩ ⟨⟨240, rfl, rfl⟩, trivial⟩ (fun q hq => by cases hq) (fun r w15 hp => ?_)
          obtain ⟨rfl, Tw15, Qw15, kpw15, fkw15⟩ := H_misp hp
          show mjGo mjTb mjMt sc _ 209 (147, [some (.ref 240), some (.int bg), some (.int nt), some (.int br), some (.int c), some (.int fl), l6], [], w15) _
          refine g_L (v := .ref 240) (n := 1) M_209 q_209_147 rfl ?_
          refine h_run (as := [.ref 240]) (rest := []) (M1 := mjM_187) (d1 := 0) (ls0 := [some (.ref 240)]) M_209 q_209_148 (h_cv Tw15 ro_240 (by decide) kd_241 (by decide) (show 0 ≤ 1 by decide) rfl (show 0 ≤ 8 by decide)) M_187 (show 1 ≤ 1 by decide) (by decide) rfl (by omega) (H_isGood Tw15) (fun u16 hu16 => ?_)
          refine g_if M_209 q_209_151 mjCz_ne (fun b17 => ?_) (fun b17 => ?_)
          · exfalso; omega
          · refine g_A (st1 := [.int (1 : Int32)]) M_209 q_209_154 rfl ?_
            refine g_ret (v := some (.int (1 : Int32))) M_209 q_209_155 (h_rtZ) ?_
            exact ⟨Tw15, (m4Kb_Q Qw15 kpw15.1), Qw15.2.1, _, rfl, Or.inl (by omega)⟩
  · refine g_L (v := .int c) (n := 2) M_209 q_209_104 rfl ?_
    refine g_if M_209 q_209_106 mjCz_ne (fun b18 => ?_) (fun b18 => ?_)
    · refine g_L (v := .int fl) (n := 2) M_209 q_209_121 rfl ?_
      refine g_if M_209 q_209_123 mjCz_ne (fun b19 => ?_) (fun b19 => ?_)
      · refine g_L (v := .ref 240) (n := 1) M_209 q_209_143 rfl ?_
        refine h_ctr (J := m4Q w (m4Mu w)) (sm := mjSm_r_8) (as := [.ref 240]) (rest := []) (M1 := mjM_192) M_209 q_209_144 (h_cv Tw ro_240 (by decide) kd_241 (by decide) (show 0 ≤ 1 by decide) rfl (show 0 ≤ 8 by decide)) M_192 (show 1 ≤ 1 by decide) (by decide) (by decide) (mjC_r_8 (m4Q_ok _ _) (H_r _ _)) ⟨Tw, m4Q_refl (by omega)⟩ ⟨⟨240, rfl, rfl⟩, trivial⟩ (fun q hq => by cases hq) (fun r w20 hp => ?_)
        obtain ⟨rfl, Tw20, Qw20, kpw20, fkw20⟩ := H_misp hp
        show mjGo mjTb mjMt sc _ 209 (147, [some (.ref 240), some (.int bg), some (.int nt), some (.int br), some (.int c), some (.int fl), l6], [], w20) _
        refine g_L (v := .ref 240) (n := 1) M_209 q_209_147 rfl ?_
        refine h_run (as := [.ref 240]) (rest := []) (M1 := mjM_187) (d1 := 0) (ls0 := [some (.ref 240)]) M_209 q_209_148 (h_cv Tw20 ro_240 (by decide) kd_241 (by decide) (show 0 ≤ 1 by decide) rfl (show 0 ≤ 8 by decide)) M_187 (show 1 ≤ 1 by decide) (by decide) rfl (by omega) (H_isGood Tw20) (fun u21 hu21 => ?_)
        refine g_if M_209 q_209_151 mjCz_ne (fun b22 => ?_) (fun b22 => ?_)
        · exfalso; omega
        · refine g_A (st1 := [.int (1 : Int32)]) M_209 q_209_154 rfl ?_
          refine g_ret (v := some (.int (1 : Int32))) M_209 q_209_155 (h_rtZ) ?_
          exact ⟨Tw20, (m4Kb_Q Qw20 kpw20.1), Qw20.2.1, _, rfl, Or.inl (by omega)⟩
      · refine g_L (v := .int nt) (n := 1) M_209 q_209_126 rfl ?_
        refine g_if M_209 q_209_127 mjCz_ne (fun b23 => ?_) (fun b23 => ?_)
        · refine g_L (v := .ref 240) (n := 1) M_209 q_209_134 rfl ?_
          have bw_240_45 := (fi_240_45 Tw).2
          refine h_get M_209 q_209_135 Tw ro_240 (by decide) kd_241 (fi_240_45 Tw).1 ?_
          refine g_P (v := .int (7 : Int32)) (n := 2) M_209 q_209_138 rfl ?_
          refine g_icmp M_209 q_209_140 mjCi_ne (fun b24 => ?_) (fun b24 => ?_)
          · refine g_L (v := .ref 240) (n := 1) M_209 q_209_147 rfl ?_
            refine h_run (as := [.ref 240]) (rest := []) (M1 := mjM_187) (d1 := 0) (ls0 := [some (.ref 240)]) M_209 q_209_148 (h_cv Tw ro_240 (by decide) kd_241 (by decide) (show 0 ≤ 1 by decide) rfl (show 0 ≤ 8 by decide)) M_187 (show 1 ≤ 1 by decide) (by decide) rfl (by omega) (H_isGood Tw) (fun u25 hu25 => ?_)
            refine g_if M_209 q_209_151 mjCz_ne (fun b26 => ?_) (fun b26 => ?_)
            · exact H_un3 h hg n0 n1 r0 r1 (by omega) (by omega) (by omega) (by omega)
            · refine g_A (st1 := [.int (1 : Int32)]) M_209 q_209_154 rfl ?_
              refine g_ret (v := some (.int (1 : Int32))) M_209 q_209_155 (h_rtZ) ?_
              exfalso; omega
          · refine g_L (v := .ref 240) (n := 1) M_209 q_209_143 rfl ?_
            refine h_ctr (J := m4Q w (m4Mu w)) (sm := mjSm_r_8) (as := [.ref 240]) (rest := []) (M1 := mjM_192) M_209 q_209_144 (h_cv Tw ro_240 (by decide) kd_241 (by decide) (show 0 ≤ 1 by decide) rfl (show 0 ≤ 8 by decide)) M_192 (show 1 ≤ 1 by decide) (by decide) (by decide) (mjC_r_8 (m4Q_ok _ _) (H_r _ _)) ⟨Tw, m4Q_refl (by omega)⟩ ⟨⟨240, rfl, rfl⟩, trivial⟩ (fun q hq => by cases hq) (fun r w27 hp => ?_)
            obtain ⟨rfl, Tw27, Qw27, kpw27, fkw27⟩ := H_misp hp
            show mjGo mjTb mjMt sc _ 209 (147, [some (.ref 240), some (.int bg), some (.int nt), some (.int br), some (.int c), some (.int fl), l6], [], w27) _
            refine g_L (v := .ref 240) (n := 1) M_209 q_209_147 rfl ?_
            refine h_run (as := [.ref 240]) (rest := []) (M1 := mjM_187) (d1 := 0) (ls0 := [some (.ref 240)]) M_209 q_209_148 (h_cv Tw27 ro_240 (by decide) kd_241 (by decide) (show 0 ≤ 1 by decide) rfl (show 0 ≤ 8 by decide)) M_187 (show 1 ≤ 1 by decide) (by decide) rfl (by omega) (H_isGood Tw27) (fun u28 hu28 => ?_)
            refine g_if M_209 q_209_151 mjCz_ne (fun b29 => ?_) (fun b29 => ?_)
            · exfalso; omega
            · refine g_A (st1 := [.int (1 : Int32)]) M_209 q_209_154 rfl ?_
              refine g_ret (v := some (.int (1 : Int32))) M_209 q_209_155 (h_rtZ) ?_
              exact ⟨Tw27, (m4Kb_Q Qw27 kpw27.1), Qw27.2.1, _, rfl, Or.inl (by omega)⟩
        · refine g_L (v := .int br) (n := 1) M_209 q_209_130 rfl ?_
          refine g_if M_209 q_209_131 mjCz_eq (fun b30 => ?_) (fun b30 => ?_)
          · refine g_L (v := .ref 240) (n := 1) M_209 q_209_147 rfl ?_
            refine h_run (as := [.ref 240]) (rest := []) (M1 := mjM_187) (d1 := 0) (ls0 := [some (.ref 240)]) M_209 q_209_148 (h_cv Tw ro_240 (by decide) kd_241 (by decide) (show 0 ≤ 1 by decide) rfl (show 0 ≤ 8 by decide)) M_187 (show 1 ≤ 1 by decide) (by decide) rfl (by omega) (H_isGood Tw) (fun u31 hu31 => ?_)
            refine g_if M_209 q_209_151 mjCz_ne (fun b32 => ?_) (fun b32 => ?_)
            · exact H_un3 h hg n0 n1 r0 r1 (by omega) (by omega) (by omega) (by omega)
            · refine g_A (st1 := [.int (1 : Int32)]) M_209 q_209_154 rfl ?_
              refine g_ret (v := some (.int (1 : Int32))) M_209 q_209_155 (h_rtZ) ?_
              exfalso; omega
          · refine g_L (v := .ref 240) (n := 1) M_209 q_209_134 rfl ?_
            have bw_240_45 := (fi_240_45 Tw).2
            refine h_get M_209 q_209_135 Tw ro_240 (by decide) kd_241 (fi_240_45 Tw).1 ?_
            refine g_P (v := .int (7 : Int32)) (n := 2) M_209 q_209_138 rfl ?_
            refine g_icmp M_209 q_209_140 mjCi_ne (fun b33 => ?_) (fun b33 => ?_)
            · refine g_L (v := .ref 240) (n := 1) M_209 q_209_147 rfl ?_
              refine h_run (as := [.ref 240]) (rest := []) (M1 := mjM_187) (d1 := 0) (ls0 := [some (.ref 240)]) M_209 q_209_148 (h_cv Tw ro_240 (by decide) kd_241 (by decide) (show 0 ≤ 1 by decide) rfl (show 0 ≤ 8 by decide)) M_187 (show 1 ≤ 1 by decide) (by decide) rfl (by omega) (H_isGood Tw) (fun u34 hu34 => ?_)
              refine g_if M_209 q_209_151 mjCz_ne (fun b35 => ?_) (fun b35 => ?_)
              · exact H_un3 h hg n0 n1 r0 r1 (by omega) (by omega) (by omega) (by omega)
              · refine g_A (st1 := [.int (1 : Int32)]) M_209 q_209_154 rfl ?_
                refine g_ret (v := some (.int (1 : Int32))) M_209 q_209_155 (h_rtZ) ?_
                exfalso; omega
            · refine g_L (v := .ref 240) (n := 1) M_209 q_209_143 rfl ?_
              refine h_ctr (J := m4Q w (m4Mu w)) (sm := mjSm_r_8) (as := [.ref 240]) (rest := []) (M1 := mjM_192) M_209 q_209_144 (h_cv Tw ro_240 (by decide) kd_241 (by decide) (show 0 ≤ 1 by decide) rfl (show 0 ≤ 8 by decide)) M_192 (show 1 ≤ 1 by decide) (by decide) (by decide) (mjC_r_8 (m4Q_ok _ _) (H_r _ _)) ⟨Tw, m4Q_refl (by omega)⟩ ⟨⟨240, rfl, rfl⟩, trivial⟩ (fun q hq => by cases hq) (fun r w36 hp => ?_)
              obtain ⟨rfl, Tw36, Qw36, kpw36, fkw36⟩ := H_misp hp
              show mjGo mjTb mjMt sc _ 209 (147, [some (.ref 240), some (.int bg), some (.int nt), some (.int br), some (.int c), some (.int fl), l6], [], w36) _
              refine g_L (v := .ref 240) (n := 1) M_209 q_209_147 rfl ?_
              refine h_run (as := [.ref 240]) (rest := []) (M1 := mjM_187) (d1 := 0) (ls0 := [some (.ref 240)]) M_209 q_209_148 (h_cv Tw36 ro_240 (by decide) kd_241 (by decide) (show 0 ≤ 1 by decide) rfl (show 0 ≤ 8 by decide)) M_187 (show 1 ≤ 1 by decide) (by decide) rfl (by omega) (H_isGood Tw36) (fun u37 hu37 => ?_)
              refine g_if M_209 q_209_151 mjCz_ne (fun b38 => ?_) (fun b38 => ?_)
              · exfalso; omega
              · refine g_A (st1 := [.int (1 : Int32)]) M_209 q_209_154 rfl ?_
                refine g_ret (v := some (.int (1 : Int32))) M_209 q_209_155 (h_rtZ) ?_
                exact ⟨Tw36, (m4Kb_Q Qw36 kpw36.1), Qw36.2.1, _, rfl, Or.inl (by omega)⟩
    · refine g_L (v := .ref 240) (n := 1) M_209 q_209_109 rfl ?_
      have bw_240_8 := (fi_240_8 Tw).2
      refine h_get M_209 q_209_110 Tw ro_240 (by decide) kd_241 (fi_240_8 Tw).1 ?_
      refine g_A (st1 := [.int (4 : Int32), .int (m4X w 240 8)]) M_209 q_209_113 rfl ?_
      refine g_icmp M_209 q_209_114 mjCi_eq (fun b39 => ?_) (fun b39 => ?_)
      · refine g_L (v := .int fl) (n := 2) M_209 q_209_121 rfl ?_
        refine g_if M_209 q_209_123 mjCz_ne (fun b40 => ?_) (fun b40 => ?_)
        · refine g_L (v := .ref 240) (n := 1) M_209 q_209_143 rfl ?_
          refine h_ctr (J := m4Q w (m4Mu w)) (sm := mjSm_r_8) (as := [.ref 240]) (rest := []) (M1 := mjM_192) M_209 q_209_144 (h_cv Tw ro_240 (by decide) kd_241 (by decide) (show 0 ≤ 1 by decide) rfl (show 0 ≤ 8 by decide)) M_192 (show 1 ≤ 1 by decide) (by decide) (by decide) (mjC_r_8 (m4Q_ok _ _) (H_r _ _)) ⟨Tw, m4Q_refl (by omega)⟩ ⟨⟨240, rfl, rfl⟩, trivial⟩ (fun q hq => by cases hq) (fun r w41 hp => ?_)
          obtain ⟨rfl, Tw41, Qw41, kpw41, fkw41⟩ := H_misp hp
          show mjGo mjTb mjMt sc _ 209 (147, [some (.ref 240), some (.int bg), some (.int nt), some (.int br), some (.int c), some (.int fl), l6], [], w41) _
          refine g_L (v := .ref 240) (n := 1) M_209 q_209_147 rfl ?_
          refine h_run (as := [.ref 240]) (rest := []) (M1 := mjM_187) (d1 := 0) (ls0 := [some (.ref 240)]) M_209 q_209_148 (h_cv Tw41 ro_240 (by decide) kd_241 (by decide) (show 0 ≤ 1 by decide) rfl (show 0 ≤ 8 by decide)) M_187 (show 1 ≤ 1 by decide) (by decide) rfl (by omega) (H_isGood Tw41) (fun u42 hu42 => ?_)
          refine g_if M_209 q_209_151 mjCz_ne (fun b43 => ?_) (fun b43 => ?_)
          · exfalso; omega
          · refine g_A (st1 := [.int (1 : Int32)]) M_209 q_209_154 rfl ?_
            refine g_ret (v := some (.int (1 : Int32))) M_209 q_209_155 (h_rtZ) ?_
            exact ⟨Tw41, (m4Kb_Q Qw41 kpw41.1), Qw41.2.1, _, rfl, Or.inl (by omega)⟩
        · refine g_L (v := .int nt) (n := 1) M_209 q_209_126 rfl ?_
          refine g_if M_209 q_209_127 mjCz_ne (fun b44 => ?_) (fun b44 => ?_)
          · refine g_L (v := .ref 240) (n := 1) M_209 q_209_134 rfl ?_
            have bw_240_45 := (fi_240_45 Tw).2
            refine h_get M_209 q_209_135 Tw ro_240 (by decide) kd_241 (fi_240_45 Tw).1 ?_
            refine g_P (v := .int (7 : Int32)) (n := 2) M_209 q_209_138 rfl ?_
            refine g_icmp M_209 q_209_140 mjCi_ne (fun b45 => ?_) (fun b45 => ?_)
            · refine g_L (v := .ref 240) (n := 1) M_209 q_209_147 rfl ?_
              refine h_run (as := [.ref 240]) (rest := []) (M1 := mjM_187) (d1 := 0) (ls0 := [some (.ref 240)]) M_209 q_209_148 (h_cv Tw ro_240 (by decide) kd_241 (by decide) (show 0 ≤ 1 by decide) rfl (show 0 ≤ 8 by decide)) M_187 (show 1 ≤ 1 by decide) (by decide) rfl (by omega) (H_isGood Tw) (fun u46 hu46 => ?_)
              refine g_if M_209 q_209_151 mjCz_ne (fun b47 => ?_) (fun b47 => ?_)
              · exact H_un3 h hg n0 n1 r0 r1 (by omega) (by omega) (by omega) (by omega)
              · refine g_A (st1 := [.int (1 : Int32)]) M_209 q_209_154 rfl ?_
                refine g_ret (v := some (.int (1 : Int32))) M_209 q_209_155 (h_rtZ) ?_
                exfalso; omega
            · refine g_L (v := .ref 240) (n := 1) M_209 q_209_143 rfl ?_
              refine h_ctr (J := m4Q w (m4Mu w)) (sm := mjSm_r_8) (as := [.ref 240]) (rest := []) (M1 := mjM_192) M_209 q_209_144 (h_cv Tw ro_240 (by decide) kd_241 (by decide) (show 0 ≤ 1 by decide) rfl (show 0 ≤ 8 by decide)) M_192 (show 1 ≤ 1 by decide) (by decide) (by decide) (mjC_r_8 (m4Q_ok _ _) (H_r _ _)) ⟨Tw, m4Q_refl (by omega)⟩ ⟨⟨240, rfl, rfl⟩, trivial⟩ (fun q hq => by cases hq) (fun r w48 hp => ?_)
              obtain ⟨rfl, Tw48, Qw48, kpw48, fkw48⟩ := H_misp hp
              show mjGo mjTb mjMt sc _ 209 (147, [some (.ref 240), some (.int bg), some (.int nt), some (.int br), some (.int c), some (.int fl), l6], [], w48) _
              refine g_L (v := .ref 240) (n := 1) M_209 q_209_147 rfl ?_
              refine h_run (as := [.ref 240]) (rest := []) (M1 := mjM_187) (d1 := 0) (ls0 := [some (.ref 240)]) M_209 q_209_148 (h_cv Tw48 ro_240 (by decide) kd_241 (by decide) (show 0 ≤ 1 by decide) rfl (show 0 ≤ 8 by decide)) M_187 (show 1 ≤ 1 by decide) (by decide) rfl (by omega) (H_isGood Tw48) (fun u49 hu49 => ?_)
              refine g_if M_209 q_209_151 mjCz_ne (fun b50 => ?_) (fun b50 => ?_)
              · exfalso; omega
              · refine g_A (st1 := [.int (1 : Int32)]) M_209 q_209_154 rfl ?_
                refine g_ret (v := some (.int (1 : Int32))) M_209 q_209_155 (h_rtZ) ?_
                exact ⟨Tw48, (m4Kb_Q Qw48 kpw48.1), Qw48.2.1, _, rfl, Or.inl (by omega)⟩
          · refine g_L (v := .int br) (n := 1) M_209 q_209_130 rfl ?_
            refine g_if M_209 q_209_131 mjCz_eq (fun b51 => ?_) (fun b51 => ?_)
            · refine g_L (v := .ref 240) (n := 1) M_209 q_209_147 rfl ?_
              refine h_run (as := [.ref 240]) (rest := []) (M1 := mjM_187) (d1 := 0) (ls0 := [some (.ref 240)]) M_209 q_209_148 (h_cv Tw ro_240 (by decide) kd_241 (by decide) (show 0 ≤ 1 by decide) rfl (show 0 ≤ 8 by decide)) M_187 (show 1 ≤ 1 by decide) (by decide) rfl (by omega) (H_isGood Tw) (fun u52 hu52 => ?_)
              refine g_if M_209 q_209_151 mjCz_ne (fun b53 => ?_) (fun b53 => ?_)
              · exact H_un3 h hg n0 n1 r0 r1 (by omega) (by omega) (by omega) (by omega)
              · refine g_A (st1 := [.int (1 : Int32)]) M_209 q_209_154 rfl ?_
                refine g_ret (v := some (.int (1 : Int32))) M_209 q_209_155 (h_rtZ) ?_
                exfalso; omega
            · refine g_L (v := .ref 240) (n := 1) M_209 q_209_134 rfl ?_
              have bw_240_45 := (fi_240_45 Tw).2
              refine h_get M_209 q_209_135 Tw ro_240 (by decide) kd_241 (fi_240_45 Tw).1 ?_
              refine g_P (v := .int (7 : Int32)) (n := 2) M_209 q_209_138 rfl ?_
              refine g_icmp M_209 q_209_140 mjCi_ne (fun b54 => ?_) (fun b54 => ?_)
              · refine g_L (v := .ref 240) (n := 1) M_209 q_209_147 rfl ?_
                refine h_run (as := [.ref 240]) (rest := []) (M1 := mjM_187) (d1 := 0) (ls0 := [some (.ref 240)]) M_209 q_209_148 (h_cv Tw ro_240 (by decide) kd_241 (by decide) (show 0 ≤ 1 by decide) rfl (show 0 ≤ 8 by decide)) M_187 (show 1 ≤ 1 by decide) (by decide) rfl (by omega) (H_isGood Tw) (fun u55 hu55 => ?_)
                refine g_if M_209 q_209_151 mjCz_ne (fun b56 => ?_) (fun b56 => ?_)
                · exact H_un3 h hg n0 n1 r0 r1 (by omega) (by omega) (by omega) (by omega)
                · refine g_A (st1 := [.int (1 : Int32)]) M_209 q_209_154 rfl ?_
                  refine g_ret (v := some (.int (1 : Int32))) M_209 q_209_155 (h_rtZ) ?_
                  exfalso; omega
              · refine g_L (v := .ref 240) (n := 1) M_209 q_209_143 rfl ?_
                refine h_ctr (J := m4Q w (m4Mu w)) (sm := mjSm_r_8) (as := [.ref 240]) (rest := []) (M1 := mjM_192) M_209 q_209_144 (h_cv Tw ro_240 (by decide) kd_241 (by decide) (show 0 ≤ 1 by decide) rfl (show 0 ≤ 8 by decide)) M_192 (show 1 ≤ 1 by decide) (by decide) (by decide) (mjC_r_8 (m4Q_ok _ _) (H_r _ _)) ⟨Tw, m4Q_refl (by omega)⟩ ⟨⟨240, rfl, rfl⟩, trivial⟩ (fun q hq => by cases hq) (fun r w57 hp => ?_)
                obtain ⟨rfl, Tw57, Qw57, kpw57, fkw57⟩ := H_misp hp
                show mjGo mjTb mjMt sc _ 209 (147, [some (.ref 240), some (.int bg), some (.int nt), some (.int br), some (.int c), some (.int fl), l6], [], w57) _
                refine g_L (v := .ref 240) (n := 1) M_209 q_209_147 rfl ?_
                refine h_run (as := [.ref 240]) (rest := []) (M1 := mjM_187) (d1 := 0) (ls0 := [some (.ref 240)]) M_209 q_209_148 (h_cv Tw57 ro_240 (by decide) kd_241 (by decide) (show 0 ≤ 1 by decide) rfl (show 0 ≤ 8 by decide)) M_187 (show 1 ≤ 1 by decide) (by decide) rfl (by omega) (H_isGood Tw57) (fun u58 hu58 => ?_)
                refine g_if M_209 q_209_151 mjCz_ne (fun b59 => ?_) (fun b59 => ?_)
                · exfalso; omega
                · refine g_A (st1 := [.int (1 : Int32)]) M_209 q_209_154 rfl ?_
                  refine g_ret (v := some (.int (1 : Int32))) M_209 q_209_155 (h_rtZ) ?_
                  exact ⟨Tw57, (m4Kb_Q Qw57 kpw57.1), Qw57.2.1, _, rfl, Or.inl (by omega)⟩
      · refine g_L (v := .int br) (n := 1) M_209 q_209_117 rfl ?_
        refine g_if M_209 q_209_118 mjCz_eq (fun b60 => ?_) (fun b60 => ?_)
        · refine g_L (v := .ref 240) (n := 1) M_209 q_209_143 rfl ?_
          refine h_ctr (J := m4Q w (m4Mu w)) (sm := mjSm_r_8) (as := [.ref 240]) (rest := []) (M1 := mjM_192) M_209 q_209_144 (h_cv Tw ro_240 (by decide) kd_241 (by decide) (show 0 ≤ 1 by decide) rfl (show 0 ≤ 8 by decide)) M_192 (show 1 ≤ 1 by decide) (by decide) (by decide) (mjC_r_8 (m4Q_ok _ _) (H_r _ _)) ⟨Tw, m4Q_refl (by omega)⟩ ⟨⟨240, rfl, rfl⟩, trivial⟩ (fun q hq => by cases hq) (fun r w61 hp => ?_)
          obtain ⟨rfl, Tw61, Qw61, kpw61, fkw61⟩ := H_misp hp
          show mjGo mjTb mjMt sc _ 209 (147, [some (.ref 240), some (.int bg), some (.int nt), some (.int br), some (.int c), some (.int fl), l6], [], w61) _
          refine g_L (v := .ref 240) (n := 1) M_209 q_209_147 rfl ?_
          refine h_run (as := [.ref 240]) (rest := []) (M1 := mjM_187) (d1 := 0) (ls0 := [some (.ref 240)]) M_209 q_209_148 (h_cv Tw61 ro_240 (by decide) kd_241 (by decide) (show 0 ≤ 1 by decide) rfl (show 0 ≤ 8 by decide)) M_187 (show 1 ≤ 1 by decide) (by decide) rfl (by omega) (H_isGood Tw61) (fun u62 hu62 => ?_)
          refine g_if M_209 q_209_151 mjCz_ne (fun b63 => ?_) (fun b63 => ?_)
          · exfalso; omega
          · refine g_A (st1 := [.int (1 : Int32)]) M_209 q_209_154 rfl ?_
            refine g_ret (v := some (.int (1 : Int32))) M_209 q_209_155 (h_rtZ) ?_
            exact ⟨Tw61, (m4Kb_Q Qw61 kpw61.1), Qw61.2.1, _, rfl, Or.inl (by omega)⟩
        · refine g_L (v := .int fl) (n := 2) M_209 q_209_121 rfl ?_
          refine g_if M_209 q_209_123 mjCz_ne (fun b64 => ?_) (fun b64 => ?_)
          · refine g_L (v := .ref 240) (n := 1) M_209 q_209_143 rfl ?_
            refine h_ctr (J := m4Q w (m4Mu w)) (sm := mjSm_r_8) (as := [.ref 240]) (rest := []) (M1 := mjM_192) M_209 q_209_144 (h_cv Tw ro_240 (by decide) kd_241 (by decide) (show 0 ≤ 1 by decide) rfl (show 0 ≤ 8 by decide)) M_192 (show 1 ≤ 1 by decide) (by decide) (by decide) (mjC_r_8 (m4Q_ok _ _) (H_r _ _)) ⟨Tw, m4Q_refl (by omega)⟩ ⟨⟨240, rfl, rfl⟩, trivial⟩ (fun q hq => by cases hq) (fun r w65 hp => ?_)
            obtain ⟨rfl, Tw65, Qw65, kpw65, fkw65⟩ := H_misp hp
            show mjGo mjTb mjMt sc _ 209 (147, [some (.ref 240), some (.int bg), some (.int nt), some (.int br), some (.int c), some (.int fl), l6], [], w65) _
            refine g_L (v := .ref 240) (n := 1) M_209 q_209_147 rfl ?_
            refine h_run (as := [.ref 240]) (rest := []) (M1 := mjM_187) (d1 := 0) (ls0 := [some (.ref 240)]) M_209 q_209_148 (h_cv Tw65 ro_240 (by decide) kd_241 (by decide) (show 0 ≤ 1 by decide) rfl (show 0 ≤ 8 by decide)) M_187 (show 1 ≤ 1 by decide) (by decide) rfl (by omega) (H_isGood Tw65) (fun u66 hu66 => ?_)
            refine g_if M_209 q_209_151 mjCz_ne (fun b67 => ?_) (fun b67 => ?_)
            · exfalso; omega
            · refine g_A (st1 := [.int (1 : Int32)]) M_209 q_209_154 rfl ?_
              refine g_ret (v := some (.int (1 : Int32))) M_209 q_209_155 (h_rtZ) ?_
              exact ⟨Tw65, (m4Kb_Q Qw65 kpw65.1), Qw65.2.1, _, rfl, Or.inl (by omega)⟩
          · refine g_L (v := .int nt) (n := 1) M_209 q_209_126 rfl ?_
            refine g_if M_209 q_209_127 mjCz_ne (fun b68 => ?_) (fun b68 => ?_)
            · refine g_L (v := .ref 240) (n := 1) M_209 q_209_134 rfl ?_
              have bw_240_45 := (fi_240_45 Tw).2
              refine h_get M_209 q_209_135 Tw ro_240 (by decide) kd_241 (fi_240_45 Tw).1 ?_
              refine g_P (v := .int (7 : Int32)) (n := 2) M_209 q_209_138 rfl ?_
              refine g_icmp M_209 q_209_140 mjCi_ne (fun b69 => ?_) (fun b69 => ?_)
              · refine g_L (v := .ref 240) (n := 1) M_209 q_209_147 rfl ?_
                refine h_run (as := [.ref 240]) (rest := []) (M1 := mjM_187) (d1 := 0) (ls0 := [some (.ref 240)]) M_209 q_209_148 (h_cv Tw ro_240 (by decide) kd_241 (by decide) (show 0 ≤ 1 by decide) rfl (show 0 ≤ 8 by decide)) M_187 (show 1 ≤ 1 by decide) (by decide) rfl (by omega) (H_isGood Tw) (fun u70 hu70 => ?_)
                refine g_if M_209 q_209_151 mjCz_ne (fun b71 => ?_) (fun b71 => ?_)
                · exact H_un3 h hg n0 n1 r0 r1 (by omega) (by omega) (by omega) (by omega)
                · refine g_A (st1 := [.int (1 : Int32)]) M_209 q_209_154 rfl ?_
                  refine g_ret (v := some (.int (1 : Int32))) M_209 q_209_155 (h_rtZ) ?_
                  exfalso; omega
              · refine g_L (v := .ref 240) (n := 1) M_209 q_209_143 rfl ?_
                refine h_ctr (J := m4Q w (m4Mu w)) (sm := mjSm_r_8) (as := [.ref 240]) (rest := []) (M1 := mjM_192) M_209 q_209_144 (h_cv Tw ro_240 (by decide) kd_241 (by decide) (show 0 ≤ 1 by decide) rfl (show 0 ≤ 8 by decide)) M_192 (show 1 ≤ 1 by decide) (by decide) (by decide) (mjC_r_8 (m4Q_ok _ _) (H_r _ _)) ⟨Tw, m4Q_refl (by omega)⟩ ⟨⟨240, rfl, rfl⟩, trivial⟩ (fun q hq => by cases hq) (fun r w72 hp => ?_)
                obtain ⟨rfl, Tw72, Qw72, kpw72, fkw72⟩ := H_misp hp
                show mjGo mjTb mjMt sc _ 209 (147, [some (.ref 240), some (.int bg), some (.int nt), some (.int br), some (.int c), some (.int fl), l6], [], w72) _
                refine g_L (v := .ref 240) (n := 1) M_209 q_209_147 rfl ?_
                refine h_run (as := [.ref 240]) (rest := []) (M1 := mjM_187) (d1 := 0) (ls0 := [some (.ref 240)]) M_209 q_209_148 (h_cv Tw72 ro_240 (by decide) kd_241 (by decide) (show 0 ≤ 1 by decide) rfl (show 0 ≤ 8 by decide)) M_187 (show 1 ≤ 1 by decide) (by decide) rfl (by omega) (H_isGood Tw72) (fun u73 hu73 => ?_)
                refine g_if M_209 q_209_151 mjCz_ne (fun b74 => ?_) (fun b74 => ?_)
                · exfalso; omega
                · refine g_A (st1 := [.int (1 : Int32)]) M_209 q_209_154 rfl ?_
                  refine g_ret (v := some (.int (1 : Int32))) M_209 q_209_155 (h_rtZ) ?_
                  exact ⟨Tw72, (m4Kb_Q Qw72 kpw72.1), Qw72.2.1, _, rfl, Or.inl (by omega)⟩
            · refine g_L (v := .int br) (n := 1) M_209 q_209_130 rfl ?_
              refine g_if M_209 q_209_131 mjCz_eq (fun b75 => ?_) (fun b75 => ?_)
              · refine g_L (v := .ref 240) (n := 1) M_209 q_209_147 rfl ?_
                refine h_run (as := [.ref 240]) (rest := []) (M1 := mjM_187) (d1 := 0) (ls0 := [some (.ref 240)]) M_209 q_209_148 (h_cv Tw ro_240 (by decide) kd_241 (by decide) (show 0 ≤ 1 by decide) rfl (show 0 ≤ 8 by decide)) M_187 (show 1 ≤ 1 by decide) (by decide) rfl (by omega) (H_isGood Tw) (fun u76 hu76 => ?_)
                refine g_if M_209 q_209_151 mjCz_ne (fun b77 => ?_) (fun b77 => ?_)
                · exact H_un3 h hg n0 n1 r0 r1 (by omega) (by omega) (by omega) (by omega)
                · refine g_A (st1 := [.int (1 : Int32)]) M_209 q_209_154 rfl ?_
                  refine g_ret (v := some (.int (1 : Int32))) M_209 q_209_155 (h_rtZ) ?_
                  exfalso; omega
              · refine g_L (v := .ref 240) (n := 1) M_209 q_209_134 rfl ?_
                have bw_240_45 := (fi_240_45 Tw).2
                refine h_get M_209 q_209_135 Tw ro_240 (by decide) kd_241 (fi_240_45 Tw).1 ?_
                refine g_P (v := .int (7 : Int32)) (n := 2) M_209 q_209_138 rfl ?_
                refine g_icmp M_209 q_209_140 mjCi_ne (fun b78 => ?_) (fun b78 => ?_)
                · refine g_L (v := .ref 240) (n := 1) M_209 q_209_147 rfl ?_
                  refine h_run (as := [.ref 240]) (rest := []) (M1 := mjM_187) (d1 := 0) (ls0 := [some (.ref 240)]) M_209 q_209_148 (h_cv Tw ro_240 (by decide) kd_241 (by decide) (show 0 ≤ 1 by decide) rfl (show 0 ≤ 8 by decide)) M_187 (show 1 ≤ 1 by decide) (by decide) rfl (by omega) (H_isGood Tw) (fun u79 hu79 => ?_)
                  refine g_if M_209 q_209_151 mjCz_ne (fun b80 => ?_) (fun b80 => ?_)
                  · exact H_un3 h hg n0 n1 r0 r1 (by omega) (by omega) (by omega) (by omega)
                  · refine g_A (st1 := [.int (1 : Int32)]) M_209 q_209_154 rfl ?_
                    refine g_ret (v := some (.int (1 : Int32))) M_209 q_209_155 (h_rtZ) ?_
                    exfalso; omega
                · refine g_L (v := .ref 240) (n := 1) M_209 q_209_143 rfl ?_
                  refine h_ctr (J := m4Q w (m4Mu w)) (sm := mjSm_r_8) (as := [.ref 240]) (rest := []) (M1 := mjM_192) M_209 q_209_144 (h_cv Tw ro_240 (by decide) kd_241 (by decide) (show 0 ≤ 1 by decide) rfl (show 0 ≤ 8 by decide)) M_192 (show 1 ≤ 1 by decide) (by decide) (by decide) (mjC_r_8 (m4Q_ok _ _) (H_r _ _)) ⟨Tw, m4Q_refl (by omega)⟩ ⟨⟨240, rfl, rfl⟩, trivial⟩ (fun q hq => by cases hq) (fun r w81 hp => ?_)
                  obtain ⟨rfl, Tw81, Qw81, kpw81, fkw81⟩ := H_misp hp
                  show mjGo mjTb mjMt sc _ 209 (147, [some (.ref 240), some (.int bg), some (.int nt), some (.int br), some (.int c), some (.int fl), l6], [], w81) _
                  refine g_L (v := .ref 240) (n := 1) M_209 q_209_147 rfl ?_
                  refine h_run (as := [.ref 240]) (rest := []) (M1 := mjM_187) (d1 := 0) (ls0 := [some (.ref 240)]) M_209 q_209_148 (h_cv Tw81 ro_240 (by decide) kd_241 (by decide) (show 0 ≤ 1 by decide) rfl (show 0 ≤ 8 by decide)) M_187 (show 1 ≤ 1 by decide) (by decide) rfl (by omega) (H_isGood Tw81) (fun u82 hu82 => ?_)
                  refine g_if M_209 q_209_151 mjCz_ne (fun b83 => ?_) (fun b83 => ?_)
                  · exfalso; omega
                  · refine g_A (st1 := [.int (1 : Int32)]) M_209 q_209_154 rfl ?_
                    refine g_ret (v := some (.int (1 : Int32))) M_209 q_209_155 (h_rtZ) ?_
                    exact ⟨Tw81, (m4Kb_Q Qw81 kpw81.1), Qw81.2.1, _, rfl, Or.inl (by omega)⟩
theorem H_un1c {sc : List Int32} {b : Nat} {fr : Int} {T : List (Int × Int)} {w : MjW} {bg nt : Int32} (h : m4IE b fr T true w) (hg : (m4X w 240 4).toInt = 0) (n0 : 0 ≤ nt.toInt) (n1 : nt.toInt ≤ 1) (nt3 : nt.toInt = 1 → (m4X w 240 8).toInt = 3) : mjGo mjTb mjMt sc (3 + 1) 209 (57, [some (.ref 240), some (.int bg), some (.int nt), none, none, none, none], [], w) (fun r w1 => mjTyd m4S w1 ∧ m4Kb b w w1 ∧ (m4X w1 240 7).toInt ≤ (m4X w1 240 3).toInt ∧ ∃ u : Int32, r = some (.int u) ∧ (¬ (m4X w1 240 4).toInt = 0 ∨ ((m4X w1 240 4).toInt = 0 ∧ (m4Mu w1 < m4Mu w ∨ (m4Mu w1 ≤ m4Mu w ∧ (m4X w1 240 46).toInt < (m4X w 240 46).toInt)) ∧ ((u.toInt = 1 ∧ ∃ T1, m4IE b fr T1 true w1) ∨ (u.toInt = 0 ∧ (((m4X w1 240 46).toInt = 0 ∧ m4Hs w1 fr 1 ∧ fr ≤ (m4X w1 240 44).toInt ∧ (m4X w1 240 44).toInt ≤ fr + 280) ∨ ∃ T1, m4IE b fr T1 false w1)))))) := by
  have Tw := h.1
  have he := h.2.1
  have hrb := h.2.2.1
  have bd := m4IE_bd h
  have hp46 := h.2.2.2.2.1
  have hfr := h.2.2.2.2.2.2.2.1
  have k_0 := c_0
  have k_1 := c_1
  have k_30 := c_30
  have k_40 := c_40
  have k_60 := c_60
  refine g_L (v := .ref 240) (n := 1) M_209 q_209_57 rfl ?_
  refine g_P (v := .int (40 : Int32)) (n := 2) M_209 q_209_58 rfl ?_
  refine h_run (as := [.ref 240, .int (40 : Int32)]) (rest := []) (M1 := mjM_210) (d1 := 1) (ls0 := [some (.ref 240), some (.int (40 : Int32))]) M_209 q_209_60 (h_cv Tw ro_240 (by decide) kd_241 (by decide) (show 1 ≤ 2 by decide) rfl (show 0 ≤ 8 by decide)) M_210 (show 2 ≤ 2 by decide) (by decide) rfl (by omega) (H_isSignHere Tw) (fun u1 hu1 => ?_)
  refine g_S (ls1 := [some (.ref 240), some (.int bg), some (.int nt), some (.int u1), none, none, none]) (st1 := []) (n := 1) M_209 q_209_63 rfl ?_
  refine g_L (v := .ref 240) (n := 1) M_209 q_209_64 rfl ?_
  refine h_run (as := [.ref 240]) (rest := []) (M1 := mjM_211) (d1 := 1) (ls0 := [some (.ref 240)]) M_209 q_209_65 (h_cv Tw ro_240 (by decide) kd_241 (by decide) (show 0 ≤ 1 by decide) rfl (show 0 ≤ 8 by decide)) M_211 (show 1 ≤ 1 by decide) (by decide) rfl (by omega) (H_wordHere Tw) (fun u2 hu2 => ?_)
  refine g_S (ls1 := [some (.ref 240), some (.int bg), some (.int nt), some (.int u1), some (.int u2), none, none]) (st1 := []) (n := 2) M_209 q_209_68 rfl ?_
  refine g_L (v := .ref 240) (n := 1) M_209 q_209_70 rfl ?_
  refine h_get M_209 q_209_71 Tw ro_240 (by decide) kd_241 (fr_240_15 Tw) ?_
  refine g_L (v := .ref 240) (n := 1) M_209 q_209_74 rfl ?_
  have bw_240_43 := (fi_240_43 Tw).2
  refine h_get M_209 q_209_75 Tw ro_240 (by decide) kd_241 (fi_240_43 Tw).1 ?_
  have e3 := ar_248 Tw ro_247 (j := (m4X w 240 43).toInt.toNat) (by omega)
  refine h_ald (j := (m4X w 240 43).toInt.toNat) M_209 q_209_78 Tw ro_247 (by decide) kd_248 (by omega) e3.1 ?_
  refine g_P (v := .int (60 : Int32)) (n := 2) M_209 q_209_79 rfl ?_
  refine g_icmp M_209 q_209_81 mjCi_eq (fun b4 => ?_) (fun b4 => ?_)
  · refine g_A (st1 := [.int (1 : Int32)]) M_209 q_209_93 rfl ?_
    refine g_goto M_209 q_209_94 ?_
    refine g_S (ls1 := [some (.ref 240), some (.int bg), some (.int nt), some (.int u1), some (.int u2), some (.int (1 : Int32)), none]) (st1 := []) (n := 2) M_209 q_209_98 rfl ?_
    exact H_un2 h hg n0 n1 nt3 (by omega) (by omega) (by omega) (by omega) (by omega) (by omega)
  · refine g_L (v := .ref 240) (n := 1) M_209 q_209_84 rfl ?_
    have bw_240_47 := (fi_240_47 Tw).2
    refine h_get M_209 q_209_85 Tw ro_240 (by decide) kd_241 (fi_240_47 Tw).1 ?_
    refine g_P (v := .int (30 : Int32)) (n := 2) M_209 q_209_88 rfl ?_
    refine g_icmp M_209 q_209_90 mjCi_ne (fun b5 => ?_) (fun b5 => ?_)
    · refine g_A (st1 := [.int (0 : Int32)]) M_209 q_209_97 rfl ?_
      refine g_S (ls1 := [some (.ref 240), some (.int bg), some (.int nt), some (.int u1), some (.int u2), some (.int (0 : Int32)), none]) (st1 := []) (n := 2) M_209 q_209_98 rfl ?_
      exact H_un2 h hg n0 n1 nt3 (by omega) (by omega) (by omega) (by omega) (by omega) (by omega)
    · refine g_A (st1 := [.int (1 : Int32)]) M_209 q_209_93 rfl ?_
      refine g_goto M_209 q_209_94 ?_
      refine g_S (ls1 := [some (.ref 240), some (.int bg), some (.int nt), some (.int u1), some (.int u2), some (.int (1 : Int32)), none]) (st1 := []) (n := 2) M_209 q_209_98 rfl ?_
      exact H_un2 h hg n0 n1 nt3 (by omega) (by omega) (by omega) (by omega) (by omega) (by omega)
theorem H_un1b {sc : List Int32} {b : Nat} {fr : Int} {T : List (Int × Int)} {w : MjW} {bg : Int32} (h : m4IE b fr T true w) (hg : (m4X w 240 4).toInt = 0) : mjGo mjTb mjMt sc (3 + 1) 209 (37, [some (.ref 240), some (.int bg), none, none, none, none, none], [], w) (fun r w1 => mjTyd m4S w1 ∧ m4Kb b w w1 ∧ (m4X w1 240 7).toInt ≤ (m4X w1 240 3).toInt ∧ ∃ u : Int32, r = some (.int u) ∧ (¬ (m4X w1 240 4).toInt = 0 ∨ ((m4X w1 240 4).toInt = 0 ∧ (m4Mu w1 < m4Mu w ∨ (m4Mu w1 ≤ m4Mu w ∧ (m4X w1 240 46).toInt < (m4X w 240 46).toInt)) ∧ ((u.toInt = 1 ∧ ∃ T1, m4IE b fr T1 true w1) ∨ (u.toInt = 0 ∧ (((m4X w1 240 46).toInt = 0 ∧ m4Hs w1 fr 1 ∧ fr ≤ (m4X w1 240 44).toInt ∧ (m4X w1 240 44).toInt ≤ fr + 280) ∨ ∃ T1, m4IE b fr T1 false w1)))))) := by
  have Tw := h.1
  have he := h.2.1
  have hrb := h.2.2.1
  have bd := m4IE_bd h
  have hp46 := h.2.2.2.2.1
  have hfr := h.2.2.2.2.2.2.2.1
  have k_0 := c_0
  have k_1 := c_1
  refine g_L (v := .int bg) (n := 1) M_209 q_209_37 rfl ?_
  refine g_if M_209 q_209_38 mjCz_eq (fun b1 => ?_) (fun b1 => ?_)
  · refine g_A (st1 := [.int (0 : Int32)]) M_209 q_209_55 rfl ?_
    refine g_S (ls1 := [some (.ref 240), some (.int bg), some (.int (0 : Int32)), none, none, none, none]) (st1 := []) (n := 1) M_209 q_209_56 rfl ?_
    exact H_un1c h hg (by decide) (by decide) (by omega)
  · refine g_L (v := .ref 240) (n := 1) M_209 q_209_41 rfl ?_
    refine g_P (v := .long (7237492 : Int64)) (n := 3) M_209 q_209_42 rfl ?_
    refine h_run (as := [.ref 240, .long (7237492 : Int64)]) (rest := []) (M1 := mjM_190) (d1 := 0) (ls0 := [some (.ref 240), some (.long (7237492 : Int64)), none]) M_209 q_209_45 (h_cv Tw ro_240 (by decide) kd_241 (by decide) (show 1 ≤ 2 by decide) rfl (show 0 ≤ 8 by decide)) M_190 (show 3 ≤ 3 by decide) (by decide) rfl (by omega) (H_isWord Tw) (fun u2 hu2 => ?_)
    refine g_if M_209 q_209_48 mjCz_eq (fun b3 => ?_) (fun b3 => ?_)
    · refine g_A (st1 := [.int (0 : Int32)]) M_209 q_209_55 rfl ?_
      refine g_S (ls1 := [some (.ref 240), some (.int bg), some (.int (0 : Int32)), none, none, none, none]) (st1 := []) (n := 1) M_209 q_209_56 rfl ?_
      exact H_un1c h hg (by decide) (by decide) (by omega)
    · refine g_A (st1 := [.int (1 : Int32)]) M_209 q_209_51 rfl ?_
      refine g_goto M_209 q_209_52 ?_
      refine g_S (ls1 := [some (.ref 240), some (.int bg), some (.int (1 : Int32)), none, none, none, none]) (st1 := []) (n := 1) M_209 q_209_56 rfl ?_
      exact H_un1c h hg (by decide) (by decide) (by omega)
theorem H_unit {sc : List Int32} {b : Nat} {fr : Int} {T : List (Int × Int)} {w : MjW} (h : m4IE b fr T true w) (hg : (m4X w 240 4).toInt = 0) : mjGo mjTb mjMt sc (3 + 1) 209 (0, [some (.ref 240), none, none, none, none, none, none], [], w) (fun r w1 => mjTyd m4S w1 ∧ m4Kb b w w1 ∧ (m4X w1 240 7).toInt ≤ (m4X w1 240 3).toInt ∧ ∃ u : Int32, r = some (.int u) ∧ (¬ (m4X w1 240 4).toInt = 0 ∨ ((m4X w1 240 4).toInt = 0 ∧ (m4Mu w1 < m4Mu w ∨ (m4Mu w1 ≤ m4Mu w ∧ (m4X w1 240 46).toInt < (m4X w 240 46).toInt)) ∧ ((u.toInt = 1 ∧ ∃ T1, m4IE b fr T1 true w1) ∨ (u.toInt = 0 ∧ (((m4X w1 240 46).toInt = 0 ∧ m4Hs w1 fr 1 ∧ fr ≤ (m4X w1 240 44).toInt ∧ (m4X w1 240 44).toInt ≤ fr + 280) ∨ ∃ T1, m4IE b fr T1 false w1)))))) := by
  have Tw := h.1
  have he := h.2.1
  have hrb := h.2.2.1
  have bd := m4IE_bd h
  have hp46 := h.2.2.2.2.1
  have hfr := h.2.2.2.2.2.2.2.1
  have k_0 := c_0
  have k_1 := c_1
  have k_3 := c_3
  have k_7 := c_7
  refine g_L (v := .ref 240) (n := 1) M_209 q_209_0 rfl ?_
  refine h_get M_209 q_209_1 Tw ro_240 (by decide) kd_241 (fr_240_39 Tw) ?_
  refine g_L (v := .ref 240) (n := 1) M_209 q_209_4 rfl ?_
  have bw_240_46 := (fi_240_46 Tw).2
  refine h_get M_209 q_209_5 Tw ro_240 (by decide) kd_241 (fi_240_46 Tw).1 ?_
  refine g_A (st1 := [.int (1 : Int32), .int (m4X w 240 46), .ref 271]) M_209 q_209_8 rfl ?_
  refine h_isub M_209 q_209_9 (by omega) (by omega) (fun u1 hu1 => ?_)
  have e2 := ar_272 Tw ro_271 (j := u1.toInt.toNat) (by omega)
  refine h_ald (j := u1.toInt.toNat) M_209 q_209_10 Tw ro_271 (by decide) kd_272 (by omega) e2.1 ?_
  refine g_A (st1 := [.int (3 : Int32), .int (m4X w 271 (u1.toInt.toNat))]) M_209 q_209_11 rfl ?_
  refine g_icmp M_209 q_209_12 mjCi_le (fun b3 => ?_) (fun b3 => ?_)
  · refine g_A (st1 := [.int (1 : Int32)]) M_209 q_209_31 rfl ?_
    refine g_goto M_209 q_209_32 ?_
    refine g_S (ls1 := [some (.ref 240), some (.int (1 : Int32)), none, none, none, none, none]) (st1 := []) (n := 1) M_209 q_209_36 rfl ?_
    exact H_un1b h hg
  · refine g_L (v := .ref 240) (n := 1) M_209 q_209_15 rfl ?_
    refine h_get M_209 q_209_16 Tw ro_240 (by decide) kd_241 (fr_240_39 Tw) ?_
    refine g_L (v := .ref 240) (n := 1) M_209 q_209_19 rfl ?_
    have bw_240_46 := (fi_240_46 Tw).2
    refine h_get M_209 q_209_20 Tw ro_240 (by decide) kd_241 (fi_240_46 Tw).1 ?_
    refine g_A (st1 := [.int (1 : Int32), .int (m4X w 240 46), .ref 271]) M_209 q_209_23 rfl ?_
    refine h_isub M_209 q_209_24 (by omega) (by omega) (fun u4 hu4 => ?_)
    have e5 := ar_272 Tw ro_271 (j := u4.toInt.toNat) (by omega)
    refine h_ald (j := u4.toInt.toNat) M_209 q_209_25 Tw ro_271 (by decide) kd_272 (by omega) e5.1 ?_
    refine g_P (v := .int (7 : Int32)) (n := 2) M_209 q_209_26 rfl ?_
    refine g_icmp M_209 q_209_28 mjCi_lt (fun b6 => ?_) (fun b6 => ?_)
    · refine g_A (st1 := [.int (0 : Int32)]) M_209 q_209_35 rfl ?_
      refine g_S (ls1 := [some (.ref 240), some (.int (0 : Int32)), none, none, none, none, none]) (st1 := []) (n := 1) M_209 q_209_36 rfl ?_
      exact H_un1b h hg
    · refine g_A (st1 := [.int (1 : Int32)]) M_209 q_209_31 rfl ?_
      refine g_goto M_209 q_209_32 ?_
      refine g_S (ls1 := [some (.ref 240), some (.int (1 : Int32)), none, none, none, none, none]) (st1 := []) (n := 1) M_209 q_209_36 rfl ?_
      exact H_un1b h hg
