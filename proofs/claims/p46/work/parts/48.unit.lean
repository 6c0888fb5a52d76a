/-! ===== the parser, by hand ===== -/
theorem H_un3 {sc : List Int32} {b : Nat} {fr : Int} {T : List (Int × Int)} {w : MjW} {bg nt br c fl : Int32} {l6 : Option Value} (h : m4IE b fr T true w) (hg : (m4X w 240 4).toInt = 0) (n0 : 0 ≤ nt.toInt) (n1 : nt.toInt ≤ 1) (b0 : 0 ≤ br.toInt) (b1 : br.toInt ≤ 1) (htk : (m4X w 240 8).toInt ≠ 0) (hn : nt.toInt = 0 → (m4X w 240 47).toInt ≠ 30) (hw : nt.toInt = 1 ∨ br.toInt = 1 → (m4X w 240 45).toInt ≠ 7) (hc : c.toInt = 0 ∨ (97 ≤ c.toInt ∧ c.toInt ≤ 122)) : mjGo mjTb mjMt sc (3 + 1) 209 (156, [some (.ref 240), some (.int bg), some (.int nt), some (.int br), some (.int c), some (.int fl), l6], [], w) (fun r w1 => mjTyd m4S w1 ∧ m4Kb b w w1 ∧ (m4X w1 240 7).toInt ≤ (m4X w1 240 3).toInt ∧ ∃ u : Int32, r = some (.int u) ∧ (¬ (m4X w1 240 4).toInt = 0 ∨ ((m4X w1 240 4).toInt = 0 ∧ (m4Mu w1 < m4Mu w ∨ (m4Mu w1 ≤ m4Mu w ∧ (m4X w1 240 46).toInt < (m4X w 240 46).toInt)) ∧ ((u.toInt = 1 ∧ ∃ T1, m4IE b fr T1 true w1) ∨ (u.toInt = 0 ∧ (((m4X w1 240 46).toInt = 0 ∧ m4Hs w1 fr 1 ∧ fr ≤ (m4X w1 240 44).toInt ∧ (m4X w1 240 44).toInt ≤ fr + 280) ∨ ∃ T1, m4IE b fr T1 false w1)))))) := by
  have Tw := h.1
  have he := h.2.1
  have hrb := h.2.2.1
  have bd := m4IE_bd h
  have bc := (mjB.all c).1
  have bc2 := (mjB.all c).2
  have k_0 := c_0
  have k_1 := c_1
  have k_3 := c_3
  have k_7 := c_7
  have k_110 := c_110
  have k_126 := c_126
  refine g_L (v := .ref 240) (n := 1) M_209 q_209_156 rfl ?_
  refine h_get M_209 q_209_157 Tw ro_240 (by decide) kd_241 (fr_240_15 Tw) ?_
  refine g_L (v := .ref 240) (n := 1) M_209 q_209_160 rfl ?_
  have bw_240_43 := (fi_240_43 Tw).2
  refine h_get M_209 q_209_161 Tw ro_240 (by decide) kd_241 (fi_240_43 Tw).1 ?_
  refine g_A (st1 := [.int (m4X w 240 43), .ref 247, .int (m4X w 240 43), .ref 247]) M_209 q_209_164 rfl ?_
  have e1 := ar_248 Tw ro_247 (j := (m4X w 240 43).toInt.toNat) (by omega)
  refine h_ald (j := (m4X w 240 43).toInt.toNat) M_209 q_209_165 Tw ro_247 (by decide) kd_248 (by omega) e1.1 ?_
  refine g_L (v := .int nt) (n := 1) M_209 q_209_166 rfl ?_
  refine g_if M_209 q_209_167 mjCz_eq (fun b2 => ?_) (fun b2 => ?_)
  · refine g_A (st1 := [.int (1 : Int32), .int (m4X w 247 (m4X w 240 43).toInt.toNat), .int (m4X w 240 43), .ref 247]) M_209 q_209_174 rfl ?_
    refine g_two M_209 q_209_175 rfl (fun u3 _ => ?_)
    refine h_ast (j := (m4X w 240 43).toInt.toNat) M_209 q_209_176 Tw ro_247 (by decide) kd_248 ln_248 (by omega) (by omega) (m4_hasI (ta_248 _) (mjB.all _).1 (mjB.all _).2) (fun w4 Tw4 Uw4 => ?_)
    have tw4_247_x := Uw4.at
    have tw4_240_3 := Uw4.ne (b := 240) (j := 3) (by first | decide | (left; decide) | (right; omega) | (left; omega))
    have tw4_240_4 := Uw4.ne (b := 240) (j := 4) (by first | decide | (left; decide) | (right; omega) | (left; omega))
    have tw4_240_7 := Uw4.ne (b := 240) (j := 7) (by first | decide | (left; decide) | (right; omega) | (left; omega))
    have tw4_240_8 := Uw4.ne (b := 240) (j := 8) (by first | decide | (left; decide) | (right; omega) | (left; omega))
    have tw4_240_43 := Uw4.ne (b := 240) (j := 43) (by first | decide | (left; decide) | (right; omega) | (left; omega))
    have tw4_240_44 := Uw4.ne (b := 240) (j := 44) (by first | decide | (left; decide) | (right; omega) | (left; omega))
    have tw4_240_45 := Uw4.ne (b := 240) (j := 45) (by first | decide | (left; decide) | (right; omega) | (left; omega))
    have tw4_240_46 := Uw4.ne (b := 240) (j := 46) (by first | decide | (left; decide) | (right; omega) | (left; omega))
    have tw4_240_47 := Uw4.ne (b := 240) (j := 47) (by first | decide | (left; decide) | (right; omega) | (left; omega))
    refine g_L (v := .ref 240) (n := 1) M_209 q_209_177 rfl ?_
    refine g_A (st1 := [.ref 240, .ref 240]) M_209 q_209_178 rfl ?_
    have bw4_240_47 := (fi_240_47 Tw4).2
    refine h_get M_209 q_209_179 Tw4 ro_240 (by decide) kd_241 (fi_240_47 Tw4).1 ?_
    refine g_L (v := .int nt) (n := 1) M_209 q_209_182 rfl ?_
    refine g_if M_209 q_209_183 mjCz_eq (fun b5 => ?_) (fun b5 => ?_)
    · refine g_A (st1 := [.int (1 : Int32), .int (m4X w4 240 47), .ref 240]) M_209 q_209_190 rfl ?_
      refine h_iadd M_209 q_209_191 (by omega) (by omega) (fun u6 hu6 => ?_)
      refine h_put M_209 q_209_192 Tw4 ro_240 (by decide) kd_241 ln_241 (by decide) (m4_fitI rfl) (m4_hasI ty_241_47 (by omega) (by omega)) (fun w7 Tw7 Uw7 => ?_)
      have tw7_240_47 := Uw7.at
      have tw7_240_3 := Uw7.ne (b := 240) (j := 3) (by decide)
      have tw7_240_4 := Uw7.ne (b := 240) (j := 4) (by decide)
      have tw7_240_7 := Uw7.ne (b := 240) (j := 7) (by decide)
      have tw7_240_8 := Uw7.ne (b := 240) (j := 8) (by decide)
      have tw7_240_43 := Uw7.ne (b := 240) (j := 43) (by decide)
      have tw7_240_44 := Uw7.ne (b := 240) (j := 44) (by decide)
      have tw7_240_45 := Uw7.ne (b := 240) (j := 45) (by decide)
      have tw7_240_46 := Uw7.ne (b := 240) (j := 46) (by decide)
      refine g_L (v := .int c) (n := 2) M_209 q_209_195 rfl ?_
      refine g_if M_209 q_209_197 mjCz_ne (fun b8 => ?_) (fun b8 => ?_)
      · refine g_A (st1 := [.int (0 : Int32)]) M_209 q_209_207 rfl ?_
        refine g_S (ls1 := [some (.ref 240), some (.int bg), some (.int nt), some (.int br), some (.int c), some (.int fl), some (.int (0 : Int32))]) (st1 := []) (n := 2) M_209 q_209_208 rfl ?_
        refine g_L (v := .ref 240) (n := 1) M_209 q_209_210 rfl ?_
        refine g_call (d := 3) (y1 := 181) (as := [.ref 240]) (rest := []) (M1 := mjM_181) (d1 := 2) (ls0 := [some (.ref 240), none, none]) M_209 q_209_211 (h_cv Tw7 ro_240 (by decide) kd_241 (by decide) (show 0 ≤ 1 by decide) rfl (show 0 ≤ 8 by decide)) M_181 (show 1 ≤ 3 by decide) (by decide) rfl (by decide) (H_goOn (d := 1) (by decide) Tw7 (by omega)) ?_
        rintro r w9 ⟨rfl, Tw9, kw9, gw9a, gw9b⟩
        have muw9 := m4Mu_go (fi_240_8 Tw9).2.1 gw9b
        have tw9_240_3 := congrArg Int32.toInt (kw9.X (a := 240) (k := 3) ro_240 rfl)
        have tw9_240_4 := congrArg Int32.toInt (kw9.X (a := 240) (k := 4) ro_240 rfl)
        have tw9_240_43 := congrArg Int32.toInt (kw9.X (a := 240) (k := 43) ro_240 rfl)
        have tw9_240_44 := congrArg Int32.toInt (kw9.X (a := 240) (k := 44) ro_240 rfl)
        have tw9_240_45 := congrArg Int32.toInt (kw9.X (a := 240) (k := 45) ro_240 rfl)
        have tw9_240_46 := congrArg Int32.toInt (kw9.X (a := 240) (k := 46) ro_240 rfl)
        have tw9_240_47 := congrArg Int32.toInt (kw9.X (a := 240) (k := 47) ro_240 rfl)
        show mjGo mjTb mjMt sc _ 209 (214, [some (.ref 240), some (.int bg), some (.int nt), some (.int br), some (.int c), some (.int fl), some (.int (0 : Int32))], [], w9) _
        refine g_L (v := .int nt) (n := 1) M_209 q_209_214 rfl ?_
        refine g_if M_209 q_209_215 mjCz_ne (fun b10 => ?_) (fun b10 => ?_)
        · exfalso; omega
        · refine g_L (v := .int br) (n := 1) M_209 q_209_218 rfl ?_
          refine g_if M_209 q_209_219 mjCz_eq (fun b11 => ?_) (fun b11 => ?_)
          · refine g_L (v := .ref 240) (n := 1) M_209 q_209_250 rfl ?_
            refine g_L (v := .int c) (n := 2) M_209 q_209_251 rfl ?_
            refine g_if M_209 q_209_253 mjCz_ne (fun b12 => ?_) (fun b12 => ?_)
            · refine g_L (v := .int c) (n := 2) M_209 q_209_261 rfl ?_
              refine g_L (v := .int (0 : Int32)) (n := 2) M_209 q_209_263 rfl ?_
              refine g_call (d := 3) (y1 := 212) (as := [.ref 240, .int c, .int (0 : Int32)]) (rest := []) (M1 := mjM_212) (d1 := 0) (ls0 := [some (.ref 240), some (.int c), some (.int (0 : Int32))]) M_209 q_209_265 (h_cv Tw9 ro_240 (by decide) kd_241 (by decide) (show 2 ≤ 3 by decide) rfl (show 0 ≤ 8 by decide)) M_212 (show 3 ≤ 3 by decide) (by decide) rfl (by decide) (H_emit Tw9 (by omega)) ?_
              rintro r w13 ⟨rfl, Tw13, sw13, fw13, nw13, pw13⟩
              have tw13_240_3 : (m4X w13 240 3).toInt = (m4X w9 240 3).toInt := by unfold m4X; rw [fw13 240 3 (by omega) (by omega)]
              have tw13_240_4 : (m4X w13 240 4).toInt = (m4X w9 240 4).toInt := by unfold m4X; rw [fw13 240 4 (by omega) (by omega)]
              have tw13_240_7 : (m4X w13 240 7).toInt = (m4X w9 240 7).toInt := by unfold m4X; rw [fw13 240 7 (by omega) (by omega)]
              have tw13_240_8 : (m4X w13 240 8).toInt = (m4X w9 240 8).toInt := by unfold m4X; rw [fw13 240 8 (by omega) (by omega)]
              have tw13_240_43 : (m4X w13 240 43).toInt = (m4X w9 240 43).toInt := by unfold m4X; rw [fw13 240 43 (by omega) (by omega)]
              have tw13_240_45 : (m4X w13 240 45).toInt = (m4X w9 240 45).toInt := by unfold m4X; rw [fw13 240 45 (by omega) (by omega)]
              have tw13_240_46 : (m4X w13 240 46).toInt = (m4X w9 240 46).toInt := by unfold m4X; rw [fw13 240 46 (by omega) (by omega)]
              have tw13_240_47 : (m4X w13 240 47).toInt = (m4X w9 240 47).toInt := by unfold m4X; rw [fw13 240 47 (by omega) (by omega)]
              show mjGo mjTb mjMt sc _ 209 (268, [some (.ref 240), some (.int bg), some (.int nt), some (.int br), some (.int c), some (.int fl), some (.int (0 : Int32))], [], w13) _
              refine g_A (st1 := [.int (0 : Int32)]) M_209 q_209_268 rfl ?_
              refine g_ret (v := some (.int (0 : Int32))) M_209 q_209_269 (h_rtZ) ?_
              have kb : m4Kb b w w13 := ((((m4Kb_up Uw4 (by unfold m4Kp; omega)).trans (m4Kb_up Uw7 (by unfold m4Kp; omega))).trans (m4Kb_kp kw9 (by decide))).trans (m4Kb_fld sw13 (fun a k hk => fw13 a k (by unfold m4Kp at hk; omega) (by unfold m4Kp at hk; omega))))
              have e44 : (m4X w9 240 44).toInt.toNat = (m4X w 240 44).toInt.toNat := by omega
              have ie : m4IE b fr T false w13 := m4IE_unit (c := (c).toInt) h Tw13 (by omega) (by omega) (by omega) (by omega) (by omega) (by omega) (by omega) (by omega) (fun k hk => ((((m4X_fld (fw13 269 k (by omega) (by omega)))).trans (kw9.X (a := 269) (k := k) ro_269 rfl)).trans (Uw7.X (b := 269) (j := k) (by omega))).trans (Uw4.X (b := 269) (j := k) (by omega))) (fun j => ⟨((((m4X_fld (fw13 271 j (by omega) (by omega)))).trans (kw9.X (a := 271) (k := j) ro_271 rfl)).trans (Uw7.X (b := 271) (j := j) (by omega))).trans (Uw4.X (b := 271) (j := j) (by omega)), ((((m4X_fld (fw13 272 j (by omega) (by omega)))).trans (kw9.X (a := 272) (k := j) ro_272 rfl)).trans (Uw7.X (b := 272) (j := j) (by omega))).trans (Uw4.X (b := 272) (j := j) (by omega))⟩) (by rw [← e44, pw13])
              have mf := m4Mu_eq (w := w9) (w1 := w13) (by omega) (by omega)
              have mi := m4Mu_eq (w := w) (w1 := w7) (by omega) (by omega)
              exact ⟨Tw13, kb, by omega, _, rfl, Or.inr ⟨by omega, Or.inl (by have := muw9.2 (by omega); omega), Or.inr ⟨rfl, Or.inr ⟨_, ie⟩⟩⟩⟩
            · exfalso; omega
          · refine g_L (v := .ref 240) (n := 1) M_209 q_209_222 rfl ?_
            refine g_L (v := .int nt) (n := 1) M_209 q_209_223 rfl ?_
            refine g_if M_209 q_209_224 mjCz_eq (fun b14 => ?_) (fun b14 => ?_)
            · refine g_P (v := .int (7 : Int32)) (n := 2) M_209 q_209_231 rfl ?_
              refine g_P (v := .int (126 : Int32)) (n := 2) M_209 q_209_233 rfl ?_
              refine g_call (d := 3) (y1 := 208) (as := [.ref 240, .int (7 : Int32), .int (126 : Int32)]) (rest := []) (M1 := mjM_208) (d1 := 0) (ls0 := [some (.ref 240), some (.int (7 : Int32)), some (.int (126 : Int32))]) M_209 q_209_235 (h_cv Tw9 ro_240 (by decide) kd_241 (by decide) (show 2 ≤ 3 by decide) rfl (show 0 ≤ 8 by decide)) M_208 (show 3 ≤ 3 by decide) (by decide) rfl (by decide) (H_pushE Tw9 (by omega)) ?_
              rintro r w15 ⟨rfl, Tw15, sw15, fw15, nw15, pw15⟩
              have tw15_240_3 : (m4X w15 240 3).toInt = (m4X w9 240 3).toInt := by unfold m4X; rw [fw15 240 3 (by omega) (by omega)]
              have tw15_240_4 : (m4X w15 240 4).toInt = (m4X w9 240 4).toInt := by unfold m4X; rw [fw15 240 4 (by omega) (by omega)]
              have tw15_240_7 : (m4X w15 240 7).toInt = (m4X w9 240 7).toInt := by unfold m4X; rw [fw15 240 7 (by omega) (by omega)]
              have tw15_240_8 : (m4X w15 240 8).toInt = (m4X w9 240 8).toInt := by unfold m4X; rw [fw15 240 8 (by omega) (by omega)]
              have tw15_240_43 : (m4X w15 240 43).toInt = (m4X w9 240 43).toInt := by unfold m4X; rw [fw15 240 43 (by omega) (by omega)]
              have tw15_240_44 : (m4X w15 240 44).toInt = (m4X w9 240 44).toInt := by unfold m4X; rw [fw15 240 44 (by omega) (by omega)]
              have tw15_240_45 : (m4X w15 240 45).toInt = (m4X w9 240 45).toInt := by unfold m4X; rw [fw15 240 45 (by omega) (by omega)]
              have tw15_240_47 : (m4X w15 240 47).toInt = (m4X w9 240 47).toInt := by unfold m4X; rw [fw15 240 47 (by omega) (by omega)]
              show mjGo mjTb mjMt sc _ 209 (238, [some (.ref 240), some (.int bg), some (.int nt), some (.int br), some (.int c), some (.int fl), some (.int (0 : Int32))], [], w15) _
              refine g_L (v := .ref 240) (n := 1) M_209 q_209_238 rfl ?_
              refine g_A (st1 := [.ref 240, .ref 240]) M_209 q_209_239 rfl ?_
              have bw15_240_45 := (fi_240_45 Tw15).2
              refine h_get M_209 q_209_240 Tw15 ro_240 (by decide) kd_241 (fi_240_45 Tw15).1 ?_
              refine g_A (st1 := [.int (1 : Int32), .int (m4X w15 240 45), .ref 240]) M_209 q_209_243 rfl ?_
              refine h_iadd M_209 q_209_244 (by omega) (by omega) (fun u16 hu16 => ?_)
              refine h_put M_209 q_209_245 Tw15 ro_240 (by decide) kd_241 ln_241 (by decide) (m4_fitI rfl) (m4_hasI ty_241_45 (by omega) (by omega)) (fun w17 Tw17 Uw17 => ?_)
              have tw17_240_45 := Uw17.at
              have tw17_240_3 := Uw17.ne (b := 240) (j := 3) (by decide)
              have tw17_240_4 := Uw17.ne (b := 240) (j := 4) (by decide)
              have tw17_240_7 := Uw17.ne (b := 240) (j := 7) (by decide)
              have tw17_240_8 := Uw17.ne (b := 240) (j := 8) (by decide)
              have tw17_240_43 := Uw17.ne (b := 240) (j := 43) (by decide)
              have tw17_240_44 := Uw17.ne (b := 240) (j := 44) (by decide)
              have tw17_240_46 := Uw17.ne (b := 240) (j := 46) (by decide)
              have tw17_240_47 := Uw17.ne (b := 240) (j := 47) (by decide)
              refine g_A (st1 := [.int (1 : Int32)]) M_209 q_209_248 rfl ?_
              refine g_ret (v := some (.int (1 : Int32))) M_209 q_209_249 (h_rtZ) ?_
              have kb : m4Kb b w w17 := (((((m4Kb_up Uw4 (by unfold m4Kp; omega)).trans (m4Kb_up Uw7 (by unfold m4Kp; omega))).trans (m4Kb_kp kw9 (by decide))).trans (m4Kb_fld sw15 (fun a k hk => fw15 a k (by unfold m4Kp at hk; omega) (by unfold m4Kp at hk; omega)))).trans (m4Kb_up Uw17 (by unfold m4Kp; omega)))
              have e46 : (m4X w9 240 46).toInt.toNat = (m4X w 240 46).toInt.toNat := by omega
              have ie : m4IE b fr ((7, 126) :: T) true w17 := m4IE_push h Tw17 (by omega) (by omega) (by omega) ((((((Uw17.X (b := 240) (j := 44) (by omega))).trans (m4X_fld (fw15 240 44 (by omega) (by omega)))).trans (kw9.X (a := 240) (k := 44) ro_240 rfl)).trans (Uw7.X (b := 240) (j := 44) (by omega))).trans (Uw4.X (b := 240) (j := 44) (by omega))) (by omega) (by omega) (by omega) (fun k => (((((Uw17.X (b := 269) (j := k) (by omega))).trans (m4X_fld (fw15 269 k (by omega) (by omega)))).trans (kw9.X (a := 269) (k := k) ro_269 rfl)).trans (Uw7.X (b := 269) (j := k) (by omega))).trans (Uw4.X (b := 269) (j := k) (by omega))) (fun j hj => ⟨(((((Uw17.X (b := 271) (j := j) (by omega))).trans (m4X_fld (fw15 271 j (by omega) (by omega)))).trans (kw9.X (a := 271) (k := j) ro_271 rfl)).trans (Uw7.X (b := 271) (j := j) (by omega))).trans (Uw4.X (b := 271) (j := j) (by omega)), (((((Uw17.X (b := 272) (j := j) (by omega))).trans (m4X_fld (fw15 272 j (by omega) (by omega)))).trans (kw9.X (a := 272) (k := j) ro_272 rfl)).trans (Uw7.X (b := 272) (j := j) (by omega))).trans (Uw4.X (b := 272) (j := j) (by omega))⟩) (by rw [← e46, Uw17.X (Or.inl (by decide)), pw15.1]; rfl) (by rw [← e46, Uw17.X (Or.inl (by decide)), pw15.2]; rfl)
              have mf := m4Mu_eq (w := w9) (w1 := w17) (by omega) (by omega)
              have mi := m4Mu_eq (w := w) (w1 := w7) (by omega) (by omega)
              exact ⟨Tw17, kb, by omega, _, rfl, Or.inr ⟨by omega, Or.inl (by have := muw9.2 (by omega); omega), Or.inl ⟨rfl, _, ie⟩⟩⟩
            · exfalso; omega
      · refine g_L (v := .ref 240) (n := 1) M_209 q_209_200 rfl ?_
        have bw7_240_9 := (fi_240_9 Tw7).2
        refine h_get M_209 q_209_201 Tw7 ro_240 (by decide) kd_241 (fi_240_9 Tw7).1 ?_
        refine g_goto M_209 q_209_204 ?_
        refine g_S (ls1 := [some (.ref 240), some (.int bg), some (.int nt), some (.int br), some (.int c), some (.int fl), some (.int (m4X w7 240 9))]) (st1 := []) (n := 2) M_209 q_209_208 rfl ?_
        refine g_L (v := .ref 240) (n := 1) M_209 q_209_210 rfl ?_
        refine g_call (d := 3) (y1 := 181) (as := [.ref 240]) (rest := []) (M1 := mjM_181) (d1 := 2) (ls0 := [some (.ref 240), none, none]) M_209 q_209_211 (h_cv Tw7 ro_240 (by decide) kd_241 (by decide) (show 0 ≤ 1 by decide) rfl (show 0 ≤ 8 by decide)) M_181 (show 1 ≤ 3 by decide) (by decide) rfl (by decide) (H_goOn (d := 1) (by decide) Tw7 (by omega)) ?_
        rintro r w18 ⟨rfl, Tw18, kw18, gw18a, gw18b⟩
        have muw18 := m4Mu_go (fi_240_8 Tw18).2.1 gw18b
        have tw18_240_3 := congrArg Int32.toInt (kw18.X (a := 240) (k := 3) ro_240 rfl)
        have tw18_240_4 := congrArg Int32.toInt (kw18.X (a := 240) (k := 4) ro_240 rfl)
        have tw18_240_43 := congrArg Int32.toInt (kw18.X (a := 240) (k := 43) ro_240 rfl)
        have tw18_240_44 := congrArg Int32.toInt (kw18.X (a := 240) (k := 44) ro_240 rfl)
        have tw18_240_45 := congrArg Int32.toInt (kw18.X (a := 240) (k := 45) ro_240 rfl)
        have tw18_240_46 := congrArg Int32.toInt (kw18.X (a := 240) (k := 46) ro_240 rfl)
        have tw18_240_47 := congrArg Int32.toInt (kw18.X (a := 240) (k := 47) ro_240 rfl)
        show mjGo mjTb mjMt sc _ 209 (214, [some (.ref 240), some (.int bg), some (.int nt), some (.int br), some (.int c), some (.int fl), some (.int (m4X w7 240 9))], [], w18) _
        refine g_L (v := .int nt) (n := 1) M_209 q_209_214 rfl ?_
        refine g_if M_209 q_209_215 mjCz_ne (fun b19 => ?_) (fun b19 => ?_)
        · exfalso; omega
        · refine g_L (v := .int br) (n := 1) M_209 q_209_218 rfl ?_
          refine g_if M_209 q_209_219 mjCz_eq (fun b20 => ?_) (fun b20 => ?_)
          · refine g_L (v := .ref 240) (n := 1) M_209 q_209_250 rfl ?_
            refine g_L (v := .int c) (n := 2) M_209 q_209_251 rfl ?_
            refine g_if M_209 q_209_253 mjCz_ne (fun b21 => ?_) (fun b21 => ?_)
            · exfalso; omega
            · refine g_P (v := .int (110 : Int32)) (n := 2) M_209 q_209_256 rfl ?_
              refine g_goto M_209 q_209_258 ?_
              refine g_L (v := .int (m4X w7 240 9)) (n := 2) M_209 q_209_263 rfl ?_
              refine g_call (d := 3) (y1 := 212) (as := [.ref 240, .int (110 : Int32), .int (m4X w7 240 9)]) (rest := []) (M1 := mjM_212) (d1 := 0) (ls0 := [some (.ref 240), some (.int (110 : Int32)), some (.int (m4X w7 240 9))]) M_209 q_209_265 (h_cv Tw18 ro_240 (by decide) kd_241 (by decide) (show 2 ≤ 3 by decide) rfl (show 0 ≤ 8 by decide)) M_212 (show 3 ≤ 3 by decide) (by decide) rfl (by decide) (H_emit Tw18 (by omega)) ?_
              rintro r w22 ⟨rfl, Tw22, sw22, fw22, nw22, pw22⟩
              have tw22_240_3 : (m4X w22 240 3).toInt = (m4X w18 240 3).toInt := by unfold m4X; rw [fw22 240 3 (by omega) (by omega)]
              have tw22_240_4 : (m4X w22 240 4).toInt = (m4X w18 240 4).toInt := by unfold m4X; rw [fw22 240 4 (by omega) (by omega)]
              have tw22_240_7 : (m4X w22 240 7).toInt = (m4X w18 240 7).toInt := by unfold m4X; rw [fw22 240 7 (by omega) (by omega)]
              have tw22_240_8 : (m4X w22 240 8).toInt = (m4X w18 240 8).toInt := by unfold m4X; rw [fw22 240 8 (by omega) (by omega)]
              have tw22_240_43 : (m4X w22 240 43).toInt = (m4X w18 240 43).toInt := by unfold m4X; rw [fw22 240 43 (by omega) (by omega)]
              have tw22_240_45 : (m4X w22 240 45).toInt = (m4X w18 240 45).toInt := by unfold m4X; rw [fw22 240 45 (by omega) (by omega)]
              have tw22_240_46 : (m4X w22 240 46).toInt = (m4X w18 240 46).toInt := by unfold m4X; rw [fw22 240 46 (by omega) (by omega)]
              have tw22_240_47 : (m4X w22 240 47).toInt = (m4X w18 240 47).toInt := by unfold m4X; rw [fw22 240 47 (by omega) (by omega)]
              show mjGo mjTb mjMt sc _ 209 (268, [some (.ref 240), some (.int bg), some (.int nt), some (.int br), some (.int c), some (.int fl), some (.int (m4X w7 240 9))], [], w22) _
              refine g_A (st1 := [.int (0 : Int32)]) M_209 q_209_268 rfl ?_
              refine g_ret (v := some (.int (0 : Int32))) M_209 q_209_269 (h_rtZ) ?_
              have kb : m4Kb b w w22 := ((((m4Kb_up Uw4 (by unfold m4Kp; omega)).trans (m4Kb_up Uw7 (by unfold m4Kp; omega))).trans (m4Kb_kp kw18 (by decide))).trans (m4Kb_fld sw22 (fun a k hk => fw22 a k (by unfold m4Kp at hk; omega) (by unfold m4Kp at hk; omega))))
              have e44 : (m4X w18 240 44).toInt.toNat = (m4X w 240 44).toInt.toNat := by omega
              have ie : m4IE b fr T false w22 := m4IE_unit (c := ((110 : Int32)).toInt) h Tw22 (by omega) (by omega) (by omega) (by omega) (by omega) (by omega) (by omega) (by omega) (fun k hk => ((((m4X_fld (fw22 269 k (by omega) (by omega)))).trans (kw18.X (a := 269) (k := k) ro_269 rfl)).trans (Uw7.X (b := 269) (j := k) (by omega))).trans (Uw4.X (b := 269) (j := k) (by omega))) (fun j => ⟨((((m4X_fld (fw22 271 j (by omega) (by omega)))).trans (kw18.X (a := 271) (k := j) ro_271 rfl)).trans (Uw7.X (b := 271) (j := j) (by omega))).trans (Uw4.X (b := 271) (j := j) (by omega)), ((((m4X_fld (fw22 272 j (by omega) (by omega)))).trans (kw18.X (a := 272) (k := j) ro_272 rfl)).trans (Uw7.X (b := 272) (j := j) (by omega))).trans (Uw4.X (b := 272) (j := j) (by omega))⟩) (by rw [← e44, pw22])
              have mf := m4Mu_eq (w := w18) (w1 := w22) (by omega) (by omega)
              have mi := m4Mu_eq (w := w) (w1 := w7) (by omega) (by omega)
              exact ⟨Tw22, kb, by omega, _, rfl, Or.inr ⟨by omega, Or.inl (by have := muw18.2 (by omega); omega), Or.inr ⟨rfl, Or.inr ⟨_, ie⟩⟩⟩⟩
          · refine g_L (v := .ref 240) (n := 1) M_209 q_209_222 rfl ?_
            refine g_L (v := .int nt) (n := 1) M_209 q_209_223 rfl ?_
            refine g_if M_209 q_209_224 mjCz_eq (fun b23 => ?_) (fun b23 => ?_)
            · refine g_P (v := .int (7 : Int32)) (n := 2) M_209 q_209_231 rfl ?_
              refine g_P (v := .int (126 : Int32)) (n := 2) M_209 q_209_233 rfl ?_
              refine g_call (d := 3) (y1 := 208) (as := [.ref 240, .int (7 : Int32), .int (126 : Int32)]) (rest := []) (M1 := mjM_208) (d1 := 0) (ls0 := [some (.ref 240), some (.int (7 : Int32)), some (.int (126 : Int32))]) M_209 q_209_235 (h_cv Tw18 ro_240 (by decide) kd_241 (by decide) (show 2 ≤ 3 by decide) rfl (show 0 ≤ 8 by decide)) M_208 (show 3 ≤ 3 by decide) (by decide) rfl (by decide) (H_pushE Tw18 (by omega)) ?_
              rintro r w24 ⟨rfl, Tw24, sw24, fw24, nw24, pw24⟩
              have tw24_240_3 : (m4X w24 240 3).toInt = (m4X w18 240 3).toInt := by unfold m4X; rw [fw24 240 3 (by omega) (by omega)]
              have tw24_240_4 : (m4X w24 240 4).toInt = (m4X w18 240 4).toInt := by unfold m4X; rw [fw24 240 4 (by omega) (by omega)]
              have tw24_240_7 : (m4X w24 240 7).toInt = (m4X w18 240 7).toInt := by unfold m4X; rw [fw24 240 7 (by omega) (by omega)]
              have tw24_240_8 : (m4X w24 240 8).toInt = (m4X w18 240 8).toInt := by unfold m4X; rw [fw24 240 8 (by omega) (by omega)]
              have tw24_240_43 : (m4X w24 240 43).toInt = (m4X w18 240 43).toInt := by unfold m4X; rw [fw24 240 43 (by omega) (by omega)]
              have tw24_240_44 : (m4X w24 240 44).toInt = (m4X w18 240 44).toInt := by unfold m4X; rw [fw24 240 44 (by omega) (by omega)]
              have tw24_240_45 : (m4X w24 240 45).toInt = (m4X w18 240 45).toInt := by unfold m4X; rw [fw24 240 45 (by omega) (by omega)]
              have tw24_240_47 : (m4X w24 240 47).toInt = (m4X w18 240 47).toInt := by unfold m4X; rw [fw24 240 47 (by omega) (by omega)]
              show mjGo mjTb mjMt sc _ 209 (238, [some (.ref 240), some (.int bg), some (.int nt), some (.int br), some (.int c), some (.int fl), some (.int (m4X w7 240 9))], [], w24) _
              refine g_L (v := .ref 240) (n := 1) M_209 q_209_238 rfl ?_
              refine g_A (st1 := [.ref 240, .ref 240]) M_209 q_209_239 rfl ?_
              have bw24_240_45 := (fi_240_45 Tw24).2
              refine h_get M_209 q_209_240 Tw24 ro_240 (by decide) kd_241 (fi_240_45 Tw24).1 ?_
              refine g_A (st1 := [.int (1 : Int32), .int (m4X w24 240 45), .ref 240]) M_209 q_209_243 rfl ?_
              refine h_iadd M_209 q_209_244 (by omega) (by omega) (fun u25 hu25 => ?_)
              refine h_put M_209 q_209_245 Tw24 ro_240 (by decide) kd_241 ln_241 (by decide) (m4_fitI rfl) (m4_hasI ty_241_45 (by omega) (by omega)) (fun w26 Tw26 Uw26 => ?_)
              have tw26_240_45 := Uw26.at
              have tw26_240_3 := Uw26.ne (b := 240) (j := 3) (by decide)
              have tw26_240_4 := Uw26.ne (b := 240) (j := 4) (by decide)
              have tw26_240_7 := Uw26.ne (b := 240) (j := 7) (by decide)
              have tw26_240_8 := Uw26.ne (b := 240) (j := 8) (by decide)
              have tw26_240_43 := Uw26.ne (b := 240) (j := 43) (by decide)
              have tw26_240_44 := Uw26.ne (b := 240) (j := 44) (by decide)
              have tw26_240_46 := Uw26.ne (b := 240) (j := 46) (by decide)
              have tw26_240_47 := Uw26.ne (b := 240) (j := 47) (by decide)
              refine g_A (st1 := [.int (1 : Int32)]) M_209 q_209_248 rfl ?_
              refine g_ret (v := some (.int (1 : Int32))) M_209 q_209_249 (h_rtZ) ?_
              have kb : m4Kb b w w26 := (((((m4Kb_up Uw4 (by unfold m4Kp; omega)).trans (m4Kb_up Uw7 (by unfold m4Kp; omega))).trans (m4Kb_kp kw18 (by decide))).trans (m4Kb_fld sw24 (fun a k hk => fw24 a k (by unfold m4Kp at hk; omega) (by unfold m4Kp at hk; omega)))).trans (m4Kb_up Uw26 (by unfold m4Kp; omega)))
              have e46 : (m4X w18 240 46).toInt.toNat = (m4X w 240 46).toInt.toNat := by omega
              have ie : m4IE b fr ((7, 126) :: T) true w26 := m4IE_push h Tw26 (by omega) (by omega) (by omega) ((((((Uw26.X (b := 240) (j := 44) (by omega))).trans (m4X_fld (fw24 240 44 (by omega) (by omega)))).trans (kw18.X (a := 240) (k := 44) ro_240 rfl)).trans (Uw7.X (b := 240) (j := 44) (by omega))).trans (Uw4.X (b := 240) (j := 44) (by omega))) (by omega) (by omega) (by omega) (fun k => (((((Uw26.X (b := 269) (j := k) (by omega))).trans (m4X_fld (fw24 269 k (by omega) (by omega)))).trans (kw18.X (a := 269) (k := k) ro_269 rfl)).trans (Uw7.X (b := 269) (j := k) (by omega))).trans (Uw4.X (b := 269) (j := k) (by omega))) (fun j hj => ⟨(((((Uw26.X (b := 271) (j := j) (by omega))).trans (m4X_fld (fw24 271 j (by omega) (by omega)))).trans (kw18.X (a := 271) (k := j) ro_271 rfl)).trans (Uw7.X (b := 271) (j := j) (by omega))).trans (Uw4.X (b := 271) (j := j) (by omega)), (((((Uw26.X (b := 272) (j := j) (by omega))).trans (m4X_fld (fw24 272 j (by omega) (by omega)))).trans (kw18.X (a := 272) (k := j) ro_272 rfl)).trans (Uw7.X (b := 272) (j := j) (by omega))).trans (Uw4.X (b := 272) (j := j) (by omega))⟩) (by rw [← e46, Uw26.X (Or.inl (by decide)), pw24.1]; rfl) (by rw [← e46, Uw26.X (Or.inl (by decide)), pw24.2]; rfl)
              have mf := m4Mu_eq (w := w18) (w1 := w26) (by omega) (by omega)
              have mi := m4Mu_eq (w := w) (w1 := w7) (by omega) (by omega)
              exact ⟨Tw26, kb, by omega, _, rfl, Or.inr ⟨by omega, Or.inl (by have := muw18.2 (by omega); omega), Or.inl ⟨rfl, _, ie⟩⟩⟩
            · exfalso; omega
    · exfalso; omega
  · refine g_A (st1 := [.int (0 : Int32), .int (m4X w 247 (m4X w 240 43).toInt.toNat), .int (m4X w 240 43), .ref 247]) M_209 q_209_170 rfl ?_
    refine g_goto M_209 q_209_171 ?_
    refine g_two M_209 q_209_175 rfl (fun u27 _ => ?_)
    refine h_ast (j := (m4X w 240 43).toInt.toNat) M_209 q_209_176 Tw ro_247 (by decide) kd_248 ln_248 (by omega) (by omega) (m4_hasI (ta_248 _) (mjB.all _).1 (mjB.all _).2) (fun w28 Tw28 Uw28 => ?_)
    have tw28_247_x := Uw28.at
    have tw28_240_3 := Uw28.ne (b := 240) (j := 3) (by first | decide | (left; decide) | (right; omega) | (left; omega))
    have tw28_240_4 := Uw28.ne (b := 240) (j := 4) (by first | decide | (left; decide) | (right; omega) | (left; omega))
    have tw28_240_7 := Uw28.ne (b := 240) (j := 7) (by first | decide | (left; decide) | (right; omega) | (left; omega))
    have tw28_240_8 := Uw28.ne (b := 240) (j := 8) (by first | decide | (left; decide) | (right; omega) | (left; omega))
    have tw28_240_43 := Uw28.ne (b := 240) (j := 43) (by first | decide | (left; decide) | (right; omega) | (left; omega))
    have tw28_240_44 := Uw28.ne (b := 240) (j := 44) (by first | decide | (left; decide) | (right; omega) | (left; omega))
    have tw28_240_45 := Uw28.ne (b := 240) (j := 45) (by first | decide | (left; decide) | (right; omega) | (left; omega))
    have tw28_240_46 := Uw28.ne (b := 240) (j := 46) (by first | decide | (left; decide) | (right; omega) | (left; omega))
    have tw28_240_47 := Uw28.ne (b := 240) (j := 47) (by first | decide | (left; decide) | (right; omega) | (left; omega))
    refine g_L (v := .ref 240) (n := 1) M_209 q_209_177 rfl ?_
    refine g_A (st1 := [.ref 240, .ref 240]) M_209 q_209_178 rfl ?_
    have bw28_240_47 := (fi_240_47 Tw28).2
    refine h_get M_209 q_209_179 Tw28 ro_240 (by decide) kd_241 (fi_240_47 Tw28).1 ?_
    refine g_L (v := .int nt) (n := 1) M_209 q_209_182 rfl ?_
    refine g_if M_209 q_209_183 mjCz_eq (fun b29 => ?_) (fun b29 => ?_)
    · exfalso; omega
    · refine g_A (st1 := [.int (0 : Int32), .int (m4X w28 240 47), .ref 240]) M_209 q_209_186 rfl ?_
      refine g_goto M_209 q_209_187 ?_
      refine h_iadd M_209 q_209_191 (by omega) (by omega) (fun u30 hu30 => ?_)
      refine h_put M_209 q_209_192 Tw28 ro_240 (by decide) kd_241 ln_241 (by decide) (m4_fitI rfl) (m4_hasI ty_241_47 (by omega) (by omega)) (fun w31 Tw31 Uw31 => ?_)
      have tw31_240_47 := Uw31.at
      have tw31_240_3 := Uw31.ne (b := 240) (j := 3) (by decide)
      have tw31_240_4 := Uw31.ne (b := 240) (j := 4) (by decide)
      have tw31_240_7 := Uw31.ne (b := 240) (j := 7) (by decide)
      have tw31_240_8 := Uw31.ne (b := 240) (j := 8) (by decide)
      have tw31_240_43 := Uw31.ne (b := 240) (j := 43) (by decide)
      have tw31_240_44 := Uw31.ne (b := 240) (j := 44) (by decide)
      have tw31_240_45 := Uw31.ne (b := 240) (j := 45) (by decide)
      have tw31_240_46 := Uw31.ne (b := 240) (j := 46) (by decide)
      refine g_L (v := .int c) (n := 2) M_209 q_209_195 rfl ?_
      refine g_if M_209 q_209_197 mjCz_ne (fun b32 => ?_) (fun b32 => ?_)
      · refine g_A (st1 := [.int (0 : Int32)]) M_209 q_209_207 rfl ?_
        refine g_S (ls1 := [some (.ref 240), some (.int bg), some (.int nt), some (.int br), some (.int c), some (.int fl), some (.int (0 : Int32))]) (st1 := []) (n := 2) M_209 q_209_208 rfl ?_
        refine g_L (v := .ref 240) (n := 1) M_209 q_209_210 rfl ?_
        refine g_call (d := 3) (y1 := 181) (as := [.ref 240]) (rest := []) (M1 := mjM_181) (d1 := 2) (ls0 := [some (.ref 240), none, none]) M_209 q_209_211 (h_cv Tw31 ro_240 (by decide) kd_241 (by decide) (show 0 ≤ 1 by decide) rfl (show 0 ≤ 8 by decide)) M_181 (show 1 ≤ 3 by decide) (by decide) rfl (by decide) (H_goOn (d := 1) (by decide) Tw31 (by omega)) ?_
        rintro r w33 ⟨rfl, Tw33, kw33, gw33a, gw33b⟩
        have muw33 := m4Mu_go (fi_240_8 Tw33).2.1 gw33b
        have tw33_240_3 := congrArg Int32.toInt (kw33.X (a := 240) (k := 3) ro_240 rfl)
        have tw33_240_4 := congrArg Int32.toInt (kw33.X (a := 240) (k := 4) ro_240 rfl)
        have tw33_240_43 := congrArg Int32.toInt (kw33.X (a := 240) (k := 43) ro_240 rfl)
        have tw33_240_44 := congrArg Int32.toInt (kw33.X (a := 240) (k := 44) ro_240 rfl)
        have tw33_240_45 := congrArg Int32.toInt (kw33.X (a := 240) (k := 45) ro_240 rfl)
        have tw33_240_46 := congrArg Int32.toInt (kw33.X (a := 240) (k := 46) ro_240 rfl)
        have tw33_240_47 := congrArg Int32.toInt (kw33.X (a := 240) (k := 47) ro_240 rfl)
        show mjGo mjTb mjMt sc _ 209 (214, [some (.ref 240), some (.int bg), some (.int nt), some (.int br), some (.int c), some (.int fl), some (.int (0 : Int32))], [], w33) _
        refine g_L (v := .int nt) (n := 1) M_209 q_209_214 rfl ?_
        refine g_if M_209 q_209_215 mjCz_ne (fun b34 => ?_) (fun b34 => ?_)
        · refine g_L (v := .ref 240) (n := 1) M_209 q_209_222 rfl ?_
          refine g_L (v := .int nt) (n := 1) M_209 q_209_223 rfl ?_
          refine g_if M_209 q_209_224 mjCz_eq (fun b35 => ?_) (fun b35 => ?_)
          · exfalso; omega
          · refine g_A (st1 := [.int (3 : Int32), .ref 240]) M_209 q_209_227 rfl ?_
            refine g_goto M_209 q_209_228 ?_
            refine g_P (v := .int (126 : Int32)) (n := 2) M_209 q_209_233 rfl ?_
            refine g_call (d := 3) (y1 := 208) (as := [.ref 240, .int (3 : Int32), .int (126 : Int32)]) (rest := []) (M1 := mjM_208) (d1 := 0) (ls0 := [some (.ref 240), some (.int (3 : Int32)), some (.int (126 : Int32))]) M_209 q_209_235 (h_cv Tw33 ro_240 (by decide) kd_241 (by decide) (show 2 ≤ 3 by decide) rfl (show 0 ≤ 8 by decide)) M_208 (show 3 ≤ 3 by decide) (by decide) rfl (by decide) (H_pushE Tw33 (by omega)) ?_
            rintro r w36 ⟨rfl, Tw36, sw36, fw36, nw36, pw36⟩
            have tw36_240_3 : (m4X w36 240 3).toInt = (m4X w33 240 3).toInt := by unfold m4X; rw [fw36 240 3 (by omega) (by omega)]
            have tw36_240_4 : (m4X w36 240 4).toInt = (m4X w33 240 4).toInt := by unfold m4X; rw [fw36 240 4 (by omega) (by omega)]
            have tw36_240_7 : (m4X w36 240 7).toInt = (m4X w33 240 7).toInt := by unfold m4X; rw [fw36 240 7 (by omega) (by omega)]
            have tw36_240_8 : (m4X w36 240 8).toInt = (m4X w33 240 8).toInt := by unfold m4X; rw [fw36 240 8 (by omega) (by omega)]
            have tw36_240_43 : (m4X w36 240 43).toInt = (m4X w33 240 43).toInt := by unfold m4X; rw [fw36 240 43 (by omega) (by omega)]
            have tw36_240_44 : (m4X w36 240 44).toInt = (m4X w33 240 44).toInt := by unfold m4X; rw [fw36 240 44 (by omega) (by omega)]
            have tw36_240_45 : (m4X w36 240 45).toInt = (m4X w33 240 45).toInt := by unfold m4X; rw [fw36 240 45 (by omega) (by omega)]
            have tw36_240_47 : (m4X w36 240 47).toInt = (m4X w33 240 47).toInt := by unfold m4X; rw [fw36 240 47 (by omega) (by omega)]
            show mjGo mjTb mjMt sc _ 209 (238, [some (.ref 240), some (.int bg), some (.int nt), some (.int br), some (.int c), some (.int fl), some (.int (0 : Int32))], [], w36) _
            refine g_L (v := .ref 240) (n := 1) M_209 q_209_238 rfl ?_
            refine g_A (st1 := [.ref 240, .ref 240]) M_209 q_209_239 rfl ?_
            have bw36_240_45 := (fi_240_45 Tw36).2
            refine h_get M_209 q_209_240 Tw36 ro_240 (by decide) kd_241 (fi_240_45 Tw36).1 ?_
            refine g_A (st1 := [.int (1 : Int32), .int (m4X w36 240 45), .ref 240]) M_209 q_209_243 rfl ?_
            refine h_iadd M_209 q_209_244 (by omega) (by omega) (fun u37 hu37 => ?_)
            refine h_put M_209 q_209_245 Tw36 ro_240 (by decide) kd_241 ln_241 (by decide) (m4_fitI rfl) (m4_hasI ty_241_45 (by omega) (by omega)) (fun w38 Tw38 Uw38 => ?_)
            have tw38_240_45 := Uw38.at
            have tw38_240_3 := Uw38.ne (b := 240) (j := 3) (by decide)
            have tw38_240_4 := Uw38.ne (b := 240) (j := 4) (by decide)
            have tw38_240_7 := Uw38.ne (b := 240) (j := 7) (by decide)
            have tw38_240_8 := Uw38.ne (b := 240) (j := 8) (by decide)
            have tw38_240_43 := Uw38.ne (b := 240) (j := 43) (by decide)
            have tw38_240_44 := Uw38.ne (b := 240) (j := 44) (by decide)
            have tw38_240_46 := Uw38.ne (b := 240) (j := 46) (by decide)
            have tw38_240_47 := Uw38.ne (b := 240) (j := 47) (by decide)
            refine g_A (st1 := [.int (1 : Int32)]) M_209 q_209_248 rfl ?_
            refine g_ret (v := some (.int (1 : Int32))) M_209 q_209_249 (h_rtZ) ?_
            have kb : m4Kb b w w38 := (((((m4Kb_up Uw28 (by unfold m4Kp; omega)).trans (m4Kb_up Uw31 (by unfold m4Kp; omega))).trans (m4Kb_kp kw33 (by decide))).trans (m4Kb_fld sw36 (fun a k hk => fw36 a k (by unfold m4Kp at hk; omega) (by unfold m4Kp at hk; omega)))).trans (m4Kb_up Uw38 (by unfold m4Kp; omega)))
            have e46 : (m4X w33 240 46).toInt.toNat = (m4X w 240 46).toInt.toNat := by omega
            have ie : m4IE b fr ((3, 126) :: T) true w38 := m4IE_push h Tw38 (by omega) (by omega) (by omega) ((((((Uw38.X (b := 240) (j := 44) (by omega))).trans (m4X_fld (fw36 240 44 (by omega) (by omega)))).trans (kw33.X (a := 240) (k := 44) ro_240 rfl)).trans (Uw31.X (b := 240) (j := 44) (by omega))).trans (Uw28.X (b := 240) (j := 44) (by omega))) (by omega) (by omega) (by omega) (fun k => (((((Uw38.X (b := 269) (j := k) (by omega))).trans (m4X_fld (fw36 269 k (by omega) (by omega)))).trans (kw33.X (a := 269) (k := k) ro_269 rfl)).trans (Uw31.X (b := 269) (j := k) (by omega))).trans (Uw28.X (b := 269) (j := k) (by omega))) (fun j hj => ⟨(((((Uw38.X (b := 271) (j := j) (by omega))).trans (m4X_fld (fw36 271 j (by omega) (by omega)))).trans (kw33.X (a := 271) (k := j) ro_271 rfl)).trans (Uw31.X (b := 271) (j := j) (by omega))).trans (Uw28.X (b := 271) (j := j) (by omega)), (((((Uw38.X (b := 272) (j := j) (by omega))).trans (m4X_fld (fw36 272 j (by omega) (by omega)))).trans (kw33.X (a := 272) (k := j) ro_272 rfl)).trans (Uw31.X (b := 272) (j := j) (by omega))).trans (Uw28.X (b := 272) (j := j) (by omega))⟩) (by rw [← e46, Uw38.X (Or.inl (by decide)), pw36.1]; rfl) (by rw [← e46, Uw38.X (Or.inl (by decide)), pw36.2]; rfl)
            have mf := m4Mu_eq (w := w33) (w1 := w38) (by omega) (by omega)
            have mi := m4Mu_eq (w := w) (w1 := w31) (by omega) (by omega)
            exact ⟨Tw38, kb, by omega, _, rfl, Or.inr ⟨by omega, Or.inl (by have := muw33.2 (by omega); omega), Or.inl ⟨rfl, _, ie⟩⟩⟩
        · exfalso; omega
      · refine g_L (v := .ref 240) (n := 1) M_209 q_209_200 rfl ?_
        have bw31_240_9 := (fi_240_9 Tw31).2
        refine h_get M_209 q_209_201 Tw31 ro_240 (by decide) kd_241 (fi_240_9 Tw31).1 ?_
        refine g_goto M_209 q_209_204 ?_
        refine g_S (ls1 := [some (.ref 240), some (.int bg), some (.int nt), some (.int br), some (.int c), some (.int fl), some (.int (m4X w31 240 9))]) (st1 := []) (n := 2) M_209 q_209_208 rfl ?_
        refine g_L (v := .ref 240) (n := 1) M_209 q_209_210 rfl ?_
        refine g_call (d := 3) (y1 := 181) (as := [.ref 240]) (rest := []) (M1 := mjM_181) (d1 := 2) (ls0 := [some (.ref 240), none, none]) M_209 q_209_211 (h_cv Tw31 ro_240 (by decide) kd_241 (by decide) (show 0 ≤ 1 by decide) rfl (show 0 ≤ 8 by decide)) M_181 (show 1 ≤ 3 by decide) (by decide) rfl (by decide) (H_goOn (d := 1) (by decide) Tw31 (by omega)) ?_
        rintro r w39 ⟨rfl, Tw39, kw39, gw39a, gw39b⟩
        have muw39 := m4Mu_go (fi_240_8 Tw39).2.1 gw39b
        have tw39_240_3 := congrArg Int32.toInt (kw39.X (a := 240) (k := 3) ro_240 rfl)
        have tw39_240_4 := congrArg Int32.toInt (kw39.X (a := 240) (k := 4) ro_240 rfl)
        have tw39_240_43 := congrArg Int32.toInt (kw39.X (a := 240) (k := 43) ro_240 rfl)
        have tw39_240_44 := congrArg Int32.toInt (kw39.X (a := 240) (k := 44) ro_240 rfl)
        have tw39_240_45 := congrArg Int32.toInt (kw39.X (a := 240) (k := 45) ro_240 rfl)
        have tw39_240_46 := congrArg Int32.toInt (kw39.X (a := 240) (k := 46) ro_240 rfl)
        have tw39_240_47 := congrArg Int32.toInt (kw39.X (a := 240) (k := 47) ro_240 rfl)
        show mjGo mjTb mjMt sc _ 209 (214, [some (.ref 240), some (.int bg), some (.int nt), some (.int br), some (.int c), some (.int fl), some (.int (m4X w31 240 9))], [], w39) _
        refine g_L (v := .int nt) (n := 1) M_209 q_209_214 rfl ?_
        refine g_if M_209 q_209_215 mjCz_ne (fun b40 => ?_) (fun b40 => ?_)
        · refine g_L (v := .ref 240) (n := 1) M_209 q_209_222 rfl ?_
          refine g_L (v := .int nt) (n := 1) M_209 q_209_223 rfl ?_
          refine g_if M_209 q_209_224 mjCz_eq (fun b41 => ?_) (fun b41 => ?_)
          · exfalso; omega
          · refine g_A (st1 := [.int (3 : Int32), .ref 240]) M_209 q_209_227 rfl ?_
            refine g_goto M_209 q_209_228 ?_
            refine g_P (v := .int (126 : Int32)) (n := 2) M_209 q_209_233 rfl ?_
            refine g_call (d := 3) (y1 := 208) (as := [.ref 240, .int (3 : Int32), .int (126 : Int32)]) (rest := []) (M1 := mjM_208) (d1 := 0) (ls0 := [some (.ref 240), some (.int (3 : Int32)), some (.int (126 : Int32))]) M_209 q_209_235 (h_cv Tw39 ro_240 (by decide) kd_241 (by decide) (show 2 ≤ 3 by decide) rfl (show 0 ≤ 8 by decide)) M_208 (show 3 ≤ 3 by decide) (by decide) rfl (by decide) (H_pushE Tw39 (by omega)) ?_
            rintro r w42 ⟨rfl, Tw42, sw42, fw42, nw42, pw42⟩
            have tw42_240_3 : (m4X w42 240 3).toInt = (m4X w39 240 3).toInt := by unfold m4X; rw [fw42 240 3 (by omega) (by omega)]
            have tw42_240_4 : (m4X w42 240 4).toInt = (m4X w39 240 4).toInt := by unfold m4X; rw [fw42 240 4 (by omega) (by omega)]
            have tw42_240_7 : (m4X w42 240 7).toInt = (m4X w39 240 7).toInt := by unfold m4X; rw [fw42 240 7 (by omega) (by omega)]
            have tw42_240_8 : (m4X w42 240 8).toInt = (m4X w39 240 8).toInt := by unfold m4X; rw [fw42 240 8 (by omega) (by omega)]
            have tw42_240_43 : (m4X w42 240 43).toInt = (m4X w39 240 43).toInt := by unfold m4X; rw [fw42 240 43 (by omega) (by omega)]
            have tw42_240_44 : (m4X w42 240 44).toInt = (m4X w39 240 44).toInt := by unfold m4X; rw [fw42 240 44 (by omega) (by omega)]
            have tw42_240_45 : (m4X w42 240 45).toInt = (m4X w39 240 45).toInt := by unfold m4X; rw [fw42 240 45 (by omega) (by omega)]
            have tw42_240_47 : (m4X w42 240 47).toInt = (m4X w39 240 47).toInt := by unfold m4X; rw [fw42 240 47 (by omega) (by omega)]
            show mjGo mjTb mjMt sc _ 209 (238, [some (.ref 240), some (.int bg), some (.int nt), some (.int br), some (.int c), some (.int fl), some (.int (m4X w31 240 9))], [], w42) _
            refine g_L (v := .ref 240) (n := 1) M_209 q_209_238 rfl ?_
            refine g_A (st1 := [.ref 240, .ref 240]) M_209 q_209_239 rfl ?_
            have bw42_240_45 := (fi_240_45 Tw42).2
            refine h_get M_209 q_209_240 Tw42 ro_240 (by decide) kd_241 (fi_240_45 Tw42).1 ?_
            refine g_A (st1 := [.int (1 : Int32), .int (m4X w42 240 45), .ref 240]) M_209 q_209_243 rfl ?_
            refine h_iadd M_209 q_209_244 (by omega) (by omega) (fun u43 hu43 => ?_)
            refine h_put M_209 q_209_245 Tw42 ro_240 (by decide) kd_241 ln_241 (by decide) (m4_fitI rfl) (m4_hasI ty_241_45 (by omega) (by omega)) (fun w44 Tw44 Uw44 => ?_)
            have tw44_240_45 := Uw44.at
            have tw44_240_3 := Uw44.ne (b := 240) (j := 3) (by decide)
            have tw44_240_4 := Uw44.ne (b := 240) (j := 4) (by decide)
            have tw44_240_7 := Uw44.ne (b := 240) (j := 7) (by decide)
            have tw44_240_8 := Uw44.ne (b := 240) (j := 8) (by decide)
            have tw44_240_43 := Uw44.ne (b := 240) (j := 43) (by decide)
            have tw44_240_44 := Uw44.ne (b := 240) (j := 44) (by decide)
            have tw44_240_46 := Uw44.ne (b := 240) (j := 46) (by decide)
            have tw44_240_47 := Uw44.ne (b := 240) (j := 47) (by decide)
            refine g_A (st1 := [.int (1 : Int32)]) M_209 q_209_248 rfl ?_
            refine g_ret (v := some (.int (1 : Int32))) M_209 q_209_249 (h_rtZ) ?_
            have kb : m4Kb b w w44 := (((((m4Kb_up Uw28 (by unfold m4Kp; omega)).trans (m4Kb_up Uw31 (by unfold m4Kp; omega))).trans (m4Kb_kp kw39 (by decide))).trans (m4Kb_fld sw42 (fun a k hk => fw42 a k (by unfold m4Kp at hk; omega) (by unfold m4Kp at hk; omega)))).trans (m4Kb_up Uw44 (by unfold m4Kp; omega)))
            have e46 : (m4X w39 240 46).toInt.toNat = (m4X w 240 46).toInt.toNat := by omega
            have ie : m4IE b fr ((3, 126) :: T) true w44 := m4IE_push h Tw44 (by omega) (by omega) (by omega) ((((((Uw44.X (b := 240) (j := 44) (by omega))).trans (m4X_fld (fw42 240 44 (by omega) (by omega)))).trans (kw39.X (a := 240) (k := 44) ro_240 rfl)).trans (Uw31.X (b := 240) (j := 44) (by omega))).trans (Uw28.X (b := 240) (j := 44) (by omega))) (by omega) (by omega) (by omega) (fun k => (((((Uw44.X (b := 269) (j := k) (by omega))).trans (m4X_fld (fw42 269 k (by omega) (by omega)))).trans (kw39.X (a := 269) (k := k) ro_269 rfl)).trans (Uw31.X (b := 269) (j := k) (by omega))).trans (Uw28.X (b := 269) (j := k) (by omega))) (fun j hj => ⟨(((((Uw44.X (b := 271) (j := j) (by omega))).trans (m4X_fld (fw42 271 j (by omega) (by omega)))).trans (kw39.X (a := 271) (k := j) ro_271 rfl)).trans (Uw31.X (b := 271) (j := j) (by omega))).trans (Uw28.X (b := 271) (j := j) (by omega)), (((((Uw44.X (b := 272) (j := j) (by omega))).trans (m4X_fld (fw42 272 j (by omega) (by omega)))).trans (kw39.X (a := 272) (k := j) ro_272 rfl)).trans (Uw31.X (b := 272) (j := j) (by omega))).trans (Uw28.X (b := 272) (j := j) (by omega))⟩) (by rw [← e46, Uw44.X (Or.inl (by decide)), pw42.1]; rfl) (by rw [← e46, Uw44.X (Or.inl (by decide)), pw42.2]; rfl)
            have mf := m4Mu_eq (w := w39) (w1 := w44) (by omega) (by omega)
            have mi := m4Mu_eq (w := w) (w1 := w31) (by omega) (by omega)
            exact ⟨Tw44, kb, by omega, _, rfl, Or.inr ⟨by omega, Or.inl (by have := muw39.2 (by omega); omega), Or.inl ⟨rfl, _, ie⟩⟩⟩
        · exfalso; omega
