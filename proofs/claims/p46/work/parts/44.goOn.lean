/-! ===== the parser, by hand ===== -/
theorem H_go1 {sc : List Int32} {d : Nat} {P : Option Value → MjW → Prop} (hd : 1 ≤ d) (n : Nat) : ∀ w : MjW, mjTyd m4S w → 0 ≤ (m4X w 240 6).toInt → (m4X w 240 3).toInt - (m4X w 240 6).toInt < (n : Int) → (∀ w1 : MjW, mjTyd m4S w1 → mjKp m4S [(241, 6)] w w1 → (m4X w 240 6).toInt ≤ (m4X w1 240 6).toInt → ((m4X w 240 6).toInt ≤ (m4X w 240 3).toInt → (m4X w1 240 6).toInt ≤ (m4X w 240 3).toInt) → mjGo mjTb mjMt sc (d + 1) 181 (58, [some (.ref 240), none, none], [], w1) P) → mjGo mjTb mjMt sc (d + 1) 181 (8, [some (.ref 240), none, none], [], w) P := by
  induction n with
  | zero =>
    intro w Tw a0 a1 K
    refine g_L (v := .ref 240) (n := 1) M_181 q_181_8 rfl ?_
    have bw_240_6 := (fi_240_6 Tw).2
    refine h_get M_181 q_181_9 Tw ro_240 (by decide) kd_241 (fi_240_6 Tw).1 ?_
    refine g_L (v := .ref 240) (n := 1) M_181 q_181_12 rfl ?_
    have bw_240_3 := (fi_240_3 Tw).2
    refine h_get M_181 q_181_13 Tw ro_240 (by decide) kd_241 (fi_240_3 Tw).1 ?_
    refine g_icmp M_181 q_181_16 mjCi_ge (fun b1 => ?_) (fun b1 => ?_)
    · exact K w Tw mjKp.refl (by omega) (by omega)
    · exfalso; omega
  | succ n ih =>
    intro w Tw a0 a1 K
    have k_1 := c_1
    have k_10 := c_10
    have k_32 := c_32
    refine g_L (v := .ref 240) (n := 1) M_181 q_181_8 rfl ?_
    have bw_240_6 := (fi_240_6 Tw).2
    refine h_get M_181 q_181_9 Tw ro_240 (by decide) kd_241 (fi_240_6 Tw).1 ?_
    refine g_L (v := .ref 240) (n := 1) M_181 q_181_12 rfl ?_
    have bw_240_3 := (fi_240_3 Tw).2
    refine h_get M_181 q_181_13 Tw ro_240 (by decide) kd_241 (fi_240_3 Tw).1 ?_
    refine g_icmp M_181 q_181_16 mjCi_ge (fun b1 => ?_) (fun b1 => ?_)
    · exact K w Tw mjKp.refl (by omega) (by omega)
    · refine g_L (v := .ref 240) (n := 1) M_181 q_181_19 rfl ?_
      refine g_L (v := .ref 240) (n := 1) M_181 q_181_20 rfl ?_
      have bw_240_6 := (fi_240_6 Tw).2
      refine h_get M_181 q_181_21 Tw ro_240 (by decide) kd_241 (fi_240_6 Tw).1 ?_
      refine h_run (as := [.ref 240, .int (m4X w 240 6)]) (rest := []) (M1 := mjM_182) (d1 := 0) (ls0 := [some (.ref 240), some (.int (m4X w 240 6))]) M_181 q_181_24 (h_cv Tw ro_240 (by decide) kd_241 (by decide) (show 1 ≤ 2 by decide) rfl (show 0 ≤ 8 by decide)) M_182 (show 2 ≤ 2 by decide) (by decide) rfl (by omega) (H_sign Tw (by omega)) (fun u2 hu2 => ?_)
      obtain ⟨hu2a, hu2b, hu2c, hu2d⟩ := hu2
      refine g_P (v := .int (32 : Int32)) (n := 2) M_181 q_181_27 rfl ?_
      refine g_icmp M_181 q_181_29 mjCi_eq (fun b3 => ?_) (fun b3 => ?_)
      · refine g_L (v := .ref 240) (n := 1) M_181 q_181_45 rfl ?_
        refine g_A (st1 := [.ref 240, .ref 240]) M_181 q_181_46 rfl ?_
        have bw_240_6 := (fi_240_6 Tw).2
        refine h_get M_181 q_181_47 Tw ro_240 (by decide) kd_241 (fi_240_6 Tw).1 ?_
        refine g_A (st1 := [.int (1 : Int32), .int (m4X w 240 6), .ref 240]) M_181 q_181_50 rfl ?_
        refine h_iadd M_181 q_181_51 (by omega) (by omega) (fun u4 hu4 => ?_)
        refine h_put M_181 q_181_52 Tw ro_240 (by decide) kd_241 ln_241 (by decide) (m4_fitI rfl) (m4_hasI ty_241_6 (by omega) (by omega)) (fun w5 Tw5 Uw5 => ?_)
        have tw5_240_6 := Uw5.at
        have tw5_240_3 := Uw5.ne (b := 240) (j := 3) (by decide)
        have tw5_240_7 := Uw5.ne (b := 240) (j := 7) (by decide)
        have tw5_240_8 := Uw5.ne (b := 240) (j := 8) (by decide)
        have tw5_240_9 := Uw5.ne (b := 240) (j := 9) (by decide)
        refine g_goto M_181 q_181_55 ?_
        exact ih w5 Tw5 (by omega) (by omega) (fun w9 T9 k9 b1 b2 => K w9 T9 ((Uw5.kp ro_240 rfl).trans k9) (by omega) (by omega))
      · refine g_L (v := .ref 240) (n := 1) M_181 q_181_32 rfl ?_
        refine g_L (v := .ref 240) (n := 1) M_181 q_181_33 rfl ?_
        have bw_240_6 := (fi_240_6 Tw).2
        refine h_get M_181 q_181_34 Tw ro_240 (by decide) kd_241 (fi_240_6 Tw).1 ?_
        refine h_run (as := [.ref 240, .int (m4X w 240 6)]) (rest := []) (M1 := mjM_182) (d1 := 0) (ls0 := [some (.ref 240), some (.int (m4X w 240 6))]) M_181 q_181_37 (h_cv Tw ro_240 (by decide) kd_241 (by decide) (show 1 ≤ 2 by decide) rfl (show 0 ≤ 8 by decide)) M_182 (show 2 ≤ 2 by decide) (by decide) rfl (by omega) (H_sign Tw (by omega)) (fun u6 hu6 => ?_)
        obtain ⟨hu6a, hu6b, hu6c, hu6d⟩ := hu6
        refine g_P (v := .int (10 : Int32)) (n := 2) M_181 q_181_40 rfl ?_
        refine g_icmp M_181 q_181_42 mjCi_ne (fun b7 => ?_) (fun b7 => ?_)
        · exact K w Tw mjKp.refl (by omega) (by omega)
        · refine g_L (v := .ref 240) (n := 1) M_181 q_181_45 rfl ?_
          refine g_A (st1 := [.ref 240, .ref 240]) M_181 q_181_46 rfl ?_
          have bw_240_6 := (fi_240_6 Tw).2
          refine h_get M_181 q_181_47 Tw ro_240 (by decide) kd_241 (fi_240_6 Tw).1 ?_
          refine g_A (st1 := [.int (1 : Int32), .int (m4X w 240 6), .ref 240]) M_181 q_181_50 rfl ?_
          refine h_iadd M_181 q_181_51 (by omega) (by omega) (fun u8 hu8 => ?_)
          refine h_put M_181 q_181_52 Tw ro_240 (by decide) kd_241 ln_241 (by decide) (m4_fitI rfl) (m4_hasI ty_241_6 (by omega) (by omega)) (fun w9 Tw9 Uw9 => ?_)
          have tw9_240_6 := Uw9.at
          have tw9_240_3 := Uw9.ne (b := 240) (j := 3) (by decide)
          have tw9_240_7 := Uw9.ne (b := 240) (j := 7) (by decide)
          have tw9_240_8 := Uw9.ne (b := 240) (j := 8) (by decide)
          have tw9_240_9 := Uw9.ne (b := 240) (j := 9) (by decide)
          refine g_goto M_181 q_181_55 ?_
          exact ih w9 Tw9 (by omega) (by omega) (fun w9 T9 k9 b1 b2 => K w9 T9 ((Uw9.kp ro_240 rfl).trans k9) (by omega) (by omega))
theorem H_go2 {sc : List Int32} {d : Nat} {P : Option Value → MjW → Prop} (hd : 1 ≤ d) (n : Nat) : ∀ w : MjW, mjTyd m4S w → ∀ c : Int32, 0 ≤ (m4X w 240 7).toInt → (m4X w 240 3).toInt - (m4X w 240 7).toInt < (n : Int) → (∀ w1 : MjW, mjTyd m4S w1 → mjKp m4S [(241, 7)] w w1 → (m4X w 240 7).toInt ≤ (m4X w1 240 7).toInt → ((m4X w 240 7).toInt ≤ (m4X w 240 3).toInt → (m4X w1 240 7).toInt ≤ (m4X w 240 3).toInt) → mjGo mjTb mjMt sc (d + 1) 181 (146, [some (.ref 240), some (.int c), none], [], w1) P) → mjGo mjTb mjMt sc (d + 1) 181 (119, [some (.ref 240), some (.int c), none], [], w) P := by
  induction n with
  | zero =>
    intro w Tw c a0 a1 K
    have b3 := (fi_240_3 Tw).2
    refine g_L (v := .ref 240) (n := 1) M_181 q_181_119 rfl ?_
    refine g_L (v := .ref 240) (n := 1) M_181 q_181_120 rfl ?_
    have bw_240_7 := (fi_240_7 Tw).2
    refine h_get M_181 q_181_121 Tw ro_240 (by decide) kd_241 (fi_240_7 Tw).1 ?_
    refine h_run (as := [.ref 240, .int (m4X w 240 7)]) (rest := []) (M1 := mjM_182) (d1 := 0) (ls0 := [some (.ref 240), some (.int (m4X w 240 7))]) M_181 q_181_124 (h_cv Tw ro_240 (by decide) kd_241 (by decide) (show 1 ≤ 2 by decide) rfl (show 0 ≤ 8 by decide)) M_182 (show 2 ≤ 2 by decide) (by decide) rfl (by omega) (H_sign Tw (by omega)) (fun u1 hu1 => ?_)
    obtain ⟨hu1a, hu1b, hu1c, hu1d⟩ := hu1
    refine h_run (as := [.int u1]) (rest := []) (M1 := mjM_183) (d1 := 0) (ls0 := [some (.int u1)]) M_181 q_181_127 rfl M_183 (show 1 ≤ 1 by decide) (by decide) rfl (by omega) H_isLetter (fun u2 hu2 => ?_)
    refine g_if M_181 q_181_130 mjCz_eq (fun b3 => ?_) (fun b3 => ?_)
    · exact K w Tw mjKp.refl (by omega) (by omega)
    · exfalso; omega
  | succ n ih =>
    intro w Tw c a0 a1 K
    have k_1 := c_1
    have b3 := (fi_240_3 Tw).2
    refine g_L (v := .ref 240) (n := 1) M_181 q_181_119 rfl ?_
    refine g_L (v := .ref 240) (n := 1) M_181 q_181_120 rfl ?_
    have bw_240_7 := (fi_240_7 Tw).2
    refine h_get M_181 q_181_121 Tw ro_240 (by decide) kd_241 (fi_240_7 Tw).1 ?_
    refine h_run (as := [.ref 240, .int (m4X w 240 7)]) (rest := []) (M1 := mjM_182) (d1 := 0) (ls0 := [some (.ref 240), some (.int (m4X w 240 7))]) M_181 q_181_124 (h_cv Tw ro_240 (by decide) kd_241 (by decide) (show 1 ≤ 2 by decide) rfl (show 0 ≤ 8 by decide)) M_182 (show 2 ≤ 2 by decide) (by decide) rfl (by omega) (H_sign Tw (by omega)) (fun u1 hu1 => ?_)
    obtain ⟨hu1a, hu1b, hu1c, hu1d⟩ := hu1
    refine h_run (as := [.int u1]) (rest := []) (M1 := mjM_183) (d1 := 0) (ls0 := [some (.int u1)]) M_181 q_181_127 rfl M_183 (show 1 ≤ 1 by decide) (by decide) rfl (by omega) H_isLetter (fun u2 hu2 => ?_)
    refine g_if M_181 q_181_130 mjCz_eq (fun b3 => ?_) (fun b3 => ?_)
    · exact K w Tw mjKp.refl (by omega) (by omega)
    · refine g_L (v := .ref 240) (n := 1) M_181 q_181_133 rfl ?_
      refine g_A (st1 := [.ref 240, .ref 240]) M_181 q_181_134 rfl ?_
      have bw_240_7 := (fi_240_7 Tw).2
      refine h_get M_181 q_181_135 Tw ro_240 (by decide) kd_241 (fi_240_7 Tw).1 ?_
      refine g_A (st1 := [.int (1 : Int32), .int (m4X w 240 7), .ref 240]) M_181 q_181_138 rfl ?_
      refine h_iadd M_181 q_181_139 (by omega) (by omega) (fun u4 hu4 => ?_)
      refine h_put M_181 q_181_140 Tw ro_240 (by decide) kd_241 ln_241 (by decide) (m4_fitI rfl) (m4_hasI ty_241_7 (by omega) (by omega)) (fun w5 Tw5 Uw5 => ?_)
      have tw5_240_7 := Uw5.at
      have tw5_240_3 := Uw5.ne (b := 240) (j := 3) (by decide)
      have tw5_240_6 := Uw5.ne (b := 240) (j := 6) (by decide)
      have tw5_240_8 := Uw5.ne (b := 240) (j := 8) (by decide)
      have tw5_240_9 := Uw5.ne (b := 240) (j := 9) (by decide)
      refine g_goto M_181 q_181_143 ?_
      exact ih w5 Tw5 c (by omega) (by omega) (fun w9 T9 k9 b1 b2 => K w9 T9 ((Uw5.kp ro_240 rfl).trans k9) (by omega) (by omega))
theorem H_go3 {sc : List Int32} {d : Nat} {P : Option Value → MjW → Prop} (hd : 1 ≤ d) (n : Nat) : ∀ w : MjW, mjTyd m4S w → ∀ c k : Int32, 0 ≤ k.toInt → (m4X w 240 7).toInt - k.toInt < (n : Int) → (∀ (w1 : MjW) (k1 : Int32), mjTyd m4S w1 → mjKp m4S [(241, 10)] w w1 → mjGo mjTb mjMt sc (d + 1) 181 (199, [some (.ref 240), some (.int c), some (.int k1)], [], w1) P) → mjGo mjTb mjMt sc (d + 1) 181 (156, [some (.ref 240), some (.int c), some (.int k)], [], w) P := by
  induction n with
  | zero =>
    intro w Tw c k a0 a1 K
    refine g_L (v := .int k) (n := 1) M_181 q_181_156 rfl ?_
    refine g_L (v := .ref 240) (n := 1) M_181 q_181_157 rfl ?_
    have bw_240_7 := (fi_240_7 Tw).2
    refine h_get M_181 q_181_158 Tw ro_240 (by decide) kd_241 (fi_240_7 Tw).1 ?_
    refine g_icmp M_181 q_181_161 mjCi_ge (fun b1 => ?_) (fun b1 => ?_)
    · exact K w _ Tw mjKp.refl
    · exfalso; omega
  | succ n ih =>
    intro w Tw c k a0 a1 K
    have k_8 := c_8
    refine g_L (v := .int k) (n := 1) M_181 q_181_156 rfl ?_
    refine g_L (v := .ref 240) (n := 1) M_181 q_181_157 rfl ?_
    have bw_240_7 := (fi_240_7 Tw).2
    refine h_get M_181 q_181_158 Tw ro_240 (by decide) kd_241 (fi_240_7 Tw).1 ?_
    refine g_icmp M_181 q_181_161 mjCi_ge (fun b1 => ?_) (fun b1 => ?_)
    · exact K w _ Tw mjKp.refl
    · refine g_L (v := .int k) (n := 1) M_181 q_181_164 rfl ?_
      refine g_L (v := .ref 240) (n := 1) M_181 q_181_165 rfl ?_
      have bw_240_6 := (fi_240_6 Tw).2
      refine h_get M_181 q_181_166 Tw ro_240 (by decide) kd_241 (fi_240_6 Tw).1 ?_
      refine g_P (v := .int (8 : Int32)) (n := 2) M_181 q_181_169 rfl ?_
      refine h_iadd M_181 q_181_171 (by omega) (by omega) (fun u2 hu2 => ?_)
      refine g_icmp M_181 q_181_172 mjCi_ge (fun b3 => ?_) (fun b3 => ?_)
      · exact K w _ Tw mjKp.refl
      · refine g_L (v := .ref 240) (n := 1) M_181 q_181_175 rfl ?_
        refine g_L (v := .ref 240) (n := 1) M_181 q_181_176 rfl ?_
        refine h_get M_181 q_181_177 Tw ro_240 (by decide) kd_241 (fl_240_10 Tw) ?_
        refine g_P (v := .int (8 : Int32)) (n := 2) M_181 q_181_180 rfl ?_
        refine h_lany M_181 q_181_182 rfl (fun z4 => ?_)
        refine g_L (v := .ref 240) (n := 1) M_181 q_181_183 rfl ?_
        refine g_L (v := .int k) (n := 1) M_181 q_181_184 rfl ?_
        refine h_run (as := [.ref 240, .int k]) (rest := [.long z4, .ref 240]) (M1 := mjM_182) (d1 := 0) (ls0 := [some (.ref 240), some (.int k)]) M_181 q_181_185 (h_cv Tw ro_240 (by decide) kd_241 (by decide) (show 1 ≤ 4 by decide) rfl (show 3 ≤ 8 by decide)) M_182 (show 2 ≤ 2 by decide) (by decide) rfl (by omega) (H_sign Tw (by omega)) (fun u5 hu5 => ?_)
        obtain ⟨hu5a, hu5b, hu5c, hu5d⟩ := hu5
        refine h_lany M_181 q_181_188 rfl (fun z6 => ?_)
        refine h_lany M_181 q_181_189 rfl (fun z7 => ?_)
        refine h_put M_181 q_181_190 Tw ro_240 (by decide) kd_241 ln_241 (by decide) (m4_fitL rfl) m4_hasL (fun w8 Tw8 Uw8 => ?_)
        have tw8_240_3 := Uw8.ne (b := 240) (j := 3) (by decide)
        have tw8_240_6 := Uw8.ne (b := 240) (j := 6) (by decide)
        have tw8_240_7 := Uw8.ne (b := 240) (j := 7) (by decide)
        have tw8_240_8 := Uw8.ne (b := 240) (j := 8) (by decide)
        have tw8_240_9 := Uw8.ne (b := 240) (j := 9) (by decide)
        refine h_inc (x := k) M_181 q_181_193 rfl rfl (by omega) (by omega) rfl (fun u9 hu9 => ?_)
        show mjGo mjTb mjMt sc _ 181 (196, [some (.ref 240), some (.int c), some (.int u9)], [], w8) _
        refine g_goto M_181 q_181_196 ?_
        exact ih w8 Tw8 c u9 (by omega) (by omega) (fun w9 k1 T9 k9 => K w9 k1 T9 ((Uw8.kp ro_240 rfl).trans k9))
theorem H_go4 {sc : List Int32} {d : Nat} {P : Option Value → MjW → Prop} (hd : 1 ≤ d) (n : Nat) : ∀ w : MjW, mjTyd m4S w → ∀ c : Int32, 0 ≤ (m4X w 240 7).toInt → (m4X w 240 3).toInt - (m4X w 240 7).toInt < (n : Int) → (((m4X w 240 7).toInt - (m4X w 240 6).toInt = 0 ∧ (m4X w 240 9).toInt = 0) ∨ ((m4X w 240 7).toInt - (m4X w 240 6).toInt = 1 ∧ (m4X w 240 9).toInt ≤ 9) ∨ ((m4X w 240 7).toInt - (m4X w 240 6).toInt = 2 ∧ (m4X w 240 9).toInt ≤ 99) ∨ ((m4X w 240 7).toInt - (m4X w 240 6).toInt = 3 ∧ (m4X w 240 9).toInt ≤ 999) ∨ (4 ≤ (m4X w 240 7).toInt - (m4X w 240 6).toInt ∧ (m4X w 240 9).toInt ≤ 9999)) → (∀ w1 : MjW, mjTyd m4S w1 → mjKp m4S [(241, 7), (241, 9)] w w1 → (m4X w 240 7).toInt ≤ (m4X w1 240 7).toInt → ((m4X w 240 7).toInt ≤ (m4X w 240 3).toInt → (m4X w1 240 7).toInt ≤ (m4X w 240 3).toInt) → ¬ (48 ≤ m4Sg w1 (m4X w1 240 7).toInt ∧ m4Sg w1 (m4X w1 240 7).toInt ≤ 57) → mjGo mjTb mjMt sc (d + 1) 181 (322, [some (.ref 240), some (.int c), none], [], w1) P) → mjGo mjTb mjMt sc (d + 1) 181 (259, [some (.ref 240), some (.int c), none], [], w) P := by
  induction n with
  | zero =>
    intro w Tw c a0 a1 a2 K
    have b3 := (fi_240_3 Tw).2
    have b6 := (fi_240_6 Tw).2
    have b9 := (fi_240_9 Tw).2
    refine g_L (v := .ref 240) (n := 1) M_181 q_181_259 rfl ?_
    refine g_L (v := .ref 240) (n := 1) M_181 q_181_260 rfl ?_
    have bw_240_7 := (fi_240_7 Tw).2
    refine h_get M_181 q_181_261 Tw ro_240 (by decide) kd_241 (fi_240_7 Tw).1 ?_
    refine h_run (as := [.ref 240, .int (m4X w 240 7)]) (rest := []) (M1 := mjM_182) (d1 := 0) (ls0 := [some (.ref 240), some (.int (m4X w 240 7))]) M_181 q_181_264 (h_cv Tw ro_240 (by decide) kd_241 (by decide) (show 1 ≤ 2 by decide) rfl (show 0 ≤ 8 by decide)) M_182 (show 2 ≤ 2 by decide) (by decide) rfl (by omega) (H_sign Tw (by omega)) (fun u1 hu1 => ?_)
    obtain ⟨hu1a, hu1b, hu1c, hu1d⟩ := hu1
    refine h_run (as := [.int u1]) (rest := []) (M1 := mjM_185) (d1 := 0) (ls0 := [some (.int u1)]) M_181 q_181_267 rfl M_185 (show 1 ≤ 1 by decide) (by decide) rfl (by omega) H_isDigit (fun u2 hu2 => ?_)
    refine g_if M_181 q_181_270 mjCz_eq (fun b3 => ?_) (fun b3 => ?_)
    · exact K w Tw mjKp.refl (by omega) (by omega) (by omega)
    · exfalso; omega
  | succ n ih =>
    intro w Tw c a0 a1 a2 K
    have k_1 := c_1
    have k_4 := c_4
    have k_10 := c_10
    have k_48 := c_48
    have b3 := (fi_240_3 Tw).2
    have b6 := (fi_240_6 Tw).2
    have b9 := (fi_240_9 Tw).2
    refine g_L (v := .ref 240) (n := 1) M_181 q_181_259 rfl ?_
    refine g_L (v := .ref 240) (n := 1) M_181 q_181_260 rfl ?_
    have bw_240_7 := (fi_240_7 Tw).2
    refine h_get M_181 q_181_261 Tw ro_240 (by decide) kd_241 (fi_240_7 Tw).1 ?_
    refine h_run (as := [.ref 240, .int (m4X w 240 7)]) (rest := []) (M1 := mjM_182) (d1 := 0) (ls0 := [some (.ref 240), some (.int (m4X w 240 7))]) M_181 q_181_264 (h_cv Tw ro_240 (by decide) kd_241 (by decide) (show 1 ≤ 2 by decide) rfl (show 0 ≤ 8 by decide)) M_182 (show 2 ≤ 2 by decide) (by decide) rfl (by omega) (H_sign Tw (by omega)) (fun u1 hu1 => ?_)
    obtain ⟨hu1a, hu1b, hu1c, hu1d⟩ := hu1
    refine h_run (as := [.int u1]) (rest := []) (M1 := mjM_185) (d1 := 0) (ls0 := [some (.int u1)]) M_181 q_181_267 rfl M_185 (show 1 ≤ 1 by decide) (by decide) rfl (by omega) H_isDigit (fun u2 hu2 => ?_)
    refine g_if M_181 q_181_270 mjCz_eq (fun b3 => ?_) (fun b3 => ?_)
    · exact K w Tw mjKp.refl (by omega) (by omega) (by omega)
    · refine g_L (v := .ref 240) (n := 1) M_181 q_181_273 rfl ?_
      have bw_240_7 := (fi_240_7 Tw).2
      refine h_get M_181 q_181_274 Tw ro_240 (by decide) kd_241 (fi_240_7 Tw).1 ?_
      refine g_L (v := .ref 240) (n := 1) M_181 q_181_277 rfl ?_
      have bw_240_6 := (fi_240_6 Tw).2
      refine h_get M_181 q_181_278 Tw ro_240 (by decide) kd_241 (fi_240_6 Tw).1 ?_
      refine h_isub M_181 q_181_281 (by omega) (by omega) (fun u4 hu4 => ?_)
      refine g_A (st1 := [.int (4 : Int32), .int u4]) M_181 q_181_282 rfl ?_
      refine g_icmp M_181 q_181_283 mjCi_ge (fun b5 => ?_) (fun b5 => ?_)
      · refine g_L (v := .ref 240) (n := 1) M_181 q_181_309 rfl ?_
        refine g_A (st1 := [.ref 240, .ref 240]) M_181 q_181_310 rfl ?_
        have bw_240_7 := (fi_240_7 Tw).2
        refine h_get M_181 q_181_311 Tw ro_240 (by decide) kd_241 (fi_240_7 Tw).1 ?_
        refine g_A (st1 := [.int (1 : Int32), .int (m4X w 240 7), .ref 240]) M_181 q_181_314 rfl ?_
        refine h_iadd M_181 q_181_315 (by omega) (by omega) (fun u6 hu6 => ?_)
        refine h_put M_181 q_181_316 Tw ro_240 (by decide) kd_241 ln_241 (by decide) (m4_fitI rfl) (m4_hasI ty_241_7 (by omega) (by omega)) (fun w7 Tw7 Uw7 => ?_)
        have tw7_240_7 := Uw7.at
        have tw7_240_3 := Uw7.ne (b := 240) (j := 3) (by decide)
        have tw7_240_6 := Uw7.ne (b := 240) (j := 6) (by decide)
        have tw7_240_8 := Uw7.ne (b := 240) (j := 8) (by decide)
        have tw7_240_9 := Uw7.ne (b := 240) (j := 9) (by decide)
        refine g_goto M_181 q_181_319 ?_
        exact ih w7 Tw7 c (by omega) (by omega) (by omega) (fun w9 T9 k9 b1 b2 b3 => K w9 T9 ((aiModsIn_ok (a := [(241, 7)]) (by decide) (Uw7.kp ro_240 rfl)).trans k9) (by omega) (by omega) b3)
      · refine g_L (v := .ref 240) (n := 1) M_181 q_181_286 rfl ?_
        refine g_P (v := .int (10 : Int32)) (n := 2) M_181 q_181_287 rfl ?_
        refine g_L (v := .ref 240) (n := 1) M_181 q_181_289 rfl ?_
        have bw_240_9 := (fi_240_9 Tw).2
        refine h_get M_181 q_181_290 Tw ro_240 (by decide) kd_241 (fi_240_9 Tw).1 ?_
        refine h_imulc (c := 10) M_181 q_181_293 c_10 (by omega) (by omega) (fun u8 hu8 => ?_)
        refine g_L (v := .ref 240) (n := 1) M_181 q_181_294 rfl ?_
        refine g_L (v := .ref 240) (n := 1) M_181 q_181_295 rfl ?_
        have bw_240_7 := (fi_240_7 Tw).2
        refine h_get M_181 q_181_296 Tw ro_240 (by decide) kd_241 (fi_240_7 Tw).1 ?_
        refine h_run (as := [.ref 240, .int (m4X w 240 7)]) (rest := [.int u8, .ref 240]) (M1 := mjM_182) (d1 := 0) (ls0 := [some (.ref 240), some (.int (m4X w 240 7))]) M_181 q_181_299 (h_cv Tw ro_240 (by decide) kd_241 (by decide) (show 1 ≤ 4 by decide) rfl (show 2 ≤ 8 by decide)) M_182 (show 2 ≤ 2 by decide) (by decide) rfl (by omega) (H_sign Tw (by omega)) (fun u9 hu9 => ?_)
        obtain ⟨hu9a, hu9b, hu9c, hu9d⟩ := hu9
        refine h_iadd M_181 q_181_302 (by omega) (by omega) (fun u10 hu10 => ?_)
        refine g_P (v := .int (48 : Int32)) (n := 2) M_181 q_181_303 rfl ?_
        refine h_isub M_181 q_181_305 (by omega) (by omega) (fun u11 hu11 => ?_)
        refine h_put M_181 q_181_306 Tw ro_240 (by decide) kd_241 ln_241 (by decide) (m4_fitI rfl) (m4_hasI ty_241_9 (by omega) (by omega)) (fun w12 Tw12 Uw12 => ?_)
        have tw12_240_9 := Uw12.at
        have tw12_240_3 := Uw12.ne (b := 240) (j := 3) (by decide)
        have tw12_240_6 := Uw12.ne (b := 240) (j := 6) (by decide)
        have tw12_240_7 := Uw12.ne (b := 240) (j := 7) (by decide)
        have tw12_240_8 := Uw12.ne (b := 240) (j := 8) (by decide)
        refine g_L (v := .ref 240) (n := 1) M_181 q_181_309 rfl ?_
        refine g_A (st1 := [.ref 240, .ref 240]) M_181 q_181_310 rfl ?_
        have bw12_240_7 := (fi_240_7 Tw12).2
        refine h_get M_181 q_181_311 Tw12 ro_240 (by decide) kd_241 (fi_240_7 Tw12).1 ?_
        refine g_A (st1 := [.int (1 : Int32), .int (m4X w12 240 7), .ref 240]) M_181 q_181_314 rfl ?_
        refine h_iadd M_181 q_181_315 (by omega) (by omega) (fun u13 hu13 => ?_)
        refine h_put M_181 q_181_316 Tw12 ro_240 (by decide) kd_241 ln_241 (by decide) (m4_fitI rfl) (m4_hasI ty_241_7 (by omega) (by omega)) (fun w14 Tw14 Uw14 => ?_)
        have tw14_240_7 := Uw14.at
        have tw14_240_3 := Uw14.ne (b := 240) (j := 3) (by decide)
        have tw14_240_6 := Uw14.ne (b := 240) (j := 6) (by decide)
        have tw14_240_8 := Uw14.ne (b := 240) (j := 8) (by decide)
        have tw14_240_9 := Uw14.ne (b := 240) (j := 9) (by decide)
        refine g_goto M_181 q_181_319 ?_
        exact ih w14 Tw14 c (by omega) (by omega) (by omega) (fun w9 T9 k9 b1 b2 b3 => K w9 T9 (((aiModsIn_ok (a := [(241, 9)]) (by decide) (Uw12.kp ro_240 rfl)).trans (aiModsIn_ok (a := [(241, 7)]) (by decide) (Uw14.kp ro_240 rfl))).trans k9) (by omega) (by omega) b3)
theorem H_go5 {sc : List Int32} {d : Nat} (hd : 1 ≤ d) {w w0 : MjW} (Tw : mjTyd m4S w) (hk : mjKp m4S [(241, 6)] w0 w) (h1 : (m4X w0 240 7).toInt ≤ (m4X w 240 6).toInt) (h2 : (m4X w 240 6).toInt ≤ (m4X w 240 3).toInt) (h3 : 0 ≤ (m4X w0 240 7).toInt) : mjGo mjTb mjMt sc (d + 1) 181 (58, [some (.ref 240), none, none], [], w) (fun r w1 => r = none ∧ mjTyd m4S w1 ∧ mjKp m4S [(241, 6), (241, 7), (241, 8), (241, 9), (241, 10)] w0 w1 ∧ (m4X w1 240 7).toInt ≤ (m4X w1 240 3).toInt ∧ (((m4X w1 240 8).toInt = 0 ∧ (m4X w0 240 7).toInt ≤ (m4X w1 240 7).toInt) ∨ (m4X w0 240 7).toInt + 1 ≤ (m4X w1 240 7).toInt)) := by
  have k_0 := c_0
  have k_1 := c_1
  have k_2 := c_2
  have k_3 := c_3
  have k_4 := c_4
  have k_5 := c_5
  have k_8 := c_8
  have b3 := (fi_240_3 Tw).2
  have b6 := (fi_240_6 Tw).2
  have b7 := (fi_240_7 Tw).2
  refine g_L (v := .ref 240) (n := 1) M_181 q_181_58 rfl ?_
  refine g_L (v := .ref 240) (n := 1) M_181 q_181_59 rfl ?_
  have bw_240_6 := (fi_240_6 Tw).2
  refine h_get M_181 q_181_60 Tw ro_240 (by decide) kd_241 (fi_240_6 Tw).1 ?_
  refine h_run (as := [.ref 240, .int (m4X w 240 6)]) (rest := []) (M1 := mjM_182) (d1 := 0) (ls0 := [some (.ref 240), some (.int (m4X w 240 6))]) M_181 q_181_63 (h_cv Tw ro_240 (by decide) kd_241 (by decide) (show 1 ≤ 2 by decide) rfl (show 0 ≤ 8 by decide)) M_182 (show 2 ≤ 2 by decide) (by decide) rfl (by omega) (H_sign Tw (by omega)) (fun u1 hu1 => ?_)
  obtain ⟨hu1a, hu1b, hu1c, hu1d⟩ := hu1
  refine g_S (ls1 := [some (.ref 240), some (.int u1), none]) (st1 := []) (n := 1) M_181 q_181_66 rfl ?_
  refine g_L (v := .ref 240) (n := 1) M_181 q_181_67 rfl ?_
  refine g_L (v := .ref 240) (n := 1) M_181 q_181_68 rfl ?_
  have bw_240_6 := (fi_240_6 Tw).2
  refine h_get M_181 q_181_69 Tw ro_240 (by decide) kd_241 (fi_240_6 Tw).1 ?_
  refine g_A (st1 := [.int (1 : Int32), .int (m4X w 240 6), .ref 240]) M_181 q_181_72 rfl ?_
  refine h_iadd M_181 q_181_73 (by omega) (by omega) (fun u2 hu2 => ?_)
  refine h_put M_181 q_181_74 Tw ro_240 (by decide) kd_241 ln_241 (by decide) (m4_fitI rfl) (m4_hasI ty_241_7 (by omega) (by omega)) (fun w3 Tw3 Uw3 => ?_)
  have tw3_240_7 := Uw3.at
  have tw3_240_3 := Uw3.ne (b := 240) (j := 3) (by decide)
  have tw3_240_6 := Uw3.ne (b := 240) (j := 6) (by decide)
  have tw3_240_8 := Uw3.ne (b := 240) (j := 8) (by decide)
  have tw3_240_9 := Uw3.ne (b := 240) (j := 9) (by decide)
  refine g_L (v := .ref 240) (n := 1) M_181 q_181_77 rfl ?_
  have bw3_240_6 := (fi_240_6 Tw3).2
  refine h_get M_181 q_181_78 Tw3 ro_240 (by decide) kd_241 (fi_240_6 Tw3).1 ?_
  refine g_L (v := .ref 240) (n := 1) M_181 q_181_81 rfl ?_
  have bw3_240_3 := (fi_240_3 Tw3).2
  refine h_get M_181 q_181_82 Tw3 ro_240 (by decide) kd_241 (fi_240_3 Tw3).1 ?_
  refine g_icmp M_181 q_181_85 mjCi_lt (fun b4 => ?_) (fun b4 => ?_)
  · refine g_L (v := .int u1) (n := 1) M_181 q_181_112 rfl ?_
    refine h_run (as := [.int u1]) (rest := []) (M1 := mjM_183) (d1 := 0) (ls0 := [some (.int u1)]) M_181 q_181_113 rfl M_183 (show 1 ≤ 1 by decide) (by decide) rfl (by omega) H_isLetter (fun u5 hu5 => ?_)
    refine g_if M_181 q_181_116 mjCz_eq (fun b6 => ?_) (fun b6 => ?_)
    · refine g_L (v := .int u1) (n := 1) M_181 q_181_239 rfl ?_
      refine h_run (as := [.int u1]) (rest := []) (M1 := mjM_185) (d1 := 0) (ls0 := [some (.int u1)]) M_181 q_181_240 rfl M_185 (show 1 ≤ 1 by decide) (by decide) rfl (by omega) H_isDigit (fun u7 hu7 => ?_)
      refine g_if M_181 q_181_243 mjCz_eq (fun b8 => ?_) (fun b8 => ?_)
      · refine g_L (v := .ref 240) (n := 1) M_181 q_181_361 rfl ?_
        refine g_L (v := .int u1) (n := 1) M_181 q_181_362 rfl ?_
        refine h_pure (lo := 0) (hi := 1) (as := [.int u1]) (rest := [.ref 240]) (M1 := mjM_186) M_181 q_181_363 rfl rfl (show 1 ≤ 1 by decide) (by decide) (show 1 ≤ d by omega) (mjC_z_1 m4_true mjHz_true) Tw3 ⟨⟨_, rfl, mjB.all _⟩, trivial⟩ rfl rfl rfl (fun u9 hu9 hu9a => ?_)
        refine g_if M_181 q_181_366 mjCz_eq (fun b10 => ?_) (fun b10 => ?_)
        · refine g_A (st1 := [.int (1 : Int32), .ref 240]) M_181 q_181_373 rfl ?_
          refine h_put M_181 q_181_374 Tw3 ro_240 (by decide) kd_241 ln_241 (by decide) (m4_fitI rfl) (m4_hasI ty_241_8 (by omega) (by omega)) (fun w11 Tw11 Uw11 => ?_)
          have tw11_240_8 := Uw11.at
          have tw11_240_3 := Uw11.ne (b := 240) (j := 3) (by decide)
          have tw11_240_6 := Uw11.ne (b := 240) (j := 6) (by decide)
          have tw11_240_7 := Uw11.ne (b := 240) (j := 7) (by decide)
          have tw11_240_9 := Uw11.ne (b := 240) (j := 9) (by decide)
          refine g_ret (v := none) M_181 q_181_377 rfl ?_
          exact ⟨rfl, Tw11, (aiModsIn_ok (by decide) hk).trans ((aiModsIn_ok (a := [(241, 7)]) (by decide) (Uw3.kp ro_240 rfl)).trans (aiModsIn_ok (a := [(241, 8)]) (by decide) (Uw11.kp ro_240 rfl))), by omega, by omega⟩
        · refine g_A (st1 := [.int (5 : Int32), .ref 240]) M_181 q_181_369 rfl ?_
          refine g_goto M_181 q_181_370 ?_
          refine h_put M_181 q_181_374 Tw3 ro_240 (by decide) kd_241 ln_241 (by decide) (m4_fitI rfl) (m4_hasI ty_241_8 (by omega) (by omega)) (fun w12 Tw12 Uw12 => ?_)
          have tw12_240_8 := Uw12.at
          have tw12_240_3 := Uw12.ne (b := 240) (j := 3) (by decide)
          have tw12_240_6 := Uw12.ne (b := 240) (j := 6) (by decide)
          have tw12_240_7 := Uw12.ne (b := 240) (j := 7) (by decide)
          have tw12_240_9 := Uw12.ne (b := 240) (j := 9) (by decide)
          refine g_ret (v := none) M_181 q_181_377 rfl ?_
          exact ⟨rfl, Tw12, (aiModsIn_ok (by decide) hk).trans ((aiModsIn_ok (a := [(241, 7)]) (by decide) (Uw3.kp ro_240 rfl)).trans (aiModsIn_ok (a := [(241, 8)]) (by decide) (Uw12.kp ro_240 rfl))), by omega, by omega⟩
      · refine g_L (v := .ref 240) (n := 1) M_181 q_181_246 rfl ?_
        refine g_A (st1 := [.int (0 : Int32), .ref 240]) M_181 q_181_247 rfl ?_
        refine h_put M_181 q_181_248 Tw3 ro_240 (by decide) kd_241 ln_241 (by decide) (m4_fitI rfl) (m4_hasI ty_241_9 (by omega) (by omega)) (fun w13 Tw13 Uw13 => ?_)
        have tw13_240_9 := Uw13.at
        have tw13_240_3 := Uw13.ne (b := 240) (j := 3) (by decide)
        have tw13_240_6 := Uw13.ne (b := 240) (j := 6) (by decide)
        have tw13_240_7 := Uw13.ne (b := 240) (j := 7) (by decide)
        have tw13_240_8 := Uw13.ne (b := 240) (j := 8) (by decide)
        refine g_L (v := .ref 240) (n := 1) M_181 q_181_251 rfl ?_
        refine g_L (v := .ref 240) (n := 1) M_181 q_181_252 rfl ?_
        have bw13_240_6 := (fi_240_6 Tw13).2
        refine h_get M_181 q_181_253 Tw13 ro_240 (by decide) kd_241 (fi_240_6 Tw13).1 ?_
        refine h_put M_181 q_181_256 Tw13 ro_240 (by decide) kd_241 ln_241 (by decide) (m4_fitI rfl) (m4_hasI ty_241_7 (by omega) (by omega)) (fun w14 Tw14 Uw14 => ?_)
        have tw14_240_7 := Uw14.at
        have tw14_240_3 := Uw14.ne (b := 240) (j := 3) (by decide)
        have tw14_240_6 := Uw14.ne (b := 240) (j := 6) (by decide)
        have tw14_240_8 := Uw14.ne (b := 240) (j := 8) (by decide)
        have tw14_240_9 := Uw14.ne (b := 240) (j := 9) (by decide)
        have c3 := (fi_240_3 Tw14).2
        refine H_go4 hd 1602 w14 Tw14 _ (by omega) (by omega) (by omega) (fun w15 Tw15 kw15 g1 g2 g3 => ?_)
        have tw15_240_3 := congrArg Int32.toInt (kw15.X (a := 240) (k := 3) ro_240 rfl)
        have tw15_240_6 := congrArg Int32.toInt (kw15.X (a := 240) (k := 6) ro_240 rfl)
        have tw15_240_8 := congrArg Int32.toInt (kw15.X (a := 240) (k := 8) ro_240 rfl)
        have kq : mjKp m4S [(241, 6), (241, 7), (241, 8), (241, 9), (241, 10)] w w15 := ((((aiModsIn_ok (a := [(241, 7)]) (by decide) (Uw3.kp ro_240 rfl)).trans (aiModsIn_ok (a := [(241, 9)]) (by decide) (Uw13.kp ro_240 rfl))).trans (aiModsIn_ok (a := [(241, 7)]) (by decide) (Uw14.kp ro_240 rfl)))).trans (aiModsIn_ok (by decide) kw15)
        have sg := m4Sg_eq (kq.X (a := 240) (k := 3) ro_240 rfl) (fun j => kq.X ro_242 rfl)
        have ne : (m4X w15 240 7).toInt ≠ (m4X w 240 6).toInt := fun e => g3 (by rw [e, sg]; omega)
        refine g_L (v := .ref 240) (n := 1) M_181 q_181_322 rfl ?_
        refine g_L (v := .ref 240) (n := 1) M_181 q_181_323 rfl ?_
        have bw15_240_7 := (fi_240_7 Tw15).2
        refine h_get M_181 q_181_324 Tw15 ro_240 (by decide) kd_241 (fi_240_7 Tw15).1 ?_
        refine g_L (v := .ref 240) (n := 1) M_181 q_181_327 rfl ?_
        have bw15_240_6 := (fi_240_6 Tw15).2
        refine h_get M_181 q_181_328 Tw15 ro_240 (by decide) kd_241 (fi_240_6 Tw15).1 ?_
        refine h_isub M_181 q_181_331 (by omega) (by omega) (fun u16 hu16 => ?_)
        refine g_A (st1 := [.int (4 : Int32), .int u16, .ref 240]) M_181 q_181_332 rfl ?_
        refine g_icmp M_181 q_181_333 mjCi_gt (fun b17 => ?_) (fun b17 => ?_)
        · refine g_A (st1 := [.int (1 : Int32), .ref 240]) M_181 q_181_350 rfl ?_
          refine g_goto M_181 q_181_351 ?_
          refine h_put M_181 q_181_355 Tw15 ro_240 (by decide) kd_241 ln_241 (by decide) (m4_fitI rfl) (m4_hasI ty_241_8 (by omega) (by omega)) (fun w18 Tw18 Uw18 => ?_)
          have tw18_240_8 := Uw18.at
          have tw18_240_3 := Uw18.ne (b := 240) (j := 3) (by decide)
          have tw18_240_6 := Uw18.ne (b := 240) (j := 6) (by decide)
          have tw18_240_7 := Uw18.ne (b := 240) (j := 7) (by decide)
          have tw18_240_9 := Uw18.ne (b := 240) (j := 9) (by decide)
          refine g_goto M_181 q_181_358 ?_
          refine g_ret (v := none) M_181 q_181_377 rfl ?_
          exact ⟨rfl, Tw18, (aiModsIn_ok (by decide) hk).trans (((((aiModsIn_ok (a := [(241, 7)]) (by decide) (Uw3.kp ro_240 rfl)).trans (aiModsIn_ok (a := [(241, 9)]) (by decide) (Uw13.kp ro_240 rfl))).trans (aiModsIn_ok (a := [(241, 7)]) (by decide) (Uw14.kp ro_240 rfl))).trans (aiModsIn_ok (by decide) kw15)).trans (aiModsIn_ok (a := [(241, 8)]) (by decide) (Uw18.kp ro_240 rfl))), by omega, by omega⟩
        · refine g_L (v := .ref 240) (n := 1) M_181 q_181_336 rfl ?_
          refine g_L (v := .ref 240) (n := 1) M_181 q_181_337 rfl ?_
          have bw15_240_7 := (fi_240_7 Tw15).2
          refine h_get M_181 q_181_338 Tw15 ro_240 (by decide) kd_241 (fi_240_7 Tw15).1 ?_
          refine h_run (as := [.ref 240, .int (m4X w15 240 7)]) (rest := [.ref 240]) (M1 := mjM_182) (d1 := 0) (ls0 := [some (.ref 240), some (.int (m4X w15 240 7))]) M_181 q_181_341 (h_cv Tw15 ro_240 (by decide) kd_241 (by decide) (show 1 ≤ 3 by decide) rfl (show 1 ≤ 8 by decide)) M_182 (show 2 ≤ 2 by decide) (by decide) rfl (by omega) (H_sign Tw15 (by omega)) (fun u19 hu19 => ?_)
          obtain ⟨hu19a, hu19b, hu19c, hu19d⟩ := hu19
          refine h_run (as := [.int u19]) (rest := [.ref 240]) (M1 := mjM_183) (d1 := 0) (ls0 := [some (.int u19)]) M_181 q_181_344 rfl M_183 (show 1 ≤ 1 by decide) (by decide) rfl (by omega) H_isLetter (fun u20 hu20 => ?_)
          refine g_if M_181 q_181_347 mjCz_eq (fun b21 => ?_) (fun b21 => ?_)
          · refine g_A (st1 := [.int (4 : Int32), .ref 240]) M_181 q_181_354 rfl ?_
            refine h_put M_181 q_181_355 Tw15 ro_240 (by decide) kd_241 ln_241 (by decide) (m4_fitI rfl) (m4_hasI ty_241_8 (by omega) (by omega)) (fun w22 Tw22 Uw22 => ?_)
            have tw22_240_8 := Uw22.at
            have tw22_240_3 := Uw22.ne (b := 240) (j := 3) (by decide)
            have tw22_240_6 := Uw22.ne (b := 240) (j := 6) (by decide)
            have tw22_240_7 := Uw22.ne (b := 240) (j := 7) (by decide)
            have tw22_240_9 := Uw22.ne (b := 240) (j := 9) (by decide)
            refine g_goto M_181 q_181_358 ?_
            refine g_ret (v := none) M_181 q_181_377 rfl ?_
            exact ⟨rfl, Tw22, (aiModsIn_ok (by decide) hk).trans (((((aiModsIn_ok (a := [(241, 7)]) (by decide) (Uw3.kp ro_240 rfl)).trans (aiModsIn_ok (a := [(241, 9)]) (by decide) (Uw13.kp ro_240 rfl))).trans (aiModsIn_ok (a := [(241, 7)]) (by decide) (Uw14.kp ro_240 rfl))).trans (aiModsIn_ok (by decide) kw15)).trans (aiModsIn_ok (a := [(241, 8)]) (by decide) (Uw22.kp ro_240 rfl))), by omega, by omega⟩
          · refine g_A (st1 := [.int (1 : Int32), .ref 240]) M_181 q_181_350 rfl ?_
            refine g_goto M_181 q_181_351 ?_
            refine h_put M_181 q_181_355 Tw15 ro_240 (by decide) kd_241 ln_241 (by decide) (m4_fitI rfl) (m4_hasI ty_241_8 (by omega) (by omega)) (fun w23 Tw23 Uw23 => ?_)
            have tw23_240_8 := Uw23.at
            have tw23_240_3 := Uw23.ne (b := 240) (j := 3) (by decide)
            have tw23_240_6 := Uw23.ne (b := 240) (j := 6) (by decide)
            have tw23_240_7 := Uw23.ne (b := 240) (j := 7) (by decide)
            have tw23_240_9 := Uw23.ne (b := 240) (j := 9) (by decide)
            refine g_goto M_181 q_181_358 ?_
            refine g_ret (v := none) M_181 q_181_377 rfl ?_
            exact ⟨rfl, Tw23, (aiModsIn_ok (by decide) hk).trans (((((aiModsIn_ok (a := [(241, 7)]) (by decide) (Uw3.kp ro_240 rfl)).trans (aiModsIn_ok (a := [(241, 9)]) (by decide) (Uw13.kp ro_240 rfl))).trans (aiModsIn_ok (a := [(241, 7)]) (by decide) (Uw14.kp ro_240 rfl))).trans (aiModsIn_ok (by decide) kw15)).trans (aiModsIn_ok (a := [(241, 8)]) (by decide) (Uw23.kp ro_240 rfl))), by omega, by omega⟩
    · have c3 := (fi_240_3 Tw3).2
      refine H_go2 hd 1602 w3 Tw3 _ (by omega) (by omega) (fun w24 Tw24 kw24 g1 g2 => ?_)
      have tw24_240_3 := congrArg Int32.toInt (kw24.X (a := 240) (k := 3) ro_240 rfl)
      have tw24_240_6 := congrArg Int32.toInt (kw24.X (a := 240) (k := 6) ro_240 rfl)
      have tw24_240_8 := congrArg Int32.toInt (kw24.X (a := 240) (k := 8) ro_240 rfl)
      have tw24_240_9 := congrArg Int32.toInt (kw24.X (a := 240) (k := 9) ro_240 rfl)
      refine g_L (v := .ref 240) (n := 1) M_181 q_181_146 rfl ?_
      refine h_lany M_181 q_181_147 rfl (fun z25 => ?_)
      refine h_put M_181 q_181_148 Tw24 ro_240 (by decide) kd_241 ln_241 (by decide) (m4_fitL rfl) m4_hasL (fun w26 Tw26 Uw26 => ?_)
      have tw26_240_3 := Uw26.ne (b := 240) (j := 3) (by decide)
      have tw26_240_6 := Uw26.ne (b := 240) (j := 6) (by decide)
      have tw26_240_7 := Uw26.ne (b := 240) (j := 7) (by decide)
      have tw26_240_8 := Uw26.ne (b := 240) (j := 8) (by decide)
      have tw26_240_9 := Uw26.ne (b := 240) (j := 9) (by decide)
      refine g_L (v := .ref 240) (n := 1) M_181 q_181_151 rfl ?_
      have bw26_240_6 := (fi_240_6 Tw26).2
      refine h_get M_181 q_181_152 Tw26 ro_240 (by decide) kd_241 (fi_240_6 Tw26).1 ?_
      refine g_S (ls1 := [some (.ref 240), some (.int u1), some (.int (m4X w26 240 6))]) (st1 := []) (n := 1) M_181 q_181_155 rfl ?_
      have c7 := (fi_240_7 Tw26).2
      refine H_go3 hd 1602 w26 Tw26 _ _ (by omega) (by omega) (fun w27 k1 Tw27 kw27 => ?_)
      have tw27_240_3 := congrArg Int32.toInt (kw27.X (a := 240) (k := 3) ro_240 rfl)
      have tw27_240_6 := congrArg Int32.toInt (kw27.X (a := 240) (k := 6) ro_240 rfl)
      have tw27_240_7 := congrArg Int32.toInt (kw27.X (a := 240) (k := 7) ro_240 rfl)
      have tw27_240_8 := congrArg Int32.toInt (kw27.X (a := 240) (k := 8) ro_240 rfl)
      have tw27_240_9 := congrArg Int32.toInt (kw27.X (a := 240) (k := 9) ro_240 rfl)
      refine g_L (v := .ref 240) (n := 1) M_181 q_181_199 rfl ?_
      refine g_L (v := .ref 240) (n := 1) M_181 q_181_200 rfl ?_
      have bw27_240_7 := (fi_240_7 Tw27).2
      refine h_get M_181 q_181_201 Tw27 ro_240 (by decide) kd_241 (fi_240_7 Tw27).1 ?_
      refine g_L (v := .ref 240) (n := 1) M_181 q_181_204 rfl ?_
      have bw27_240_6 := (fi_240_6 Tw27).2
      refine h_get M_181 q_181_205 Tw27 ro_240 (by decide) kd_241 (fi_240_6 Tw27).1 ?_
      refine h_isub M_181 q_181_208 (by omega) (by omega) (fun u28 hu28 => ?_)
      refine g_P (v := .int (8 : Int32)) (n := 2) M_181 q_181_209 rfl ?_
      refine g_icmp M_181 q_181_211 mjCi_le (fun b29 => ?_) (fun b29 => ?_)
      · refine g_L (v := .ref 240) (n := 1) M_181 q_181_218 rfl ?_
        refine h_get M_181 q_181_219 Tw27 ro_240 (by decide) kd_241 (fl_240_10 Tw27) ?_
        refine h_pure (lo := 0) (hi := 1) (as := [.long (m4L w27 240 10)]) (rest := [.ref 240]) (M1 := mjM_184) M_181 q_181_222 rfl rfl (show 2 ≤ 3 by decide) (by decide) (show 1 ≤ d by omega) (mjC_z_0 m4_true mjHz_true) Tw27 ⟨⟨_, rfl⟩, trivial⟩ rfl rfl rfl (fun u30 hu30 hu30a => ?_)
        refine g_if M_181 q_181_225 mjCz_eq (fun b31 => ?_) (fun b31 => ?_)
        · refine g_A (st1 := [.int (2 : Int32), .ref 240]) M_181 q_181_232 rfl ?_
          refine h_put M_181 q_181_233 Tw27 ro_240 (by decide) kd_241 ln_241 (by decide) (m4_fitI rfl) (m4_hasI ty_241_8 (by omega) (by omega)) (fun w32 Tw32 Uw32 => ?_)
          have tw32_240_8 := Uw32.at
          have tw32_240_3 := Uw32.ne (b := 240) (j := 3) (by decide)
          have tw32_240_6 := Uw32.ne (b := 240) (j := 6) (by decide)
          have tw32_240_7 := Uw32.ne (b := 240) (j := 7) (by decide)
          have tw32_240_9 := Uw32.ne (b := 240) (j := 9) (by decide)
          refine g_goto M_181 q_181_236 ?_
          refine g_ret (v := none) M_181 q_181_377 rfl ?_
          exact ⟨rfl, Tw32, (aiModsIn_ok (by decide) hk).trans (((((aiModsIn_ok (a := [(241, 7)]) (by decide) (Uw3.kp ro_240 rfl)).trans (aiModsIn_ok (by decide) kw24)).trans (aiModsIn_ok (a := [(241, 10)]) (by decide) (Uw26.kp ro_240 rfl))).trans (aiModsIn_ok (by decide) kw27)).trans (aiModsIn_ok (a := [(241, 8)]) (by decide) (Uw32.kp ro_240 rfl))), by omega, by omega⟩
        · refine g_A (st1 := [.int (3 : Int32), .ref 240]) M_181 q_181_228 rfl ?_
          refine g_goto M_181 q_181_229 ?_
          refine h_put M_181 q_181_233 Tw27 ro_240 (by decide) kd_241 ln_241 (by decide) (m4_fitI rfl) (m4_hasI ty_241_8 (by omega) (by omega)) (fun w33 Tw33 Uw33 => ?_)
          have tw33_240_8 := Uw33.at
          have tw33_240_3 := Uw33.ne (b := 240) (j := 3) (by decide)
          have tw33_240_6 := Uw33.ne (b := 240) (j := 6) (by decide)
          have tw33_240_7 := Uw33.ne (b := 240) (j := 7) (by decide)
          have tw33_240_9 := Uw33.ne (b := 240) (j := 9) (by decide)
          refine g_goto M_181 q_181_236 ?_
          refine g_ret (v := none) M_181 q_181_377 rfl ?_
          exact ⟨rfl, Tw33, (aiModsIn_ok (by decide) hk).trans (((((aiModsIn_ok (a := [(241, 7)]) (by decide) (Uw3.kp ro_240 rfl)).trans (aiModsIn_ok (by decide) kw24)).trans (aiModsIn_ok (a := [(241, 10)]) (by decide) (Uw26.kp ro_240 rfl))).trans (aiModsIn_ok (by decide) kw27)).trans (aiModsIn_ok (a := [(241, 8)]) (by decide) (Uw33.kp ro_240 rfl))), by omega, by omega⟩
      · refine g_A (st1 := [.int (1 : Int32), .ref 240]) M_181 q_181_214 rfl ?_
        refine g_goto M_181 q_181_215 ?_
        refine h_put M_181 q_181_233 Tw27 ro_240 (by decide) kd_241 ln_241 (by decide) (m4_fitI rfl) (m4_hasI ty_241_8 (by omega) (by omega)) (fun w34 Tw34 Uw34 => ?_)
        have tw34_240_8 := Uw34.at
        have tw34_240_3 := Uw34.ne (b := 240) (j := 3) (by decide)
        have tw34_240_6 := Uw34.ne (b := 240) (j := 6) (by decide)
        have tw34_240_7 := Uw34.ne (b := 240) (j := 7) (by decide)
        have tw34_240_9 := Uw34.ne (b := 240) (j := 9) (by decide)
        refine g_goto M_181 q_181_236 ?_
        refine g_ret (v := none) M_181 q_181_377 rfl ?_
        exact ⟨rfl, Tw34, (aiModsIn_ok (by decide) hk).trans (((((aiModsIn_ok (a := [(241, 7)]) (by decide) (Uw3.kp ro_240 rfl)).trans (aiModsIn_ok (by decide) kw24)).trans (aiModsIn_ok (a := [(241, 10)]) (by decide) (Uw26.kp ro_240 rfl))).trans (aiModsIn_ok (by decide) kw27)).trans (aiModsIn_ok (a := [(241, 8)]) (by decide) (Uw34.kp ro_240 rfl))), by omega, by omega⟩
  · refine g_L (v := .ref 240) (n := 1) M_181 q_181_88 rfl ?_
    refine g_A (st1 := [.int (0 : Int32), .ref 240]) M_181 q_181_89 rfl ?_
    refine h_put M_181 q_181_90 Tw3 ro_240 (by decide) kd_241 ln_241 (by decide) (m4_fitI rfl) (m4_hasI ty_241_8 (by omega) (by omega)) (fun w35 Tw35 Uw35 => ?_)
    have tw35_240_8 := Uw35.at
    have tw35_240_3 := Uw35.ne (b := 240) (j := 3) (by decide)
    have tw35_240_6 := Uw35.ne (b := 240) (j := 6) (by decide)
    have tw35_240_7 := Uw35.ne (b := 240) (j := 7) (by decide)
    have tw35_240_9 := Uw35.ne (b := 240) (j := 9) (by decide)
    refine g_L (v := .ref 240) (n := 1) M_181 q_181_93 rfl ?_
    refine g_L (v := .ref 240) (n := 1) M_181 q_181_94 rfl ?_
    have bw35_240_3 := (fi_240_3 Tw35).2
    refine h_get M_181 q_181_95 Tw35 ro_240 (by decide) kd_241 (fi_240_3 Tw35).1 ?_
    refine h_put M_181 q_181_98 Tw35 ro_240 (by decide) kd_241 ln_241 (by decide) (m4_fitI rfl) (m4_hasI ty_241_6 (by omega) (by omega)) (fun w36 Tw36 Uw36 => ?_)
    have tw36_240_6 := Uw36.at
    have tw36_240_3 := Uw36.ne (b := 240) (j := 3) (by decide)
    have tw36_240_7 := Uw36.ne (b := 240) (j := 7) (by decide)
    have tw36_240_8 := Uw36.ne (b := 240) (j := 8) (by decide)
    have tw36_240_9 := Uw36.ne (b := 240) (j := 9) (by decide)
    refine g_L (v := .ref 240) (n := 1) M_181 q_181_101 rfl ?_
    refine g_L (v := .ref 240) (n := 1) M_181 q_181_102 rfl ?_
    have bw36_240_3 := (fi_240_3 Tw36).2
    refine h_get M_181 q_181_103 Tw36 ro_240 (by decide) kd_241 (fi_240_3 Tw36).1 ?_
    refine h_put M_181 q_181_106 Tw36 ro_240 (by decide) kd_241 ln_241 (by decide) (m4_fitI rfl) (m4_hasI ty_241_7 (by omega) (by omega)) (fun w37 Tw37 Uw37 => ?_)
    have tw37_240_7 := Uw37.at
    have tw37_240_3 := Uw37.ne (b := 240) (j := 3) (by decide)
    have tw37_240_6 := Uw37.ne (b := 240) (j := 6) (by decide)
    have tw37_240_8 := Uw37.ne (b := 240) (j := 8) (by decide)
    have tw37_240_9 := Uw37.ne (b := 240) (j := 9) (by decide)
    refine g_goto M_181 q_181_109 ?_
    refine g_ret (v := none) M_181 q_181_377 rfl ?_
    exact ⟨rfl, Tw37, (aiModsIn_ok (by decide) hk).trans ((((aiModsIn_ok (a := [(241, 7)]) (by decide) (Uw3.kp ro_240 rfl)).trans (aiModsIn_ok (a := [(241, 8)]) (by decide) (Uw35.kp ro_240 rfl))).trans (aiModsIn_ok (a := [(241, 6)]) (by decide) (Uw36.kp ro_240 rfl))).trans (aiModsIn_ok (a := [(241, 7)]) (by decide) (Uw37.kp ro_240 rfl))), by omega, by omega⟩
theorem H_goOn {sc : List Int32} {d : Nat} (hd : 1 ≤ d) {w : MjW} (Tw : mjTyd m4S w) (he : (m4X w 240 7).toInt ≤ (m4X w 240 3).toInt) : mjGo mjTb mjMt sc (d + 1) 181 (0, [some (.ref 240), none, none], [], w) (fun r w1 => r = none ∧ mjTyd m4S w1 ∧ mjKp m4S [(241, 6), (241, 7), (241, 8), (241, 9), (241, 10)] w w1 ∧ (m4X w1 240 7).toInt ≤ (m4X w1 240 3).toInt ∧ (((m4X w1 240 8).toInt = 0 ∧ (m4X w 240 7).toInt ≤ (m4X w1 240 7).toInt) ∨ (m4X w 240 7).toInt + 1 ≤ (m4X w1 240 7).toInt)) := by
  have b3w := (fi_240_3 Tw).2
  refine g_L (v := .ref 240) (n := 1) M_181 q_181_0 rfl ?_
  refine g_L (v := .ref 240) (n := 1) M_181 q_181_1 rfl ?_
  have bw_240_7 := (fi_240_7 Tw).2
  refine h_get M_181 q_181_2 Tw ro_240 (by decide) kd_241 (fi_240_7 Tw).1 ?_
  refine h_put M_181 q_181_5 Tw ro_240 (by decide) kd_241 ln_241 (by decide) (m4_fitI rfl) (m4_hasI ty_241_6 (by omega) (by omega)) (fun w1 Tw1 Uw1 => ?_)
  have tw1_240_6 := Uw1.at
  have tw1_240_3 := Uw1.ne (b := 240) (j := 3) (by decide)
  have tw1_240_7 := Uw1.ne (b := 240) (j := 7) (by decide)
  have tw1_240_8 := Uw1.ne (b := 240) (j := 8) (by decide)
  have tw1_240_9 := Uw1.ne (b := 240) (j := 9) (by decide)
  have b3 := (fi_240_3 Tw1).2
  have b6 := (fi_240_6 Tw1).2
  refine H_go1 hd 1602 w1 Tw1 (by omega) (by omega) (fun w9 T9 k9 g1 g2 => ?_)
  have k6 : mjKp m4S [(241, 6)] w w9 := (Uw1.kp ro_240 rfl).trans k9
  have e7 := congrArg Int32.toInt (k6.X (a := 240) (k := 7) ro_240 rfl)
  have e3 := congrArg Int32.toInt (k6.X (a := 240) (k := 3) ro_240 rfl)
  have f3 := congrArg Int32.toInt (k9.X (a := 240) (k := 3) ro_240 rfl)
  exact H_go5 hd T9 k6 (by omega) (by omega) (by omega)
