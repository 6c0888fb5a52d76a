/-! ===== the lines of a text, by hand ===== -/
theorem H_bit2 {sc : List Int32} {w : MjW} {x : Int32} (h0 : 0 ≤ x.toInt) (h1 : x.toInt ≤ 63) : mjGo mjTb mjMt sc 0 191 (0, [some (.int x), some (.int (2 : Int32))], [], w) (fun r w1 => w1 = w ∧ ∃ u : Int32, r = some (.int u) ∧ ((u.toInt = 1 ∧ x.toInt / 4 % 2 = 1) ∨ (u.toInt = 0 ∧ x.toInt / 4 % 2 = 0))) := by
  have e0 := m4_b2 h0 h1
  have k_0 := c_0
  have k_1 := c_1
  have k_2 := c_2
  refine g_L (v := .int x) (n := 1) M_191 q_191_0 rfl ?_
  refine g_L (v := .int (2 : Int32)) (n := 1) M_191 q_191_1 rfl ?_
  refine h_ishr M_191 q_191_2 (fun u1 hu1 => ?_)
  refine g_A (st1 := [.int (1 : Int32), .int u1]) M_191 q_191_3 rfl ?_
  refine h_iand M_191 q_191_4 (by omega) (fun u2 hu2 hu2a hu2b => ?_)
  refine g_A (st1 := [.int (1 : Int32), .int u2]) M_191 q_191_5 rfl ?_
  refine g_icmp M_191 q_191_6 mjCi_ne (fun b3 => ?_) (fun b3 => ?_)
  · refine g_A (st1 := [.int (0 : Int32)]) M_191 q_191_13 rfl ?_
    refine g_ret (v := some (.int (0 : Int32))) M_191 q_191_14 (h_rtZ) ?_
    rw [← hu1, ← hu2] at e0
    exact ⟨rfl, _, rfl, by omega⟩
  · refine g_A (st1 := [.int (1 : Int32)]) M_191 q_191_9 rfl ?_
    refine g_goto M_191 q_191_10 ?_
    refine g_ret (v := some (.int (1 : Int32))) M_191 q_191_14 (h_rtZ) ?_
    rw [← hu1, ← hu2] at e0
    exact ⟨rfl, _, rfl, by omega⟩
theorem H_isFull {sc : List Int32} {w : MjW} (Tw : mjTyd m4S w) : mjGo mjTb mjMt sc (1 + 1) 189 (0, [some (.ref 240)], [], w) (fun r w1 => w1 = w ∧ ∃ u : Int32, r = some (.int u) ∧ (0 ≤ u.toInt ∧ u.toInt ≤ 1 ∧ (u.toInt = 0 → (m4L w 240 10 = 1919905645 → (m4X w 245 (m4X w 240 43).toInt.toNat).toInt ≠ 5) ∧ (m4L w 240 10 = 444351214452 → (m4X w 246 (m4X w 240 43).toInt.toNat).toInt ≠ 6) ∧ (m4L w 240 10 = 1953067123 → (m4X w 251 (m4X w 240 43).toInt.toNat).toInt / 4 % 2 = 0)))) := by
  have k_0 := c_0
  have k_1 := c_1
  have k_2 := c_2
  have k_3 := c_3
  have k_4 := c_4
  have k_5 := c_5
  have k_6 := c_6
  refine g_L (v := .ref 240) (n := 1) M_189 q_189_0 rfl ?_
  refine g_P (v := .long (465491092851 : Int64)) (n := 3) M_189 q_189_1 rfl ?_
  refine h_run (as := [.ref 240, .long (465491092851 : Int64)]) (rest := []) (M1 := mjM_190) (d1 := 0) (ls0 := [some (.ref 240), some (.long (465491092851 : Int64)), none]) M_189 q_189_4 (h_cv Tw ro_240 (by decide) kd_241 (by decide) (show 1 ≤ 2 by decide) rfl (show 0 ≤ 8 by decide)) M_190 (show 3 ≤ 3 by decide) (by decide) rfl (by omega) (H_isWord Tw) (fun u1 hu1 => ?_)
  refine g_if M_189 q_189_7 mjCz_eq (fun b2 => ?_) (fun b2 => ?_)
  · refine g_L (v := .ref 240) (n := 1) M_189 q_189_39 rfl ?_
    refine g_P (v := .long (1919907699 : Int64)) (n := 3) M_189 q_189_40 rfl ?_
    refine h_run (as := [.ref 240, .long (1919907699 : Int64)]) (rest := []) (M1 := mjM_190) (d1 := 0) (ls0 := [some (.ref 240), some (.long (1919907699 : Int64)), none]) M_189 q_189_43 (h_cv Tw ro_240 (by decide) kd_241 (by decide) (show 1 ≤ 2 by decide) rfl (show 0 ≤ 8 by decide)) M_190 (show 3 ≤ 3 by decide) (by decide) rfl (by omega) (H_isWord Tw) (fun u3 hu3 => ?_)
    refine g_if M_189 q_189_46 mjCz_eq (fun b4 => ?_) (fun b4 => ?_)
    · refine g_L (v := .ref 240) (n := 1) M_189 q_189_78 rfl ?_
      refine g_P (v := .long (495740481637 : Int64)) (n := 3) M_189 q_189_79 rfl ?_
      refine h_run (as := [.ref 240, .long (495740481637 : Int64)]) (rest := []) (M1 := mjM_190) (d1 := 0) (ls0 := [some (.ref 240), some (.long (495740481637 : Int64)), none]) M_189 q_189_82 (h_cv Tw ro_240 (by decide) kd_241 (by decide) (show 1 ≤ 2 by decide) rfl (show 0 ≤ 8 by decide)) M_190 (show 3 ≤ 3 by decide) (by decide) rfl (by omega) (H_isWord Tw) (fun u5 hu5 => ?_)
      refine g_if M_189 q_189_85 mjCz_ne (fun b6 => ?_) (fun b6 => ?_)
      · have nm : m4L w 240 10 = 495740481637 := by
          rcases hu5 with q | q
          · exact q.2.2
          · exfalso; omega
        clear hu1 hu3 hu5
        refine g_A (st1 := [.int (0 : Int32)]) M_189 q_189_108 rfl ?_
        refine g_ret (v := some (.int (0 : Int32))) M_189 q_189_109 (h_rtZ) ?_
        refine ⟨rfl, _, rfl, by omega, by omega, fun hz => ?_⟩
        exact ⟨(fun e => absurd (nm.symm.trans e) (by decide +kernel)), (fun e => absurd (nm.symm.trans e) (by decide +kernel)), (fun e => absurd (nm.symm.trans e) (by decide +kernel))⟩
      · refine g_L (v := .ref 240) (n := 1) M_189 q_189_88 rfl ?_
        refine g_P (v := .long (1818846579 : Int64)) (n := 3) M_189 q_189_89 rfl ?_
        refine h_run (as := [.ref 240, .long (1818846579 : Int64)]) (rest := []) (M1 := mjM_190) (d1 := 0) (ls0 := [some (.ref 240), some (.long (1818846579 : Int64)), none]) M_189 q_189_92 (h_cv Tw ro_240 (by decide) kd_241 (by decide) (show 1 ≤ 2 by decide) rfl (show 0 ≤ 8 by decide)) M_190 (show 3 ≤ 3 by decide) (by decide) rfl (by omega) (H_isWord Tw) (fun u7 hu7 => ?_)
        refine g_if M_189 q_189_95 mjCz_ne (fun b8 => ?_) (fun b8 => ?_)
        · have nm : m4L w 240 10 = 1818846579 := by
            rcases hu7 with q | q
            · exact q.2.2
            · exfalso; omega
          clear hu1 hu3 hu5 hu7
          refine g_A (st1 := [.int (0 : Int32)]) M_189 q_189_108 rfl ?_
          refine g_ret (v := some (.int (0 : Int32))) M_189 q_189_109 (h_rtZ) ?_
          refine ⟨rfl, _, rfl, by omega, by omega, fun hz => ?_⟩
          exact ⟨(fun e => absurd (nm.symm.trans e) (by decide +kernel)), (fun e => absurd (nm.symm.trans e) (by decide +kernel)), (fun e => absurd (nm.symm.trans e) (by decide +kernel))⟩
        · refine g_L (v := .ref 240) (n := 1) M_189 q_189_98 rfl ?_
          refine g_P (v := .long (2002873452 : Int64)) (n := 3) M_189 q_189_99 rfl ?_
          refine h_run (as := [.ref 240, .long (2002873452 : Int64)]) (rest := []) (M1 := mjM_190) (d1 := 0) (ls0 := [some (.ref 240), some (.long (2002873452 : Int64)), none]) M_189 q_189_102 (h_cv Tw ro_240 (by decide) kd_241 (by decide) (show 1 ≤ 2 by decide) rfl (show 0 ≤ 8 by decide)) M_190 (show 3 ≤ 3 by decide) (by decide) rfl (by omega) (H_isWord Tw) (fun u9 hu9 => ?_)
          refine g_if M_189 q_189_105 mjCz_eq (fun b10 => ?_) (fun b10 => ?_)
          · refine g_L (v := .ref 240) (n := 1) M_189 q_189_110 rfl ?_
            refine g_P (v := .long (1919905645 : Int64)) (n := 3) M_189 q_189_111 rfl ?_
            refine h_run (as := [.ref 240, .long (1919905645 : Int64)]) (rest := []) (M1 := mjM_190) (d1 := 0) (ls0 := [some (.ref 240), some (.long (1919905645 : Int64)), none]) M_189 q_189_114 (h_cv Tw ro_240 (by decide) kd_241 (by decide) (show 1 ≤ 2 by decide) rfl (show 0 ≤ 8 by decide)) M_190 (show 3 ≤ 3 by decide) (by decide) rfl (by omega) (H_isWord Tw) (fun u11 hu11 => ?_)
            refine g_if M_189 q_189_117 mjCz_eq (fun b12 => ?_) (fun b12 => ?_)
            · refine g_L (v := .ref 240) (n := 1) M_189 q_189_139 rfl ?_
              refine g_P (v := .long (444351214452 : Int64)) (n := 3) M_189 q_189_140 rfl ?_
              refine h_run (as := [.ref 240, .long (444351214452 : Int64)]) (rest := []) (M1 := mjM_190) (d1 := 0) (ls0 := [some (.ref 240), some (.long (444351214452 : Int64)), none]) M_189 q_189_143 (h_cv Tw ro_240 (by decide) kd_241 (by decide) (show 1 ≤ 2 by decide) rfl (show 0 ≤ 8 by decide)) M_190 (show 3 ≤ 3 by decide) (by decide) rfl (by omega) (H_isWord Tw) (fun u13 hu13 => ?_)
              refine g_if M_189 q_189_146 mjCz_eq (fun b14 => ?_) (fun b14 => ?_)
              · refine g_L (v := .ref 240) (n := 1) M_189 q_189_169 rfl ?_
                refine g_P (v := .long (1953067123 : Int64)) (n := 3) M_189 q_189_170 rfl ?_
                refine h_run (as := [.ref 240, .long (1953067123 : Int64)]) (rest := []) (M1 := mjM_190) (d1 := 0) (ls0 := [some (.ref 240), some (.long (1953067123 : Int64)), none]) M_189 q_189_173 (h_cv Tw ro_240 (by decide) kd_241 (by decide) (show 1 ≤ 2 by decide) rfl (show 0 ≤ 8 by decide)) M_190 (show 3 ≤ 3 by decide) (by decide) rfl (by omega) (H_isWord Tw) (fun u15 hu15 => ?_)
                refine g_if M_189 q_189_176 mjCz_eq (fun b16 => ?_) (fun b16 => ?_)
                · refine g_L (v := .ref 240) (n := 1) M_189 q_189_193 rfl ?_
                  refine g_P (v := .long (439721159795 : Int64)) (n := 3) M_189 q_189_194 rfl ?_
                  refine h_run (as := [.ref 240, .long (439721159795 : Int64)]) (rest := []) (M1 := mjM_190) (d1 := 0) (ls0 := [some (.ref 240), some (.long (439721159795 : Int64)), none]) M_189 q_189_197 (h_cv Tw ro_240 (by decide) kd_241 (by decide) (show 1 ≤ 2 by decide) rfl (show 0 ≤ 8 by decide)) M_190 (show 3 ≤ 3 by decide) (by decide) rfl (by omega) (H_isWord Tw) (fun u17 hu17 => ?_)
                  refine g_if M_189 q_189_200 mjCz_eq (fun b18 => ?_) (fun b18 => ?_)
                  · refine g_L (v := .ref 240) (n := 1) M_189 q_189_217 rfl ?_
                    refine g_P (v := .long (2003398244 : Int64)) (n := 3) M_189 q_189_218 rfl ?_
                    refine h_run (as := [.ref 240, .long (2003398244 : Int64)]) (rest := []) (M1 := mjM_190) (d1 := 0) (ls0 := [some (.ref 240), some (.long (2003398244 : Int64)), none]) M_189 q_189_221 (h_cv Tw ro_240 (by decide) kd_241 (by decide) (show 1 ≤ 2 by decide) rfl (show 0 ≤ 8 by decide)) M_190 (show 3 ≤ 3 by decide) (by decide) rfl (by omega) (H_isWord Tw) (fun u19 hu19 => ?_)
                    refine g_if M_189 q_189_224 mjCz_eq (fun b20 => ?_) (fun b20 => ?_)
                    · refine g_L (v := .ref 240) (n := 1) M_189 q_189_241 rfl ?_
                      refine g_P (v := .long (1685217655 : Int64)) (n := 3) M_189 q_189_242 rfl ?_
                      refine h_run (as := [.ref 240, .long (1685217655 : Int64)]) (rest := []) (M1 := mjM_190) (d1 := 0) (ls0 := [some (.ref 240), some (.long (1685217655 : Int64)), none]) M_189 q_189_245 (h_cv Tw ro_240 (by decide) kd_241 (by decide) (show 1 ≤ 2 by decide) rfl (show 0 ≤ 8 by decide)) M_190 (show 3 ≤ 3 by decide) (by decide) rfl (by omega) (H_isWord Tw) (fun u21 hu21 => ?_)
                      refine g_if M_189 q_189_248 mjCz_eq (fun b22 => ?_) (fun b22 => ?_)
                      · refine g_A (st1 := [.int (1 : Int32)]) M_189 q_189_267 rfl ?_
                        refine g_goto M_189 q_189_268 ?_
                        refine g_ret (v := some (.int (1 : Int32))) M_189 q_189_272 (h_rtZ) ?_
                        exact ⟨rfl, _, rfl, by decide, by decide, fun hz => absurd hz (by decide)⟩
                      · have nm : m4L w 240 10 = 1685217655 := by
                          rcases hu21 with q | q
                          · exact q.2.2
                          · exfalso; omega
                        clear hu1 hu3 hu5 hu7 hu9 hu11 hu13 hu15 hu17 hu19 hu21
                        refine g_L (v := .ref 240) (n := 1) M_189 q_189_251 rfl ?_
                        refine h_get M_189 q_189_252 Tw ro_240 (by decide) kd_241 (fr_240_19 Tw) ?_
                        refine g_L (v := .ref 240) (n := 1) M_189 q_189_255 rfl ?_
                        have bw_240_43 := (fi_240_43 Tw).2
                        refine h_get M_189 q_189_256 Tw ro_240 (by decide) kd_241 (fi_240_43 Tw).1 ?_
                        have e23 := ar_252 Tw ro_251 (j := (m4X w 240 43).toInt.toNat) (by omega)
                        refine h_ald (j := (m4X w 240 43).toInt.toNat) M_189 q_189_259 Tw ro_251 (by decide) kd_252 (by omega) e23.1 ?_
                        refine g_A (st1 := [.int (5 : Int32), .int (m4X w 251 (m4X w 240 43).toInt.toNat)]) M_189 q_189_260 rfl ?_
                        refine h_pure (lo := 0) (hi := 1) (as := [.int (m4X w 251 (m4X w 240 43).toInt.toNat), .int (5 : Int32)]) (rest := []) (M1 := mjM_191) M_189 q_189_261 rfl M_191 (show 2 ≤ 2 by decide) (by decide) (by decide) (mjC_z_2 m4_true mjHz_true) Tw ⟨⟨_, rfl, mjB.all _⟩, ⟨_, rfl, mjB.all _⟩, trivial⟩ rfl rfl rfl (fun u24 hu24 hu24a => ?_)
                        refine g_if M_189 q_189_264 mjCz_eq (fun b25 => ?_) (fun b25 => ?_)
                        · refine g_A (st1 := [.int (0 : Int32)]) M_189 q_189_271 rfl ?_
                          refine g_ret (v := some (.int (0 : Int32))) M_189 q_189_272 (h_rtZ) ?_
                          refine ⟨rfl, _, rfl, by omega, by omega, fun hz => ?_⟩
                          exact ⟨(fun e => absurd (nm.symm.trans e) (by decide +kernel)), (fun e => absurd (nm.symm.trans e) (by decide +kernel)), (fun e => absurd (nm.symm.trans e) (by decide +kernel))⟩
                        · refine g_A (st1 := [.int (1 : Int32)]) M_189 q_189_267 rfl ?_
                          refine g_goto M_189 q_189_268 ?_
                          refine g_ret (v := some (.int (1 : Int32))) M_189 q_189_272 (h_rtZ) ?_
                          exact ⟨rfl, _, rfl, by decide, by decide, fun hz => absurd hz (by decide)⟩
                    · have nm : m4L w 240 10 = 2003398244 := by
                        rcases hu19 with q | q
                        · exact q.2.2
                        · exfalso; omega
                      clear hu1 hu3 hu5 hu7 hu9 hu11 hu13 hu15 hu17 hu19
                      refine g_L (v := .ref 240) (n := 1) M_189 q_189_227 rfl ?_
                      refine h_get M_189 q_189_228 Tw ro_240 (by decide) kd_241 (fr_240_19 Tw) ?_
                      refine g_L (v := .ref 240) (n := 1) M_189 q_189_231 rfl ?_
                      have bw_240_43 := (fi_240_43 Tw).2
                      refine h_get M_189 q_189_232 Tw ro_240 (by decide) kd_241 (fi_240_43 Tw).1 ?_
                      have e26 := ar_252 Tw ro_251 (j := (m4X w 240 43).toInt.toNat) (by omega)
                      refine h_ald (j := (m4X w 240 43).toInt.toNat) M_189 q_189_235 Tw ro_251 (by decide) kd_252 (by omega) e26.1 ?_
                      refine g_A (st1 := [.int (4 : Int32), .int (m4X w 251 (m4X w 240 43).toInt.toNat)]) M_189 q_189_236 rfl ?_
                      refine h_pure (lo := 0) (hi := 1) (as := [.int (m4X w 251 (m4X w 240 43).toInt.toNat), .int (4 : Int32)]) (rest := []) (M1 := mjM_191) M_189 q_189_237 rfl M_191 (show 2 ≤ 2 by decide) (by decide) (by decide) (mjC_z_2 m4_true mjHz_true) Tw ⟨⟨_, rfl, mjB.all _⟩, ⟨_, rfl, mjB.all _⟩, trivial⟩ rfl rfl rfl (fun u27 hu27 hu27a => ?_)
                      refine g_ret (v := some (.int u27)) M_189 q_189_240 (h_rtZ) ?_
                      refine ⟨rfl, _, rfl, by omega, by omega, fun hz => ?_⟩
                      exact ⟨(fun e => absurd (nm.symm.trans e) (by decide +kernel)), (fun e => absurd (nm.symm.trans e) (by decide +kernel)), (fun e => absurd (nm.symm.trans e) (by decide +kernel))⟩
                  · have nm : m4L w 240 10 = 439721159795 := by
                      rcases hu17 with q | q
                      · exact q.2.2
                      · exfalso; omega
                    clear hu1 hu3 hu5 hu7 hu9 hu11 hu13 hu15 hu17
                    refine g_L (v := .ref 240) (n := 1) M_189 q_189_203 rfl ?_
                    refine h_get M_189 q_189_204 Tw ro_240 (by decide) kd_241 (fr_240_19 Tw) ?_
                    refine g_L (v := .ref 240) (n := 1) M_189 q_189_207 rfl ?_
                    have bw_240_43 := (fi_240_43 Tw).2
                    refine h_get M_189 q_189_208 Tw ro_240 (by decide) kd_241 (fi_240_43 Tw).1 ?_
                    have e28 := ar_252 Tw ro_251 (j := (m4X w 240 43).toInt.toNat) (by omega)
                    refine h_ald (j := (m4X w 240 43).toInt.toNat) M_189 q_189_211 Tw ro_251 (by decide) kd_252 (by omega) e28.1 ?_
                    refine g_A (st1 := [.int (3 : Int32), .int (m4X w 251 (m4X w 240 43).toInt.toNat)]) M_189 q_189_212 rfl ?_
                    refine h_pure (lo := 0) (hi := 1) (as := [.int (m4X w 251 (m4X w 240 43).toInt.toNat), .int (3 : Int32)]) (rest := []) (M1 := mjM_191) M_189 q_189_213 rfl M_191 (show 2 ≤ 2 by decide) (by decide) (by decide) (mjC_z_2 m4_true mjHz_true) Tw ⟨⟨_, rfl, mjB.all _⟩, ⟨_, rfl, mjB.all _⟩, trivial⟩ rfl rfl rfl (fun u29 hu29 hu29a => ?_)
                    refine g_ret (v := some (.int u29)) M_189 q_189_216 (h_rtZ) ?_
                    refine ⟨rfl, _, rfl, by omega, by omega, fun hz => ?_⟩
                    exact ⟨(fun e => absurd (nm.symm.trans e) (by decide +kernel)), (fun e => absurd (nm.symm.trans e) (by decide +kernel)), (fun e => absurd (nm.symm.trans e) (by decide +kernel))⟩
                · have nm : m4L w 240 10 = 1953067123 := by
                    rcases hu15 with q | q
                    · exact q.2.2
                    · exfalso; omega
                  clear hu1 hu3 hu5 hu7 hu9 hu11 hu13 hu15
                  refine g_L (v := .ref 240) (n := 1) M_189 q_189_179 rfl ?_
                  refine h_get M_189 q_189_180 Tw ro_240 (by decide) kd_241 (fr_240_19 Tw) ?_
                  refine g_L (v := .ref 240) (n := 1) M_189 q_189_183 rfl ?_
                  have bw_240_43 := (fi_240_43 Tw).2
                  refine h_get M_189 q_189_184 Tw ro_240 (by decide) kd_241 (fi_240_43 Tw).1 ?_
                  have e30 := ar_252 Tw ro_251 (j := (m4X w 240 43).toInt.toNat) (by omega)
                  refine h_ald (j := (m4X w 240 43).toInt.toNat) M_189 q_189_187 Tw ro_251 (by decide) kd_252 (by omega) e30.1 ?_
                  refine g_A (st1 := [.int (2 : Int32), .int (m4X w 251 (m4X w 240 43).toInt.toNat)]) M_189 q_189_188 rfl ?_
                  refine h_run (as := [.int (m4X w 251 (m4X w 240 43).toInt.toNat), .int (2 : Int32)]) (rest := []) (M1 := mjM_191) (d1 := 0) (ls0 := [some (.int (m4X w 251 (m4X w 240 43).toInt.toNat)), some (.int (2 : Int32))]) M_189 q_189_189 rfl M_191 (show 2 ≤ 2 by decide) (by decide) rfl (by decide) (H_bit2 (by omega) (by omega)) (fun u31 hu31 => ?_)
                  refine g_ret (v := some (.int u31)) M_189 q_189_192 (h_rtZ) ?_
                  refine ⟨rfl, _, rfl, by omega, by omega, fun hz => ?_⟩
                  exact ⟨(fun e => absurd (nm.symm.trans e) (by decide +kernel)), (fun e => absurd (nm.symm.trans e) (by decide +kernel)), (fun e => hu31.elim (fun z => absurd (z.1.symm.trans hz) (by decide)) (fun z => z.2))⟩
              · have nm : m4L w 240 10 = 444351214452 := by
                  rcases hu13 with q | q
                  · exact q.2.2
                  · exfalso; omega
                clear hu1 hu3 hu5 hu7 hu9 hu11 hu13
                refine g_L (v := .ref 240) (n := 1) M_189 q_189_149 rfl ?_
                refine h_get M_189 q_189_150 Tw ro_240 (by decide) kd_241 (fr_240_14 Tw) ?_
                refine g_L (v := .ref 240) (n := 1) M_189 q_189_153 rfl ?_
                have bw_240_43 := (fi_240_43 Tw).2
                refine h_get M_189 q_189_154 Tw ro_240 (by decide) kd_241 (fi_240_43 Tw).1 ?_
                have e32 := ar_247 Tw ro_246 (j := (m4X w 240 43).toInt.toNat) (by omega)
                refine h_ald (j := (m4X w 240 43).toInt.toNat) M_189 q_189_157 Tw ro_246 (by decide) kd_247 (by omega) e32.1 ?_
                refine g_P (v := .int (6 : Int32)) (n := 2) M_189 q_189_158 rfl ?_
                refine g_icmp M_189 q_189_160 mjCi_ne (fun b33 => ?_) (fun b33 => ?_)
                · refine g_A (st1 := [.int (0 : Int32)]) M_189 q_189_167 rfl ?_
                  refine g_ret (v := some (.int (0 : Int32))) M_189 q_189_168 (h_rtZ) ?_
                  refine ⟨rfl, _, rfl, by omega, by omega, fun hz => ?_⟩
                  exact ⟨(fun e => absurd (nm.symm.trans e) (by decide +kernel)), (fun e => by omega), (fun e => absurd (nm.symm.trans e) (by decide +kernel))⟩
                · refine g_A (st1 := [.int (1 : Int32)]) M_189 q_189_163 rfl ?_
                  refine g_goto M_189 q_189_164 ?_
                  refine g_ret (v := some (.int (1 : Int32))) M_189 q_189_168 (h_rtZ) ?_
                  exact ⟨rfl, _, rfl, by decide, by decide, fun hz => absurd hz (by decide)⟩
            · have nm : m4L w 240 10 = 1919905645 := by
                rcases hu11 with q | q
                · exact q.2.2
                · exfalso; omega
              clear hu1 hu3 hu5 hu7 hu9 hu11
              refine g_L (v := .ref 240) (n := 1) M_189 q_189_120 rfl ?_
              refine h_get M_189 q_189_121 Tw ro_240 (by decide) kd_241 (fr_240_13 Tw) ?_
              refine g_L (v := .ref 240) (n := 1) M_189 q_189_124 rfl ?_
              have bw_240_43 := (fi_240_43 Tw).2
              refine h_get M_189 q_189_125 Tw ro_240 (by decide) kd_241 (fi_240_43 Tw).1 ?_
              have e34 := ar_246 Tw ro_245 (j := (m4X w 240 43).toInt.toNat) (by omega)
              refine h_ald (j := (m4X w 240 43).toInt.toNat) M_189 q_189_128 Tw ro_245 (by decide) kd_246 (by omega) e34.1 ?_
              refine g_A (st1 := [.int (5 : Int32), .int (m4X w 245 (m4X w 240 43).toInt.toNat)]) M_189 q_189_129 rfl ?_
              refine g_icmp M_189 q_189_130 mjCi_ne (fun b35 => ?_) (fun b35 => ?_)
              · refine g_A (st1 := [.int (0 : Int32)]) M_189 q_189_137 rfl ?_
                refine g_ret (v := some (.int (0 : Int32))) M_189 q_189_138 (h_rtZ) ?_
                refine ⟨rfl, _, rfl, by omega, by omega, fun hz => ?_⟩
                exact ⟨(fun e => by omega), (fun e => absurd (nm.symm.trans e) (by decide +kernel)), (fun e => absurd (nm.symm.trans e) (by decide +kernel))⟩
              · refine g_A (st1 := [.int (1 : Int32)]) M_189 q_189_133 rfl ?_
                refine g_goto M_189 q_189_134 ?_
                refine g_ret (v := some (.int (1 : Int32))) M_189 q_189_138 (h_rtZ) ?_
                exact ⟨rfl, _, rfl, by decide, by decide, fun hz => absurd hz (by decide)⟩
          · have nm : m4L w 240 10 = 2002873452 := by
              rcases hu9 with q | q
              · exact q.2.2
              · exfalso; omega
            clear hu1 hu3 hu5 hu7 hu9
            refine g_A (st1 := [.int (0 : Int32)]) M_189 q_189_108 rfl ?_
            refine g_ret (v := some (.int (0 : Int32))) M_189 q_189_109 (h_rtZ) ?_
            refine ⟨rfl, _, rfl, by omega, by omega, fun hz => ?_⟩
            exact ⟨(fun e => absurd (nm.symm.trans e) (by decide +kernel)), (fun e => absurd (nm.symm.trans e) (by decide +kernel)), (fun e => absurd (nm.symm.trans e) (by decide +kernel))⟩
    · have nm : m4L w 240 10 = 1919907699 := by
        rcases hu3 with q | q
        · exact q.2.2
        · exfalso; omega
      clear hu1 hu3
      refine g_L (v := .ref 240) (n := 1) M_189 q_189_49 rfl ?_
      have bw_240_48 := (fi_240_48 Tw).2
      refine h_get M_189 q_189_50 Tw ro_240 (by decide) kd_241 (fi_240_48 Tw).1 ?_
      refine g_if M_189 q_189_53 mjCz_ne (fun b36 => ?_) (fun b36 => ?_)
      · refine g_A (st1 := [.int (1 : Int32)]) M_189 q_189_72 rfl ?_
        refine g_goto M_189 q_189_73 ?_
        refine g_ret (v := some (.int (1 : Int32))) M_189 q_189_77 (h_rtZ) ?_
        exact ⟨rfl, _, rfl, by decide, by decide, fun hz => absurd hz (by decide)⟩
      · refine g_L (v := .ref 240) (n := 1) M_189 q_189_56 rfl ?_
        refine h_get M_189 q_189_57 Tw ro_240 (by decide) kd_241 (fr_240_19 Tw) ?_
        refine g_L (v := .ref 240) (n := 1) M_189 q_189_60 rfl ?_
        have bw_240_43 := (fi_240_43 Tw).2
        refine h_get M_189 q_189_61 Tw ro_240 (by decide) kd_241 (fi_240_43 Tw).1 ?_
        have e37 := ar_252 Tw ro_251 (j := (m4X w 240 43).toInt.toNat) (by omega)
        refine h_ald (j := (m4X w 240 43).toInt.toNat) M_189 q_189_64 Tw ro_251 (by decide) kd_252 (by omega) e37.1 ?_
        refine g_A (st1 := [.int (1 : Int32), .int (m4X w 251 (m4X w 240 43).toInt.toNat)]) M_189 q_189_65 rfl ?_
        refine h_pure (lo := 0) (hi := 1) (as := [.int (m4X w 251 (m4X w 240 43).toInt.toNat), .int (1 : Int32)]) (rest := []) (M1 := mjM_191) M_189 q_189_66 rfl M_191 (show 2 ≤ 2 by decide) (by decide) (by decide) (mjC_z_2 m4_true mjHz_true) Tw ⟨⟨_, rfl, mjB.all _⟩, ⟨_, rfl, mjB.all _⟩, trivial⟩ rfl rfl rfl (fun u38 hu38 hu38a => ?_)
        refine g_if M_189 q_189_69 mjCz_eq (fun b39 => ?_) (fun b39 => ?_)
        · refine g_A (st1 := [.int (0 : Int32)]) M_189 q_189_76 rfl ?_
          refine g_ret (v := some (.int (0 : Int32))) M_189 q_189_77 (h_rtZ) ?_
          refine ⟨rfl, _, rfl, by omega, by omega, fun hz => ?_⟩
          exact ⟨(fun e => absurd (nm.symm.trans e) (by decide +kernel)), (fun e => absurd (nm.symm.trans e) (by decide +kernel)), (fun e => absurd (nm.symm.trans e) (by decide +kernel))⟩
        · refine g_A (st1 := [.int (1 : Int32)]) M_189 q_189_72 rfl ?_
          refine g_goto M_189 q_189_73 ?_
          refine g_ret (v := some (.int (1 : Int32))) M_189 q_189_77 (h_rtZ) ?_
          exact ⟨rfl, _, rfl, by decide, by decide, fun hz => absurd hz (by decide)⟩
  · have nm : m4L w 240 10 = 465491092851 := by
      rcases hu1 with q | q
      · exact q.2.2
      · exfalso; omega
    clear hu1
    refine g_L (v := .ref 240) (n := 1) M_189 q_189_10 rfl ?_
    have bw_240_48 := (fi_240_48 Tw).2
    refine h_get M_189 q_189_11 Tw ro_240 (by decide) kd_241 (fi_240_48 Tw).1 ?_
    refine g_if M_189 q_189_14 mjCz_ne (fun b40 => ?_) (fun b40 => ?_)
    · refine g_A (st1 := [.int (1 : Int32)]) M_189 q_189_33 rfl ?_
      refine g_goto M_189 q_189_34 ?_
      refine g_ret (v := some (.int (1 : Int32))) M_189 q_189_38 (h_rtZ) ?_
      exact ⟨rfl, _, rfl, by decide, by decide, fun hz => absurd hz (by decide)⟩
    · refine g_L (v := .ref 240) (n := 1) M_189 q_189_17 rfl ?_
      refine h_get M_189 q_189_18 Tw ro_240 (by decide) kd_241 (fr_240_19 Tw) ?_
      refine g_L (v := .ref 240) (n := 1) M_189 q_189_21 rfl ?_
      have bw_240_43 := (fi_240_43 Tw).2
      refine h_get M_189 q_189_22 Tw ro_240 (by decide) kd_241 (fi_240_43 Tw).1 ?_
      have e41 := ar_252 Tw ro_251 (j := (m4X w 240 43).toInt.toNat) (by omega)
      refine h_ald (j := (m4X w 240 43).toInt.toNat) M_189 q_189_25 Tw ro_251 (by decide) kd_252 (by omega) e41.1 ?_
      refine g_A (st1 := [.int (0 : Int32), .int (m4X w 251 (m4X w 240 43).toInt.toNat)]) M_189 q_189_26 rfl ?_
      refine h_pure (lo := 0) (hi := 1) (as := [.int (m4X w 251 (m4X w 240 43).toInt.toNat), .int (0 : Int32)]) (rest := []) (M1 := mjM_191) M_189 q_189_27 rfl M_191 (show 2 ≤ 2 by decide) (by decide) (by decide) (mjC_z_2 m4_true mjHz_true) Tw ⟨⟨_, rfl, mjB.all _⟩, ⟨_, rfl, mjB.all _⟩, trivial⟩ rfl rfl rfl (fun u42 hu42 hu42a => ?_)
      refine g_if M_189 q_189_30 mjCz_eq (fun b43 => ?_) (fun b43 => ?_)
      · refine g_A (st1 := [.int (0 : Int32)]) M_189 q_189_37 rfl ?_
        refine g_ret (v := some (.int (0 : Int32))) M_189 q_189_38 (h_rtZ) ?_
        refine ⟨rfl, _, rfl, by omega, by omega, fun hz => ?_⟩
        exact ⟨(fun e => absurd (nm.symm.trans e) (by decide +kernel)), (fun e => absurd (nm.symm.trans e) (by decide +kernel)), (fun e => absurd (nm.symm.trans e) (by decide +kernel))⟩
      · refine g_A (st1 := [.int (1 : Int32)]) M_189 q_189_33 rfl ?_
        refine g_goto M_189 q_189_34 ?_
        refine g_ret (v := some (.int (1 : Int32))) M_189 q_189_38 (h_rtZ) ?_
        exact ⟨rfl, _, rfl, by decide, by decide, fun hz => absurd hz (by decide)⟩
