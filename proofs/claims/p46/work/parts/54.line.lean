/-! ===== the lines of a text, by hand ===== -/
theorem RL_s82 {sc : List Int32} {P : Option Value → MjW → Prop} {w : MjW} {N : Int64} (hne : N ≠ 465491092851) (K : mjGo mjTb mjMt sc (7 + 1) 188 (107, [some (.ref 240), some (.long N), none], [], w) P) : mjGo mjTb mjMt sc (7 + 1) 188 (82, [some (.ref 240), some (.long N), none], [], w) P := by
  refine g_L (v := .long N) (n := 1) M_188 q_188_82 rfl ?_
  refine g_P (v := .long (465491092851 : Int64)) (n := 3) M_188 q_188_83 rfl ?_
  refine h_lcmp M_188 q_188_86 (fun u hu => ?_)
  refine g_if M_188 q_188_87 mjCz_ne (fun b => K) (fun b => ?_)
  rcases hu with q | q
  · exact absurd q.2 hne
  · exact absurd q.1 b
theorem RL_t82 {sc : List Int32} {P : Option Value → MjW → Prop} {w : MjW} {N : Int64} (hN : N = 465491092851) (K : mjGo mjTb mjMt sc (7 + 1) 188 (90, [some (.ref 240), some (.long N), none], [], w) P) : mjGo mjTb mjMt sc (7 + 1) 188 (82, [some (.ref 240), some (.long N), none], [], w) P := by
  refine g_L (v := .long N) (n := 1) M_188 q_188_82 rfl ?_
  refine g_P (v := .long (465491092851 : Int64)) (n := 3) M_188 q_188_83 rfl ?_
  refine h_lcmp M_188 q_188_86 (fun u hu => ?_)
  refine g_if M_188 q_188_87 mjCz_ne (fun b => ?_) (fun b => K)
  rcases hu with q | q
  · exact absurd q.1 b
  · exact absurd hN q.2
theorem RL_s107 {sc : List Int32} {P : Option Value → MjW → Prop} {w : MjW} {N : Int64} (hne : N ≠ 1919907699) (K : mjGo mjTb mjMt sc (7 + 1) 188 (131, [some (.ref 240), some (.long N), none], [], w) P) : mjGo mjTb mjMt sc (7 + 1) 188 (107, [some (.ref 240), some (.long N), none], [], w) P := by
  refine g_L (v := .long N) (n := 1) M_188 q_188_107 rfl ?_
  refine g_P (v := .long (1919907699 : Int64)) (n := 3) M_188 q_188_108 rfl ?_
  refine h_lcmp M_188 q_188_111 (fun u hu => ?_)
  refine g_if M_188 q_188_112 mjCz_ne (fun b => K) (fun b => ?_)
  rcases hu with q | q
  · exact absurd q.2 hne
  · exact absurd q.1 b
theorem RL_t107 {sc : List Int32} {P : Option Value → MjW → Prop} {w : MjW} {N : Int64} (hN : N = 1919907699) (K : mjGo mjTb mjMt sc (7 + 1) 188 (115, [some (.ref 240), some (.long N), none], [], w) P) : mjGo mjTb mjMt sc (7 + 1) 188 (107, [some (.ref 240), some (.long N), none], [], w) P := by
  refine g_L (v := .long N) (n := 1) M_188 q_188_107 rfl ?_
  refine g_P (v := .long (1919907699 : Int64)) (n := 3) M_188 q_188_108 rfl ?_
  refine h_lcmp M_188 q_188_111 (fun u hu => ?_)
  refine g_if M_188 q_188_112 mjCz_ne (fun b => ?_) (fun b => K)
  rcases hu with q | q
  · exact absurd q.1 b
  · exact absurd hN q.2
theorem RL_s131 {sc : List Int32} {P : Option Value → MjW → Prop} {w : MjW} {N : Int64} (hne : N ≠ 495740481637) (K : mjGo mjTb mjMt sc (7 + 1) 188 (143, [some (.ref 240), some (.long N), none], [], w) P) : mjGo mjTb mjMt sc (7 + 1) 188 (131, [some (.ref 240), some (.long N), none], [], w) P := by
  refine g_L (v := .long N) (n := 1) M_188 q_188_131 rfl ?_
  refine g_P (v := .long (495740481637 : Int64)) (n := 3) M_188 q_188_132 rfl ?_
  refine h_lcmp M_188 q_188_135 (fun u hu => ?_)
  refine g_if M_188 q_188_136 mjCz_ne (fun b => K) (fun b => ?_)
  rcases hu with q | q
  · exact absurd q.2 hne
  · exact absurd q.1 b
theorem RL_t131 {sc : List Int32} {P : Option Value → MjW → Prop} {w : MjW} {N : Int64} (hN : N = 495740481637) (K : mjGo mjTb mjMt sc (7 + 1) 188 (139, [some (.ref 240), some (.long N), none], [], w) P) : mjGo mjTb mjMt sc (7 + 1) 188 (131, [some (.ref 240), some (.long N), none], [], w) P := by
  refine g_L (v := .long N) (n := 1) M_188 q_188_131 rfl ?_
  refine g_P (v := .long (495740481637 : Int64)) (n := 3) M_188 q_188_132 rfl ?_
  refine h_lcmp M_188 q_188_135 (fun u hu => ?_)
  refine g_if M_188 q_188_136 mjCz_ne (fun b => ?_) (fun b => K)
  rcases hu with q | q
  · exact absurd q.1 b
  · exact absurd hN q.2
theorem RL_s143 {sc : List Int32} {P : Option Value → MjW → Prop} {w : MjW} {N : Int64} (hne : N ≠ 1818846579) (K : mjGo mjTb mjMt sc (7 + 1) 188 (155, [some (.ref 240), some (.long N), none], [], w) P) : mjGo mjTb mjMt sc (7 + 1) 188 (143, [some (.ref 240), some (.long N), none], [], w) P := by
  refine g_L (v := .long N) (n := 1) M_188 q_188_143 rfl ?_
  refine g_P (v := .long (1818846579 : Int64)) (n := 3) M_188 q_188_144 rfl ?_
  refine h_lcmp M_188 q_188_147 (fun u hu => ?_)
  refine g_if M_188 q_188_148 mjCz_ne (fun b => K) (fun b => ?_)
  rcases hu with q | q
  · exact absurd q.2 hne
  · exact absurd q.1 b
theorem RL_t143 {sc : List Int32} {P : Option Value → MjW → Prop} {w : MjW} {N : Int64} (hN : N = 1818846579) (K : mjGo mjTb mjMt sc (7 + 1) 188 (151, [some (.ref 240), some (.long N), none], [], w) P) : mjGo mjTb mjMt sc (7 + 1) 188 (143, [some (.ref 240), some (.long N), none], [], w) P := by
  refine g_L (v := .long N) (n := 1) M_188 q_188_143 rfl ?_
  refine g_P (v := .long (1818846579 : Int64)) (n := 3) M_188 q_188_144 rfl ?_
  refine h_lcmp M_188 q_188_147 (fun u hu => ?_)
  refine g_if M_188 q_188_148 mjCz_ne (fun b => ?_) (fun b => K)
  rcases hu with q | q
  · exact absurd q.1 b
  · exact absurd hN q.2
theorem RL_s155 {sc : List Int32} {P : Option Value → MjW → Prop} {w : MjW} {N : Int64} (hne : N ≠ 2002873452) (K : mjGo mjTb mjMt sc (7 + 1) 188 (167, [some (.ref 240), some (.long N), none], [], w) P) : mjGo mjTb mjMt sc (7 + 1) 188 (155, [some (.ref 240), some (.long N), none], [], w) P := by
  refine g_L (v := .long N) (n := 1) M_188 q_188_155 rfl ?_
  refine g_P (v := .long (2002873452 : Int64)) (n := 3) M_188 q_188_156 rfl ?_
  refine h_lcmp M_188 q_188_159 (fun u hu => ?_)
  refine g_if M_188 q_188_160 mjCz_ne (fun b => K) (fun b => ?_)
  rcases hu with q | q
  · exact absurd q.2 hne
  · exact absurd q.1 b
theorem RL_t155 {sc : List Int32} {P : Option Value → MjW → Prop} {w : MjW} {N : Int64} (hN : N = 2002873452) (K : mjGo mjTb mjMt sc (7 + 1) 188 (163, [some (.ref 240), some (.long N), none], [], w) P) : mjGo mjTb mjMt sc (7 + 1) 188 (155, [some (.ref 240), some (.long N), none], [], w) P := by
  refine g_L (v := .long N) (n := 1) M_188 q_188_155 rfl ?_
  refine g_P (v := .long (2002873452 : Int64)) (n := 3) M_188 q_188_156 rfl ?_
  refine h_lcmp M_188 q_188_159 (fun u hu => ?_)
  refine g_if M_188 q_188_160 mjCz_ne (fun b => ?_) (fun b => K)
  rcases hu with q | q
  · exact absurd q.1 b
  · exact absurd hN q.2
theorem RL_s167 {sc : List Int32} {P : Option Value → MjW → Prop} {w : MjW} {N : Int64} (hne : N ≠ 1919905645) (K : mjGo mjTb mjMt sc (7 + 1) 188 (179, [some (.ref 240), some (.long N), none], [], w) P) : mjGo mjTb mjMt sc (7 + 1) 188 (167, [some (.ref 240), some (.long N), none], [], w) P := by
  refine g_L (v := .long N) (n := 1) M_188 q_188_167 rfl ?_
  refine g_P (v := .long (1919905645 : Int64)) (n := 3) M_188 q_188_168 rfl ?_
  refine h_lcmp M_188 q_188_171 (fun u hu => ?_)
  refine g_if M_188 q_188_172 mjCz_ne (fun b => K) (fun b => ?_)
  rcases hu with q | q
  · exact absurd q.2 hne
  · exact absurd q.1 b
theorem RL_t167 {sc : List Int32} {P : Option Value → MjW → Prop} {w : MjW} {N : Int64} (hN : N = 1919905645) (K : mjGo mjTb mjMt sc (7 + 1) 188 (175, [some (.ref 240), some (.long N), none], [], w) P) : mjGo mjTb mjMt sc (7 + 1) 188 (167, [some (.ref 240), some (.long N), none], [], w) P := by
  refine g_L (v := .long N) (n := 1) M_188 q_188_167 rfl ?_
  refine g_P (v := .long (1919905645 : Int64)) (n := 3) M_188 q_188_168 rfl ?_
  refine h_lcmp M_188 q_188_171 (fun u hu => ?_)
  refine g_if M_188 q_188_172 mjCz_ne (fun b => ?_) (fun b => K)
  rcases hu with q | q
  · exact absurd q.1 b
  · exact absurd hN q.2
theorem RL_s179 {sc : List Int32} {P : Option Value → MjW → Prop} {w : MjW} {N : Int64} (hne : N ≠ 444351214452) (K : mjGo mjTb mjMt sc (7 + 1) 188 (191, [some (.ref 240), some (.long N), none], [], w) P) : mjGo mjTb mjMt sc (7 + 1) 188 (179, [some (.ref 240), some (.long N), none], [], w) P := by
  refine g_L (v := .long N) (n := 1) M_188 q_188_179 rfl ?_
  refine g_P (v := .long (444351214452 : Int64)) (n := 3) M_188 q_188_180 rfl ?_
  refine h_lcmp M_188 q_188_183 (fun u hu => ?_)
  refine g_if M_188 q_188_184 mjCz_ne (fun b => K) (fun b => ?_)
  rcases hu with q | q
  · exact absurd q.2 hne
  · exact absurd q.1 b
theorem RL_t179 {sc : List Int32} {P : Option Value → MjW → Prop} {w : MjW} {N : Int64} (hN : N = 444351214452) (K : mjGo mjTb mjMt sc (7 + 1) 188 (187, [some (.ref 240), some (.long N), none], [], w) P) : mjGo mjTb mjMt sc (7 + 1) 188 (179, [some (.ref 240), some (.long N), none], [], w) P := by
  refine g_L (v := .long N) (n := 1) M_188 q_188_179 rfl ?_
  refine g_P (v := .long (444351214452 : Int64)) (n := 3) M_188 q_188_180 rfl ?_
  refine h_lcmp M_188 q_188_183 (fun u hu => ?_)
  refine g_if M_188 q_188_184 mjCz_ne (fun b => ?_) (fun b => K)
  rcases hu with q | q
  · exact absurd q.1 b
  · exact absurd hN q.2
theorem RL_s191 {sc : List Int32} {P : Option Value → MjW → Prop} {w : MjW} {N : Int64} (hne : N ≠ 1953067123) (K : mjGo mjTb mjMt sc (7 + 1) 188 (203, [some (.ref 240), some (.long N), none], [], w) P) : mjGo mjTb mjMt sc (7 + 1) 188 (191, [some (.ref 240), some (.long N), none], [], w) P := by
  refine g_L (v := .long N) (n := 1) M_188 q_188_191 rfl ?_
  refine g_P (v := .long (1953067123 : Int64)) (n := 3) M_188 q_188_192 rfl ?_
  refine h_lcmp M_188 q_188_195 (fun u hu => ?_)
  refine g_if M_188 q_188_196 mjCz_ne (fun b => K) (fun b => ?_)
  rcases hu with q | q
  · exact absurd q.2 hne
  · exact absurd q.1 b
theorem RL_t191 {sc : List Int32} {P : Option Value → MjW → Prop} {w : MjW} {N : Int64} (hN : N = 1953067123) (K : mjGo mjTb mjMt sc (7 + 1) 188 (199, [some (.ref 240), some (.long N), none], [], w) P) : mjGo mjTb mjMt sc (7 + 1) 188 (191, [some (.ref 240), some (.long N), none], [], w) P := by
  refine g_L (v := .long N) (n := 1) M_188 q_188_191 rfl ?_
  refine g_P (v := .long (1953067123 : Int64)) (n := 3) M_188 q_188_192 rfl ?_
  refine h_lcmp M_188 q_188_195 (fun u hu => ?_)
  refine g_if M_188 q_188_196 mjCz_ne (fun b => ?_) (fun b => K)
  rcases hu with q | q
  · exact absurd q.1 b
  · exact absurd hN q.2
theorem RL_s203 {sc : List Int32} {P : Option Value → MjW → Prop} {w : MjW} {N : Int64} (hne : N ≠ 439721159795) (K : mjGo mjTb mjMt sc (7 + 1) 188 (228, [some (.ref 240), some (.long N), none], [], w) P) : mjGo mjTb mjMt sc (7 + 1) 188 (203, [some (.ref 240), some (.long N), none], [], w) P := by
  refine g_L (v := .long N) (n := 1) M_188 q_188_203 rfl ?_
  refine g_P (v := .long (439721159795 : Int64)) (n := 3) M_188 q_188_204 rfl ?_
  refine h_lcmp M_188 q_188_207 (fun u hu => ?_)
  refine g_if M_188 q_188_208 mjCz_ne (fun b => K) (fun b => ?_)
  rcases hu with q | q
  · exact absurd q.2 hne
  · exact absurd q.1 b
theorem RL_t203 {sc : List Int32} {P : Option Value → MjW → Prop} {w : MjW} {N : Int64} (hN : N = 439721159795) (K : mjGo mjTb mjMt sc (7 + 1) 188 (211, [some (.ref 240), some (.long N), none], [], w) P) : mjGo mjTb mjMt sc (7 + 1) 188 (203, [some (.ref 240), some (.long N), none], [], w) P := by
  refine g_L (v := .long N) (n := 1) M_188 q_188_203 rfl ?_
  refine g_P (v := .long (439721159795 : Int64)) (n := 3) M_188 q_188_204 rfl ?_
  refine h_lcmp M_188 q_188_207 (fun u hu => ?_)
  refine g_if M_188 q_188_208 mjCz_ne (fun b => ?_) (fun b => K)
  rcases hu with q | q
  · exact absurd q.1 b
  · exact absurd hN q.2
theorem RL_s228 {sc : List Int32} {P : Option Value → MjW → Prop} {w : MjW} {N : Int64} (hne : N ≠ 2003398244) (K : mjGo mjTb mjMt sc (7 + 1) 188 (253, [some (.ref 240), some (.long N), none], [], w) P) : mjGo mjTb mjMt sc (7 + 1) 188 (228, [some (.ref 240), some (.long N), none], [], w) P := by
  refine g_L (v := .long N) (n := 1) M_188 q_188_228 rfl ?_
  refine g_P (v := .long (2003398244 : Int64)) (n := 3) M_188 q_188_229 rfl ?_
  refine h_lcmp M_188 q_188_232 (fun u hu => ?_)
  refine g_if M_188 q_188_233 mjCz_ne (fun b => K) (fun b => ?_)
  rcases hu with q | q
  · exact absurd q.2 hne
  · exact absurd q.1 b
theorem RL_t228 {sc : List Int32} {P : Option Value → MjW → Prop} {w : MjW} {N : Int64} (hN : N = 2003398244) (K : mjGo mjTb mjMt sc (7 + 1) 188 (236, [some (.ref 240), some (.long N), none], [], w) P) : mjGo mjTb mjMt sc (7 + 1) 188 (228, [some (.ref 240), some (.long N), none], [], w) P := by
  refine g_L (v := .long N) (n := 1) M_188 q_188_228 rfl ?_
  refine g_P (v := .long (2003398244 : Int64)) (n := 3) M_188 q_188_229 rfl ?_
  refine h_lcmp M_188 q_188_232 (fun u hu => ?_)
  refine g_if M_188 q_188_233 mjCz_ne (fun b => ?_) (fun b => K)
  rcases hu with q | q
  · exact absurd q.1 b
  · exact absurd hN q.2
theorem RL_s253 {sc : List Int32} {P : Option Value → MjW → Prop} {w : MjW} {N : Int64} (hne : N ≠ 1685217655) (K : mjGo mjTb mjMt sc (7 + 1) 188 (279, [some (.ref 240), some (.long N), none], [], w) P) : mjGo mjTb mjMt sc (7 + 1) 188 (253, [some (.ref 240), some (.long N), none], [], w) P := by
  refine g_L (v := .long N) (n := 1) M_188 q_188_253 rfl ?_
  refine g_P (v := .long (1685217655 : Int64)) (n := 3) M_188 q_188_254 rfl ?_
  refine h_lcmp M_188 q_188_257 (fun u hu => ?_)
  refine g_if M_188 q_188_258 mjCz_ne (fun b => K) (fun b => ?_)
  rcases hu with q | q
  · exact absurd q.2 hne
  · exact absurd q.1 b
theorem RL_t253 {sc : List Int32} {P : Option Value → MjW → Prop} {w : MjW} {N : Int64} (hN : N = 1685217655) (K : mjGo mjTb mjMt sc (7 + 1) 188 (261, [some (.ref 240), some (.long N), none], [], w) P) : mjGo mjTb mjMt sc (7 + 1) 188 (253, [some (.ref 240), some (.long N), none], [], w) P := by
  refine g_L (v := .long N) (n := 1) M_188 q_188_253 rfl ?_
  refine g_P (v := .long (1685217655 : Int64)) (n := 3) M_188 q_188_254 rfl ?_
  refine h_lcmp M_188 q_188_257 (fun u hu => ?_)
  refine g_if M_188 q_188_258 mjCz_ne (fun b => ?_) (fun b => K)
  rcases hu with q | q
  · exact absurd q.1 b
  · exact absurd hN q.2
theorem RB_0 {sc : List Int32} {b : Nat} {P : Option Value → MjW → Prop} {w : MjW} {N : Int64} (h : m4RI b w) (hg : (m4X w 240 4).toInt = 0) (K : ∀ w1 : MjW, m4RI b w1 → m4Kd b w w1 → ((m4X w1 240 4).toInt = 0 → m4Mu w1 ≤ m4Mu w) → mjGo mjTb mjMt sc (7 + 1) 188 (107, [some (.ref 240), some (.long N), none], [], w1) P) : mjGo mjTb mjMt sc (7 + 1) 188 (90, [some (.ref 240), some (.long N), none], [], w) P := by
  have Tw := h.1
  have he := h.2.1
  have hb := h.2.2.1
  have h43 := h.2.2.2.1
  have k_0 := c_0
  have k_1 := c_1
  have k_6 := c_6
  refine g_L (v := .ref 240) (n := 1) M_188 q_188_90 rfl ?_
  refine h_get M_188 q_188_91 Tw ro_240 (by decide) kd_241 (fr_240_11 Tw) ?_
  refine g_L (v := .ref 240) (n := 1) M_188 q_188_94 rfl ?_
  have bw_240_43 := (fi_240_43 Tw).2
  refine h_get M_188 q_188_95 Tw ro_240 (by decide) kd_241 (fi_240_43 Tw).1 ?_
  refine g_L (v := .ref 240) (n := 1) M_188 q_188_98 rfl ?_
  refine g_A (st1 := [.int (0 : Int32), .ref 240, .int (m4X w 240 43), .ref 243]) M_188 q_188_99 rfl ?_
  refine g_A (st1 := [.int (1 : Int32), .int (0 : Int32), .ref 240, .int (m4X w 240 43), .ref 243]) M_188 q_188_100 rfl ?_
  refine g_P (v := .int (6 : Int32)) (n := 2) M_188 q_188_101 rfl ?_
  refine g_call (d := 7) (y1 := 194) (as := [.ref 240, .int (0 : Int32), .int (1 : Int32), .int (6 : Int32)]) (rest := [.int (m4X w 240 43), .ref 243]) (M1 := mjM_194) (d1 := 5) (ls0 := [some (.ref 240), some (.int (0 : Int32)), some (.int (1 : Int32)), some (.int (6 : Int32))]) M_188 q_188_103 (h_cv Tw ro_240 (by decide) kd_241 (by decide) (show 3 ≤ 6 by decide) rfl (show 2 ≤ 8 by decide)) M_194 (show 4 ≤ 4 by decide) (by decide) rfl (by decide) (H_once0 h hg) ?_
  rintro r w1 ⟨ri, kd, mu, u, rfl, u1, u2⟩
  have Tw1 := ri.1
  show mjGo mjTb mjMt sc _ 188 (106, [some (.ref 240), some (.long N), none], [.int u, .int (m4X w 240 43), .ref 243], w1) _
  refine h_ast (j := (m4X w 240 43).toInt.toNat) M_188 q_188_106 Tw1 ro_243 (by decide) kd_244 ln_244 (by omega) (by omega) (m4_hasI (ta_244 _) (by omega) (by omega)) (fun w2 Tw2 Uw2 => ?_)
  have tw2_243_x := Uw2.at
  have tw2_240_4 := Uw2.ne (b := 240) (j := 4) (by first | decide | (left; decide) | (right; omega) | (left; omega))
  have tw2_240_7 := Uw2.ne (b := 240) (j := 7) (by first | decide | (left; decide) | (right; omega) | (left; omega))
  have tw2_240_8 := Uw2.ne (b := 240) (j := 8) (by first | decide | (left; decide) | (right; omega) | (left; omega))
  have mi := m4Mu_eq (w := w1) (w1 := w2) (by omega) (by omega)
  exact K w2 (m4RI_lan ri Tw2 Uw2 (by omega) u1 u2) (kd.trans (m4Kd_up Uw2 (by unfold m4Kq; omega))) (fun _ => by omega)
theorem RB_1 {sc : List Int32} {b : Nat} {P : Option Value → MjW → Prop} {w : MjW} {N : Int64} (h : m4RI b w) (hg : (m4X w 240 4).toInt = 0) (K : ∀ w1 : MjW, m4RI b w1 → m4Kd b w w1 → ((m4X w1 240 4).toInt = 0 → m4Mu w1 ≤ m4Mu w) → mjGo mjTb mjMt sc (7 + 1) 188 (131, [some (.ref 240), some (.long N), none], [], w1) P) : mjGo mjTb mjMt sc (7 + 1) 188 (115, [some (.ref 240), some (.long N), none], [], w) P := by
  have Tw := h.1
  have he := h.2.1
  have hb := h.2.2.1
  have h43 := h.2.2.2.1
  have k_1 := c_1
  have k_5 := c_5
  refine g_L (v := .ref 240) (n := 1) M_188 q_188_115 rfl ?_
  refine h_get M_188 q_188_116 Tw ro_240 (by decide) kd_241 (fr_240_12 Tw) ?_
  refine g_L (v := .ref 240) (n := 1) M_188 q_188_119 rfl ?_
  have bw_240_43 := (fi_240_43 Tw).2
  refine h_get M_188 q_188_120 Tw ro_240 (by decide) kd_241 (fi_240_43 Tw).1 ?_
  refine g_L (v := .ref 240) (n := 1) M_188 q_188_123 rfl ?_
  refine g_A (st1 := [.int (1 : Int32), .ref 240, .int (m4X w 240 43), .ref 244]) M_188 q_188_124 rfl ?_
  refine g_A (st1 := [.int (1 : Int32), .int (1 : Int32), .ref 240, .int (m4X w 240 43), .ref 244]) M_188 q_188_125 rfl ?_
  refine g_A (st1 := [.int (5 : Int32), .int (1 : Int32), .int (1 : Int32), .ref 240, .int (m4X w 240 43), .ref 244]) M_188 q_188_126 rfl ?_
  refine g_call (d := 7) (y1 := 194) (as := [.ref 240, .int (1 : Int32), .int (1 : Int32), .int (5 : Int32)]) (rest := [.int (m4X w 240 43), .ref 244]) (M1 := mjM_194) (d1 := 5) (ls0 := [some (.ref 240), some (.int (1 : Int32)), some (.int (1 : Int32)), some (.int (5 : Int32))]) M_188 q_188_127 (h_cv Tw ro_240 (by decide) kd_241 (by decide) (show 3 ≤ 6 by decide) rfl (show 2 ≤ 8 by decide)) M_194 (show 4 ≤ 4 by decide) (by decide) rfl (by decide) (H_once1 h hg) ?_
  rintro r w1 ⟨ri, kd, mu, u, rfl, u1, u2⟩
  have Tw1 := ri.1
  show mjGo mjTb mjMt sc _ 188 (130, [some (.ref 240), some (.long N), none], [.int u, .int (m4X w 240 43), .ref 244], w1) _
  refine h_ast (j := (m4X w 240 43).toInt.toNat) M_188 q_188_130 Tw1 ro_244 (by decide) kd_245 ln_245 (by omega) (by omega) (m4_hasI (ta_245 _) (by omega) (by omega)) (fun w2 Tw2 Uw2 => ?_)
  have tw2_244_x := Uw2.at
  have tw2_240_4 := Uw2.ne (b := 240) (j := 4) (by first | decide | (left; decide) | (right; omega) | (left; omega))
  have tw2_240_7 := Uw2.ne (b := 240) (j := 7) (by first | decide | (left; decide) | (right; omega) | (left; omega))
  have tw2_240_8 := Uw2.ne (b := 240) (j := 8) (by first | decide | (left; decide) | (right; omega) | (left; omega))
  have mi := m4Mu_eq (w := w1) (w1 := w2) (by omega) (by omega)
  exact K w2 (m4RI_row ri Tw2 Uw2 (by omega) u1 u2) (kd.trans (m4Kd_up Uw2 (by unfold m4Kq; omega))) (fun _ => by omega)
theorem RB_8 {sc : List Int32} {b : Nat} {P : Option Value → MjW → Prop} {w : MjW} {N : Int64} (h : m4RI b w) (hg : (m4X w 240 4).toInt = 0) (K : ∀ w1 : MjW, m4RI b w1 → m4Kd b w w1 → ((m4X w1 240 4).toInt = 0 → m4Mu w1 ≤ m4Mu w) → mjGo mjTb mjMt sc (7 + 1) 188 (228, [some (.ref 240), some (.long N), none], [], w1) P) : mjGo mjTb mjMt sc (7 + 1) 188 (211, [some (.ref 240), some (.long N), none], [], w) P := by
  have Tw := h.1
  have he := h.2.1
  have hb := h.2.2.1
  have h43 := h.2.2.2.1
  have k_0 := c_0
  have k_3 := c_3
  have k_9 := c_9
  refine g_L (v := .ref 240) (n := 1) M_188 q_188_211 rfl ?_
  refine h_get M_188 q_188_212 Tw ro_240 (by decide) kd_241 (fr_240_16 Tw) ?_
  refine g_L (v := .ref 240) (n := 1) M_188 q_188_215 rfl ?_
  have bw_240_43 := (fi_240_43 Tw).2
  refine h_get M_188 q_188_216 Tw ro_240 (by decide) kd_241 (fi_240_43 Tw).1 ?_
  refine g_L (v := .ref 240) (n := 1) M_188 q_188_219 rfl ?_
  refine g_A (st1 := [.int (3 : Int32), .ref 240, .int (m4X w 240 43), .ref 248]) M_188 q_188_220 rfl ?_
  refine g_A (st1 := [.int (0 : Int32), .int (3 : Int32), .ref 240, .int (m4X w 240 43), .ref 248]) M_188 q_188_221 rfl ?_
  refine g_P (v := .int (9 : Int32)) (n := 2) M_188 q_188_222 rfl ?_
  refine g_call (d := 7) (y1 := 194) (as := [.ref 240, .int (3 : Int32), .int (0 : Int32), .int (9 : Int32)]) (rest := [.int (m4X w 240 43), .ref 248]) (M1 := mjM_194) (d1 := 5) (ls0 := [some (.ref 240), some (.int (3 : Int32)), some (.int (0 : Int32)), some (.int (9 : Int32))]) M_188 q_188_224 (h_cv Tw ro_240 (by decide) kd_241 (by decide) (show 3 ≤ 6 by decide) rfl (show 2 ≤ 8 by decide)) M_194 (show 4 ≤ 4 by decide) (by decide) rfl (by decide) (H_once3 h hg) ?_
  rintro r w1 ⟨ri, kd, mu, u, rfl, u1, u2⟩
  have Tw1 := ri.1
  show mjGo mjTb mjMt sc _ 188 (227, [some (.ref 240), some (.long N), none], [.int u, .int (m4X w 240 43), .ref 248], w1) _
  refine h_ast (j := (m4X w 240 43).toInt.toNat) M_188 q_188_227 Tw1 ro_248 (by decide) kd_249 ln_249 (by omega) (by omega) (m4_hasI (ta_249 _) (by omega) (by omega)) (fun w2 Tw2 Uw2 => ?_)
  have tw2_248_x := Uw2.at
  have tw2_240_4 := Uw2.ne (b := 240) (j := 4) (by first | decide | (left; decide) | (right; omega) | (left; omega))
  have tw2_240_7 := Uw2.ne (b := 240) (j := 7) (by first | decide | (left; decide) | (right; omega) | (left; omega))
  have tw2_240_8 := Uw2.ne (b := 240) (j := 8) (by first | decide | (left; decide) | (right; omega) | (left; omega))
  have mi := m4Mu_eq (w := w1) (w1 := w2) (by omega) (by omega)
  exact K w2 (m4RI_oth ri Tw2 Uw2 (by omega)) (kd.trans (m4Kd_up Uw2 (by unfold m4Kq; omega))) (fun _ => by omega)
theorem RB_9 {sc : List Int32} {b : Nat} {P : Option Value → MjW → Prop} {w : MjW} {N : Int64} (h : m4RI b w) (hg : (m4X w 240 4).toInt = 0) (K : ∀ w1 : MjW, m4RI b w1 → m4Kd b w w1 → ((m4X w1 240 4).toInt = 0 → m4Mu w1 ≤ m4Mu w) → mjGo mjTb mjMt sc (7 + 1) 188 (253, [some (.ref 240), some (.long N), none], [], w1) P) : mjGo mjTb mjMt sc (7 + 1) 188 (236, [some (.ref 240), some (.long N), none], [], w) P := by
  have Tw := h.1
  have he := h.2.1
  have hb := h.2.2.1
  have h43 := h.2.2.2.1
  have k_0 := c_0
  have k_4 := c_4
  have k_100 := c_100
  refine g_L (v := .ref 240) (n := 1) M_188 q_188_236 rfl ?_
  refine h_get M_188 q_188_237 Tw ro_240 (by decide) kd_241 (fr_240_17 Tw) ?_
  refine g_L (v := .ref 240) (n := 1) M_188 q_188_240 rfl ?_
  have bw_240_43 := (fi_240_43 Tw).2
  refine h_get M_188 q_188_241 Tw ro_240 (by decide) kd_241 (fi_240_43 Tw).1 ?_
  refine g_L (v := .ref 240) (n := 1) M_188 q_188_244 rfl ?_
  refine g_A (st1 := [.int (4 : Int32), .ref 240, .int (m4X w 240 43), .ref 249]) M_188 q_188_245 rfl ?_
  refine g_A (st1 := [.int (0 : Int32), .int (4 : Int32), .ref 240, .int (m4X w 240 43), .ref 249]) M_188 q_188_246 rfl ?_
  refine g_P (v := .int (100 : Int32)) (n := 2) M_188 q_188_247 rfl ?_
  refine g_call (d := 7) (y1 := 194) (as := [.ref 240, .int (4 : Int32), .int (0 : Int32), .int (100 : Int32)]) (rest := [.int (m4X w 240 43), .ref 249]) (M1 := mjM_194) (d1 := 5) (ls0 := [some (.ref 240), some (.int (4 : Int32)), some (.int (0 : Int32)), some (.int (100 : Int32))]) M_188 q_188_249 (h_cv Tw ro_240 (by decide) kd_241 (by decide) (show 3 ≤ 6 by decide) rfl (show 2 ≤ 8 by decide)) M_194 (show 4 ≤ 4 by decide) (by decide) rfl (by decide) (H_once4 h hg) ?_
  rintro r w1 ⟨ri, kd, mu, u, rfl, u1, u2⟩
  have Tw1 := ri.1
  show mjGo mjTb mjMt sc _ 188 (252, [some (.ref 240), some (.long N), none], [.int u, .int (m4X w 240 43), .ref 249], w1) _
  refine h_ast (j := (m4X w 240 43).toInt.toNat) M_188 q_188_252 Tw1 ro_249 (by decide) kd_250 ln_250 (by omega) (by omega) (m4_hasI (ta_250 _) (by omega) (by omega)) (fun w2 Tw2 Uw2 => ?_)
  have tw2_249_x := Uw2.at
  have tw2_240_4 := Uw2.ne (b := 240) (j := 4) (by first | decide | (left; decide) | (right; omega) | (left; omega))
  have tw2_240_7 := Uw2.ne (b := 240) (j := 7) (by first | decide | (left; decide) | (right; omega) | (left; omega))
  have tw2_240_8 := Uw2.ne (b := 240) (j := 8) (by first | decide | (left; decide) | (right; omega) | (left; omega))
  have mi := m4Mu_eq (w := w1) (w1 := w2) (by omega) (by omega)
  exact K w2 (m4RI_oth ri Tw2 Uw2 (by omega)) (kd.trans (m4Kd_up Uw2 (by unfold m4Kq; omega))) (fun _ => by omega)
theorem RB_10 {sc : List Int32} {b : Nat} {P : Option Value → MjW → Prop} {w : MjW} {N : Int64} (h : m4RI b w) (hg : (m4X w 240 4).toInt = 0) (K : ∀ w1 : MjW, m4RI b w1 → m4Kd b w w1 → ((m4X w1 240 4).toInt = 0 → m4Mu w1 ≤ m4Mu w) → mjGo mjTb mjMt sc (7 + 1) 188 (279, [some (.ref 240), some (.long N), none], [], w1) P) : mjGo mjTb mjMt sc (7 + 1) 188 (261, [some (.ref 240), some (.long N), none], [], w) P := by
  have Tw := h.1
  have he := h.2.1
  have hb := h.2.2.1
  have h43 := h.2.2.2.1
  have k_0 := c_0
  have k_5 := c_5
  have k_999 := c_999
  refine g_L (v := .ref 240) (n := 1) M_188 q_188_261 rfl ?_
  refine h_get M_188 q_188_262 Tw ro_240 (by decide) kd_241 (fr_240_18 Tw) ?_
  refine g_L (v := .ref 240) (n := 1) M_188 q_188_265 rfl ?_
  have bw_240_43 := (fi_240_43 Tw).2
  refine h_get M_188 q_188_266 Tw ro_240 (by decide) kd_241 (fi_240_43 Tw).1 ?_
  refine g_L (v := .ref 240) (n := 1) M_188 q_188_269 rfl ?_
  refine g_A (st1 := [.int (5 : Int32), .ref 240, .int (m4X w 240 43), .ref 250]) M_188 q_188_270 rfl ?_
  refine g_A (st1 := [.int (0 : Int32), .int (5 : Int32), .ref 240, .int (m4X w 240 43), .ref 250]) M_188 q_188_271 rfl ?_
  refine g_P (v := .int (999 : Int32)) (n := 3) M_188 q_188_272 rfl ?_
  refine g_call (d := 7) (y1 := 194) (as := [.ref 240, .int (5 : Int32), .int (0 : Int32), .int (999 : Int32)]) (rest := [.int (m4X w 240 43), .ref 250]) (M1 := mjM_194) (d1 := 5) (ls0 := [some (.ref 240), some (.int (5 : Int32)), some (.int (0 : Int32)), some (.int (999 : Int32))]) M_188 q_188_275 (h_cv Tw ro_240 (by decide) kd_241 (by decide) (show 3 ≤ 6 by decide) rfl (show 2 ≤ 8 by decide)) M_194 (show 4 ≤ 4 by decide) (by decide) rfl (by decide) (H_once5 h hg) ?_
  rintro r w1 ⟨ri, kd, mu, u, rfl, u1, u2⟩
  have Tw1 := ri.1
  show mjGo mjTb mjMt sc _ 188 (278, [some (.ref 240), some (.long N), none], [.int u, .int (m4X w 240 43), .ref 250], w1) _
  refine h_ast (j := (m4X w 240 43).toInt.toNat) M_188 q_188_278 Tw1 ro_250 (by decide) kd_251 ln_251 (by omega) (by omega) (m4_hasI (ta_251 _) (by omega) (by omega)) (fun w2 Tw2 Uw2 => ?_)
  have tw2_250_x := Uw2.at
  have tw2_240_4 := Uw2.ne (b := 240) (j := 4) (by first | decide | (left; decide) | (right; omega) | (left; omega))
  have tw2_240_7 := Uw2.ne (b := 240) (j := 7) (by first | decide | (left; decide) | (right; omega) | (left; omega))
  have tw2_240_8 := Uw2.ne (b := 240) (j := 8) (by first | decide | (left; decide) | (right; omega) | (left; omega))
  have mi := m4Mu_eq (w := w1) (w1 := w2) (by omega) (by omega)
  exact K w2 (m4RI_oth ri Tw2 Uw2 (by omega)) (kd.trans (m4Kd_up Uw2 (by unfold m4Kq; omega))) (fun _ => by omega)
theorem RB_2 {sc : List Int32} {b : Nat} {P : Option Value → MjW → Prop} {w : MjW} {N : Int64} (h : m4RI b w) (hg : (m4X w 240 4).toInt = 0) (K : ∀ w1 : MjW, m4RI b w1 → m4Kd b w w1 → ((m4X w1 240 4).toInt = 0 → m4Mu w1 ≤ m4Mu w) → mjGo mjTb mjMt sc (7 + 1) 188 (143, [some (.ref 240), some (.long N), none], [], w1) P) : mjGo mjTb mjMt sc (7 + 1) 188 (139, [some (.ref 240), some (.long N), none], [], w) P := by
  have Tw := h.1
  have he := h.2.1
  have hb := h.2.2.1
  have h43 := h.2.2.2.1
  refine g_L (v := .ref 240) (n := 1) M_188 q_188_139 rfl ?_
  rcases hb with rfl | rfl
  · have hF : mjFs0 m4S w mjSm_r_93.2.1 := by
      intro q hq
      rcases List.mem_cons.mp hq with e | hq
      · subst e; exact (m4_fsI (a := 240) (k := 43) (lo := 1) (hi := 1) (fi_240_43 Tw).1 (by omega) (by omega))
      cases hq
    refine h_ctr (J := m4Q w (m4Mu w)) (sm := mjSm_r_93) (as := [.ref 240]) (rest := []) (M1 := mjM_196) M_188 q_188_140 (h_cv Tw ro_240 (by decide) kd_241 (by decide) (show 0 ≤ 1 by decide) rfl (show 0 ≤ 8 by decide)) M_196 (show 1 ≤ 2 by decide) (by decide) (by decide) (mjC_r_93 (m4Q_ok _ _) (H_r _ _)) ⟨Tw, m4Q_refl he⟩ ⟨⟨240, rfl, rfl⟩, trivial⟩ hF (fun r w1 hp => ?_)
    obtain ⟨rfl, ⟨T1, Q1⟩, kp⟩ := m4_void2 hp (by decide)
    exact K w1 (m4RI_Q h hg T1 Q1) (m4Kb_Q Q1 kp.1).toKd (fun _ => Q1.2.2)
  · have hF : mjFs0 m4S w mjSm_r_34.2.1 := by
      intro q hq
      rcases List.mem_cons.mp hq with e | hq
      · subst e; exact (m4_fsI (a := 240) (k := 43) (lo := 0) (hi := 0) (fi_240_43 Tw).1 (by omega) (by omega))
      cases hq
    refine h_ctr (J := m4Q w (m4Mu w)) (sm := mjSm_r_34) (as := [.ref 240]) (rest := []) (M1 := mjM_196) M_188 q_188_140 (h_cv Tw ro_240 (by decide) kd_241 (by decide) (show 0 ≤ 1 by decide) rfl (show 0 ≤ 8 by decide)) M_196 (show 1 ≤ 2 by decide) (by decide) (by decide) (mjC_r_34 (m4Q_ok _ _) (H_r _ _)) ⟨Tw, m4Q_refl he⟩ ⟨⟨240, rfl, rfl⟩, trivial⟩ hF (fun r w1 hp => ?_)
    obtain ⟨rfl, ⟨T1, Q1⟩, kp⟩ := m4_void2 hp (by decide)
    exact K w1 (m4RI_Q h hg T1 Q1) (m4Kb_Q Q1 kp.1).toKd (fun _ => Q1.2.2)
theorem RB_3 {sc : List Int32} {b : Nat} {P : Option Value → MjW → Prop} {w : MjW} {N : Int64} (h : m4RI b w) (hg : (m4X w 240 4).toInt = 0) (K : ∀ w1 : MjW, m4RI b w1 → m4Kd b w w1 → ((m4X w1 240 4).toInt = 0 → m4Mu w1 ≤ m4Mu w) → mjGo mjTb mjMt sc (7 + 1) 188 (155, [some (.ref 240), some (.long N), none], [], w1) P) : mjGo mjTb mjMt sc (7 + 1) 188 (151, [some (.ref 240), some (.long N), none], [], w) P := by
  have Tw := h.1
  have he := h.2.1
  have hb := h.2.2.1
  have h43 := h.2.2.2.1
  refine g_L (v := .ref 240) (n := 1) M_188 q_188_151 rfl ?_
  rcases hb with rfl | rfl
  · have hF : mjFs0 m4S w mjSm_r_95.2.1 := by
      intro q hq
      rcases List.mem_cons.mp hq with e | hq
      · subst e; exact (m4_fsI (a := 240) (k := 43) (lo := 1) (hi := 1) (fi_240_43 Tw).1 (by omega) (by omega))
      cases hq
    refine h_ctr (J := m4Q w (m4Mu w)) (sm := mjSm_r_95) (as := [.ref 240]) (rest := []) (M1 := mjM_199) M_188 q_188_152 (h_cv Tw ro_240 (by decide) kd_241 (by decide) (show 0 ≤ 1 by decide) rfl (show 0 ≤ 8 by decide)) M_199 (show 1 ≤ 3 by decide) (by decide) (by decide) (mjC_r_95 (m4Q_ok _ _) (H_r _ _)) ⟨Tw, m4Q_refl he⟩ ⟨⟨240, rfl, rfl⟩, trivial⟩ hF (fun r w1 hp => ?_)
    obtain ⟨rfl, ⟨T1, Q1⟩, kp⟩ := m4_void2 hp (by decide)
    exact K w1 (m4RI_Q h hg T1 Q1) (m4Kb_Q Q1 kp.1).toKd (fun _ => Q1.2.2)
  · have hF : mjFs0 m4S w mjSm_r_40.2.1 := by
      intro q hq
      rcases List.mem_cons.mp hq with e | hq
      · subst e; exact (m4_fsI (a := 240) (k := 43) (lo := 0) (hi := 0) (fi_240_43 Tw).1 (by omega) (by omega))
      cases hq
    refine h_ctr (J := m4Q w (m4Mu w)) (sm := mjSm_r_40) (as := [.ref 240]) (rest := []) (M1 := mjM_199) M_188 q_188_152 (h_cv Tw ro_240 (by decide) kd_241 (by decide) (show 0 ≤ 1 by decide) rfl (show 0 ≤ 8 by decide)) M_199 (show 1 ≤ 3 by decide) (by decide) (by decide) (mjC_r_40 (m4Q_ok _ _) (H_r _ _)) ⟨Tw, m4Q_refl he⟩ ⟨⟨240, rfl, rfl⟩, trivial⟩ hF (fun r w1 hp => ?_)
    obtain ⟨rfl, ⟨T1, Q1⟩, kp⟩ := m4_void2 hp (by decide)
    exact K w1 (m4RI_Q h hg T1 Q1) (m4Kb_Q Q1 kp.1).toKd (fun _ => Q1.2.2)
theorem RB_4 {sc : List Int32} {b : Nat} {P : Option Value → MjW → Prop} {w : MjW} {N : Int64} (h : m4RI b w) (hg : (m4X w 240 4).toInt = 0) (K : ∀ w1 : MjW, m4RI b w1 → m4Kd b w w1 → ((m4X w1 240 4).toInt = 0 → m4Mu w1 ≤ m4Mu w) → mjGo mjTb mjMt sc (7 + 1) 188 (167, [some (.ref 240), some (.long N), none], [], w1) P) : mjGo mjTb mjMt sc (7 + 1) 188 (163, [some (.ref 240), some (.long N), none], [], w) P := by
  have Tw := h.1
  have he := h.2.1
  have hb := h.2.2.1
  have h43 := h.2.2.2.1
  refine g_L (v := .ref 240) (n := 1) M_188 q_188_163 rfl ?_
  rcases hb with rfl | rfl
  · have hF : mjFs0 m4S w mjSm_r_96.2.1 := by
      intro q hq
      rcases List.mem_cons.mp hq with e | hq
      · subst e; exact (m4_fsI (a := 240) (k := 43) (lo := 1) (hi := 1) (fi_240_43 Tw).1 (by omega) (by omega))
      cases hq
    refine h_ctr (J := m4Q w (m4Mu w)) (sm := mjSm_r_96) (as := [.ref 240]) (rest := []) (M1 := mjM_201) M_188 q_188_164 (h_cv Tw ro_240 (by decide) kd_241 (by decide) (show 0 ≤ 1 by decide) rfl (show 0 ≤ 8 by decide)) M_201 (show 1 ≤ 3 by decide) (by decide) (by decide) (mjC_r_96 (m4Q_ok _ _) (H_r _ _)) ⟨Tw, m4Q_refl he⟩ ⟨⟨240, rfl, rfl⟩, trivial⟩ hF (fun r w1 hp => ?_)
    obtain ⟨rfl, ⟨T1, Q1⟩, kp⟩ := m4_void2 hp (by decide)
    exact K w1 (m4RI_Q h hg T1 Q1) (m4Kb_Q Q1 kp.1).toKd (fun _ => Q1.2.2)
  · have hF : mjFs0 m4S w mjSm_r_43.2.1 := by
      intro q hq
      rcases List.mem_cons.mp hq with e | hq
      · subst e; exact (m4_fsI (a := 240) (k := 43) (lo := 0) (hi := 0) (fi_240_43 Tw).1 (by omega) (by omega))
      cases hq
    refine h_ctr (J := m4Q w (m4Mu w)) (sm := mjSm_r_43) (as := [.ref 240]) (rest := []) (M1 := mjM_201) M_188 q_188_164 (h_cv Tw ro_240 (by decide) kd_241 (by decide) (show 0 ≤ 1 by decide) rfl (show 0 ≤ 8 by decide)) M_201 (show 1 ≤ 3 by decide) (by decide) (by decide) (mjC_r_43 (m4Q_ok _ _) (H_r _ _)) ⟨Tw, m4Q_refl he⟩ ⟨⟨240, rfl, rfl⟩, trivial⟩ hF (fun r w1 hp => ?_)
    obtain ⟨rfl, ⟨T1, Q1⟩, kp⟩ := m4_void2 hp (by decide)
    exact K w1 (m4RI_Q h hg T1 Q1) (m4Kb_Q Q1 kp.1).toKd (fun _ => Q1.2.2)
theorem RB_5 {sc : List Int32} {b : Nat} {P : Option Value → MjW → Prop} {w : MjW} {N : Int64} (h : m4RI b w) (hg : (m4X w 240 4).toInt = 0) (hx : (m4X w 245 (1 - b)).toInt ≤ 4) (K : ∀ w1 : MjW, m4RI b w1 → m4Kd b w w1 → ((m4X w1 240 4).toInt = 0 → m4Mu w1 ≤ m4Mu w) → mjGo mjTb mjMt sc (7 + 1) 188 (179, [some (.ref 240), some (.long N), none], [], w1) P) : mjGo mjTb mjMt sc (7 + 1) 188 (175, [some (.ref 240), some (.long N), none], [], w) P := by
  have Tw := h.1
  have he := h.2.1
  have hb := h.2.2.1
  have h43 := h.2.2.2.1
  refine g_L (v := .ref 240) (n := 1) M_188 q_188_175 rfl ?_
  rcases hb with rfl | rfl
  · have hF : mjFs0 m4S w mjSm_r_98.2.1 := by
      intro q hq
      rcases List.mem_cons.mp hq with e | hq
      · subst e; exact (m4_fsI (a := 240) (k := 43) (lo := 1) (hi := 1) (fi_240_43 Tw).1 (by omega) (by omega))
      rcases List.mem_cons.mp hq with e | hq
      · subst e; exact (m4_fsI (ar_246 Tw ro_245 (j := 1) (by decide)).1 (ar_246 Tw ro_245 (j := 1) (by decide)).2.1 hx)
      cases hq
    refine h_ctr (J := m4Q w (m4Mu w)) (sm := mjSm_r_98) (as := [.ref 240]) (rest := []) (M1 := mjM_202) M_188 q_188_176 (h_cv Tw ro_240 (by decide) kd_241 (by decide) (show 0 ≤ 1 by decide) rfl (show 0 ≤ 8 by decide)) M_202 (show 1 ≤ 2 by decide) (by decide) (by decide) (mjC_r_98 (m4Q_ok _ _) (H_r _ _)) ⟨Tw, m4Q_refl he⟩ ⟨⟨240, rfl, rfl⟩, trivial⟩ hF (fun r w1 hp => ?_)
    obtain ⟨rfl, ⟨T1, Q1⟩, kp⟩ := m4_void2 hp (by decide)
    exact K w1 (m4RI_Q h hg T1 Q1) (m4Kb_Q Q1 kp.1).toKd (fun _ => Q1.2.2)
  · have hF : mjFs0 m4S w mjSm_r_83.2.1 := by
      intro q hq
      rcases List.mem_cons.mp hq with e | hq
      · subst e; exact (m4_fsI (a := 240) (k := 43) (lo := 0) (hi := 0) (fi_240_43 Tw).1 (by omega) (by omega))
      rcases List.mem_cons.mp hq with e | hq
      · subst e; exact (m4_fsI (ar_246 Tw ro_245 (j := 0) (by decide)).1 (ar_246 Tw ro_245 (j := 0) (by decide)).2.1 hx)
      cases hq
    refine h_ctr (J := m4Q w (m4Mu w)) (sm := mjSm_r_83) (as := [.ref 240]) (rest := []) (M1 := mjM_202) M_188 q_188_176 (h_cv Tw ro_240 (by decide) kd_241 (by decide) (show 0 ≤ 1 by decide) rfl (show 0 ≤ 8 by decide)) M_202 (show 1 ≤ 2 by decide) (by decide) (by decide) (mjC_r_83 (m4Q_ok _ _) (H_r _ _)) ⟨Tw, m4Q_refl he⟩ ⟨⟨240, rfl, rfl⟩, trivial⟩ hF (fun r w1 hp => ?_)
    obtain ⟨rfl, ⟨T1, Q1⟩, kp⟩ := m4_void2 hp (by decide)
    exact K w1 (m4RI_Q h hg T1 Q1) (m4Kb_Q Q1 kp.1).toKd (fun _ => Q1.2.2)
theorem RB_6 {sc : List Int32} {b : Nat} {P : Option Value → MjW → Prop} {w : MjW} {N : Int64} (h : m4RI b w) (hg : (m4X w 240 4).toInt = 0) (hx : (m4X w 246 (1 - b)).toInt ≤ 5) (K : ∀ w1 : MjW, m4RI b w1 → m4Kd b w w1 → ((m4X w1 240 4).toInt = 0 → m4Mu w1 ≤ m4Mu w) → mjGo mjTb mjMt sc (7 + 1) 188 (191, [some (.ref 240), some (.long N), none], [], w1) P) : mjGo mjTb mjMt sc (7 + 1) 188 (187, [some (.ref 240), some (.long N), none], [], w) P := by
  have Tw := h.1
  have he := h.2.1
  have hb := h.2.2.1
  have h43 := h.2.2.2.1
  refine g_L (v := .ref 240) (n := 1) M_188 q_188_187 rfl ?_
  rcases hb with rfl | rfl
  · have hF : mjFs0 m4S w mjSm_r_101.2.1 := by
      intro q hq
      rcases List.mem_cons.mp hq with e | hq
      · subst e; exact (m4_fsI (a := 240) (k := 43) (lo := 1) (hi := 1) (fi_240_43 Tw).1 (by omega) (by omega))
      rcases List.mem_cons.mp hq with e | hq
      · subst e; exact (m4_fsI (ar_247 Tw ro_246 (j := 1) (by decide)).1 (ar_247 Tw ro_246 (j := 1) (by decide)).2.1 hx)
      cases hq
    refine h_ctr (J := m4Q w (m4Mu w)) (sm := mjSm_r_101) (as := [.ref 240]) (rest := []) (M1 := mjM_205) M_188 q_188_188 (h_cv Tw ro_240 (by decide) kd_241 (by decide) (show 0 ≤ 1 by decide) rfl (show 0 ≤ 8 by decide)) M_205 (show 1 ≤ 2 by decide) (by decide) (by decide) (mjC_r_101 (m4Q_ok _ _) (H_r _ _)) ⟨Tw, m4Q_refl he⟩ ⟨⟨240, rfl, rfl⟩, trivial⟩ hF (fun r w1 hp => ?_)
    obtain ⟨rfl, ⟨T1, Q1⟩, kp⟩ := m4_void2 hp (by decide)
    exact K w1 (m4RI_Q h hg T1 Q1) (m4Kb_Q Q1 kp.1).toKd (fun _ => Q1.2.2)
  · have hF : mjFs0 m4S w mjSm_r_92.2.1 := by
      intro q hq
      rcases List.mem_cons.mp hq with e | hq
      · subst e; exact (m4_fsI (a := 240) (k := 43) (lo := 0) (hi := 0) (fi_240_43 Tw).1 (by omega) (by omega))
      rcases List.mem_cons.mp hq with e | hq
      · subst e; exact (m4_fsI (ar_247 Tw ro_246 (j := 0) (by decide)).1 (ar_247 Tw ro_246 (j := 0) (by decide)).2.1 hx)
      cases hq
    refine h_ctr (J := m4Q w (m4Mu w)) (sm := mjSm_r_92) (as := [.ref 240]) (rest := []) (M1 := mjM_205) M_188 q_188_188 (h_cv Tw ro_240 (by decide) kd_241 (by decide) (show 0 ≤ 1 by decide) rfl (show 0 ≤ 8 by decide)) M_205 (show 1 ≤ 2 by decide) (by decide) (by decide) (mjC_r_92 (m4Q_ok _ _) (H_r _ _)) ⟨Tw, m4Q_refl he⟩ ⟨⟨240, rfl, rfl⟩, trivial⟩ hF (fun r w1 hp => ?_)
    obtain ⟨rfl, ⟨T1, Q1⟩, kp⟩ := m4_void2 hp (by decide)
    exact K w1 (m4RI_Q h hg T1 Q1) (m4Kb_Q Q1 kp.1).toKd (fun _ => Q1.2.2)
theorem RB_7 {sc : List Int32} {b : Nat} {P : Option Value → MjW → Prop} {w : MjW} {N : Int64} (h : m4RI b w) (hg : (m4X w 240 4).toInt = 0) (ht : (m4X w 251 (1 - b)).toInt / 4 % 2 = 0) (K : ∀ w1 : MjW, m4RI b w1 → m4Kd b w w1 → ((m4X w1 240 4).toInt = 0 → m4Mu w1 ≤ m4Mu w) → mjGo mjTb mjMt sc (7 + 1) 188 (203, [some (.ref 240), some (.long N), none], [], w1) P) : mjGo mjTb mjMt sc (7 + 1) 188 (199, [some (.ref 240), some (.long N), none], [], w) P := by
  have Tw := h.1
  have he := h.2.1
  have hb := h.2.2.1
  have h43 := h.2.2.2.1
  refine g_L (v := .ref 240) (n := 1) M_188 q_188_199 rfl ?_
  refine g_call (d := 7) (y1 := 206) (as := [.ref 240]) (rest := []) (M1 := mjM_206) (d1 := 7) (ls0 := [some (.ref 240)]) M_188 q_188_200 (h_cv Tw ro_240 (by decide) kd_241 (by decide) (show 0 ≤ 1 by decide) rfl (show 0 ≤ 8 by decide)) M_206 (show 1 ≤ 1 by decide) (by decide) rfl (by decide) (H_rule (b := b) (fr := 560 * (1 - (b : Int))) Tw he hb h43 rfl ((h.2.2.2.2 hg).2.2 ht) hg) ?_
  rintro r w1 ⟨rfl, T1, kd, x34, he1, pe⟩
  have e43 := congrArg Int32.toInt (kd.X (a := 240) (k := 43) (by unfold m4Kq; omega))
  refine K w1 ⟨T1, he1, hb, by omega, fun hz => ?_⟩ kd (fun hz => ?_)
  · rcases pe with q | ⟨q1, q2, q3, q4⟩
    · exact absurd hz q
    · refine ⟨by rw [x34 243 _ (Or.inl rfl), x34 244 _ (Or.inr rfl)]; exact (h.2.2.2.2 hg).1, fun _ => q3, fun q => ?_⟩
      exfalso; omega
  · rcases pe with q | ⟨q1, q2, q3, q4⟩
    · exact absurd hz q
    · exact q2
theorem RL_82 {sc : List Int32} {b : Nat} {P : Option Value → MjW → Prop} {w : MjW} {N : Int64} (h : m4RI b w) (hg : (m4X w 240 4).toInt = 0) (hx : N = 1919905645 → (m4X w 245 (1 - b)).toInt ≤ 4) (hy : N = 444351214452 → (m4X w 246 (1 - b)).toInt ≤ 5) (ht : N = 1953067123 → (m4X w 251 (1 - b)).toInt / 4 % 2 = 0) (K : ∀ w1 : MjW, m4RI b w1 → m4Kd b w w1 → ((m4X w1 240 4).toInt = 0 → m4Mu w1 ≤ m4Mu w) → mjGo mjTb mjMt sc (7 + 1) 188 (279, [some (.ref 240), some (.long N), none], [], w1) P) : mjGo mjTb mjMt sc (7 + 1) 188 (82, [some (.ref 240), some (.long N), none], [], w) P := by
  by_cases e0 : N = 465491092851
  · refine RL_t82 e0 (RB_0 h hg (fun w1 r1 k1 m1 => ?_))
    exact (RL_s107 (by rw [e0]; decide +kernel) (RL_s131 (by rw [e0]; decide +kernel) (RL_s143 (by rw [e0]; decide +kernel) (RL_s155 (by rw [e0]; decide +kernel) (RL_s167 (by rw [e0]; decide +kernel) (RL_s179 (by rw [e0]; decide +kernel) (RL_s191 (by rw [e0]; decide +kernel) (RL_s203 (by rw [e0]; decide +kernel) (RL_s228 (by rw [e0]; decide +kernel) (RL_s253 (by rw [e0]; decide +kernel) (K w1 r1 k1 m1)))))))))))
  refine RL_s82 e0 ?_
  by_cases e1 : N = 1919907699
  · refine RL_t107 e1 (RB_1 h hg (fun w1 r1 k1 m1 => ?_))
    exact (RL_s131 (by rw [e1]; decide +kernel) (RL_s143 (by rw [e1]; decide +kernel) (RL_s155 (by rw [e1]; decide +kernel) (RL_s167 (by rw [e1]; decide +kernel) (RL_s179 (by rw [e1]; decide +kernel) (RL_s191 (by rw [e1]; decide +kernel) (RL_s203 (by rw [e1]; decide +kernel) (RL_s228 (by rw [e1]; decide +kernel) (RL_s253 (by rw [e1]; decide +kernel) (K w1 r1 k1 m1))))))))))
  refine RL_s107 e1 ?_
  by_cases e2 : N = 495740481637
  · refine RL_t131 e2 (RB_2 h hg (fun w1 r1 k1 m1 => ?_))
    exact (RL_s143 (by rw [e2]; decide +kernel) (RL_s155 (by rw [e2]; decide +kernel) (RL_s167 (by rw [e2]; decide +kernel) (RL_s179 (by rw [e2]; decide +kernel) (RL_s191 (by rw [e2]; decide +kernel) (RL_s203 (by rw [e2]; decide +kernel) (RL_s228 (by rw [e2]; decide +kernel) (RL_s253 (by rw [e2]; decide +kernel) (K w1 r1 k1 m1)))))))))
  refine RL_s131 e2 ?_
  by_cases e3 : N = 1818846579
  · refine RL_t143 e3 (RB_3 h hg (fun w1 r1 k1 m1 => ?_))
    exact (RL_s155 (by rw [e3]; decide +kernel) (RL_s167 (by rw [e3]; decide +kernel) (RL_s179 (by rw [e3]; decide +kernel) (RL_s191 (by rw [e3]; decide +kernel) (RL_s203 (by rw [e3]; decide +kernel) (RL_s228 (by rw [e3]; decide +kernel) (RL_s253 (by rw [e3]; decide +kernel) (K w1 r1 k1 m1))))))))
  refine RL_s143 e3 ?_
  by_cases e4 : N = 2002873452
  · refine RL_t155 e4 (RB_4 h hg (fun w1 r1 k1 m1 => ?_))
    exact (RL_s167 (by rw [e4]; decide +kernel) (RL_s179 (by rw [e4]; decide +kernel) (RL_s191 (by rw [e4]; decide +kernel) (RL_s203 (by rw [e4]; decide +kernel) (RL_s228 (by rw [e4]; decide +kernel) (RL_s253 (by rw [e4]; decide +kernel) (K w1 r1 k1 m1)))))))
  refine RL_s155 e4 ?_
  by_cases e5 : N = 1919905645
  · refine RL_t167 e5 (RB_5 h hg (hx e5) (fun w1 r1 k1 m1 => ?_))
    exact (RL_s179 (by rw [e5]; decide +kernel) (RL_s191 (by rw [e5]; decide +kernel) (RL_s203 (by rw [e5]; decide +kernel) (RL_s228 (by rw [e5]; decide +kernel) (RL_s253 (by rw [e5]; decide +kernel) (K w1 r1 k1 m1))))))
  refine RL_s167 e5 ?_
  by_cases e6 : N = 444351214452
  · refine RL_t179 e6 (RB_6 h hg (hy e6) (fun w1 r1 k1 m1 => ?_))
    exact (RL_s191 (by rw [e6]; decide +kernel) (RL_s203 (by rw [e6]; decide +kernel) (RL_s228 (by rw [e6]; decide +kernel) (RL_s253 (by rw [e6]; decide +kernel) (K w1 r1 k1 m1)))))
  refine RL_s179 e6 ?_
  by_cases e7 : N = 1953067123
  · refine RL_t191 e7 (RB_7 h hg (ht e7) (fun w1 r1 k1 m1 => ?_))
    exact (RL_s203 (by rw [e7]; decide +kernel) (RL_s228 (by rw [e7]; decide +kernel) (RL_s253 (by rw [e7]; decide +kernel) (K w1 r1 k1 m1))))
  refine RL_s191 e7 ?_
  by_cases e8 : N = 439721159795
  · refine RL_t203 e8 (RB_8 h hg (fun w1 r1 k1 m1 => ?_))
    exact (RL_s228 (by rw [e8]; decide +kernel) (RL_s253 (by rw [e8]; decide +kernel) (K w1 r1 k1 m1)))
  refine RL_s203 e8 ?_
  by_cases e9 : N = 2003398244
  · refine RL_t228 e9 (RB_9 h hg (fun w1 r1 k1 m1 => ?_))
    exact (RL_s253 (by rw [e9]; decide +kernel) (K w1 r1 k1 m1))
  refine RL_s228 e9 ?_
  by_cases e10 : N = 1685217655
  · refine RL_t253 e10 (RB_10 h hg (fun w1 r1 k1 m1 => ?_))
    exact (K w1 r1 k1 m1)
  refine RL_s253 e10 ?_
  exact K w h m4Kd.refl (fun _ => Int.le_refl _)
theorem RL_36 {sc : List Int32} {P : Option Value → MjW → Prop} {w : MjW} {N : Int64} (Tw : mjTyd m4S w) (K : ∀ (w1 : MjW) (v : Int32), mjTyd m4S w1 → m4Up w w1 240 48 (.int v) → mjGo mjTb mjMt sc (7 + 1) 188 (82, [some (.ref 240), some (.long N), none], [], w1) P) : mjGo mjTb mjMt sc (7 + 1) 188 (36, [some (.ref 240), some (.long N), none], [], w) P := by
  have k_0 := c_0
  have k_1 := c_1
  refine g_L (v := .ref 240) (n := 1) M_188 q_188_36 rfl ?_
  refine g_A (st1 := [.ref 240, .ref 240]) M_188 q_188_37 rfl ?_
  have bw_240_48 := (fi_240_48 Tw).2
  refine h_get M_188 q_188_38 Tw ro_240 (by decide) kd_241 (fi_240_48 Tw).1 ?_
  refine g_L (v := .long N) (n := 1) M_188 q_188_41 rfl ?_
  refine g_P (v := .long (495740481637 : Int64)) (n := 3) M_188 q_188_42 rfl ?_
  refine h_lcmp M_188 q_188_45 (fun u1 hu1 => ?_)
  refine g_if M_188 q_188_46 mjCz_eq (fun b2 => ?_) (fun b2 => ?_)
  · refine g_A (st1 := [.int (1 : Int32), .int (m4X w 240 48), .ref 240]) M_188 q_188_73 rfl ?_
    refine g_goto M_188 q_188_74 ?_
    refine h_ior1 M_188 q_188_78 (by omega) (by omega) (by omega) (by omega) (fun u3 hu3a hu3b => ?_)
    refine h_put M_188 q_188_79 Tw ro_240 (by decide) kd_241 ln_241 (by decide) (m4_fitZ rfl (by omega) (by omega)) (m4_hasI ty_241_48 (by omega) (by omega)) (fun w4 Tw4 Uw4 => ?_)
    have tw4_240_48 := Uw4.at
    exact K w4 _ Tw4 Uw4
  · refine g_L (v := .long N) (n := 1) M_188 q_188_49 rfl ?_
    refine g_P (v := .long (1818846579 : Int64)) (n := 3) M_188 q_188_50 rfl ?_
    refine h_lcmp M_188 q_188_53 (fun u5 hu5 => ?_)
    refine g_if M_188 q_188_54 mjCz_eq (fun b6 => ?_) (fun b6 => ?_)
    · refine g_A (st1 := [.int (1 : Int32), .int (m4X w 240 48), .ref 240]) M_188 q_188_73 rfl ?_
      refine g_goto M_188 q_188_74 ?_
      refine h_ior1 M_188 q_188_78 (by omega) (by omega) (by omega) (by omega) (fun u7 hu7a hu7b => ?_)
      refine h_put M_188 q_188_79 Tw ro_240 (by decide) kd_241 ln_241 (by decide) (m4_fitZ rfl (by omega) (by omega)) (m4_hasI ty_241_48 (by omega) (by omega)) (fun w8 Tw8 Uw8 => ?_)
      have tw8_240_48 := Uw8.at
      exact K w8 _ Tw8 Uw8
    · refine g_L (v := .long N) (n := 1) M_188 q_188_57 rfl ?_
      refine g_P (v := .long (2002873452 : Int64)) (n := 3) M_188 q_188_58 rfl ?_
      refine h_lcmp M_188 q_188_61 (fun u9 hu9 => ?_)
      refine g_if M_188 q_188_62 mjCz_eq (fun b10 => ?_) (fun b10 => ?_)
      · refine g_A (st1 := [.int (1 : Int32), .int (m4X w 240 48), .ref 240]) M_188 q_188_73 rfl ?_
        refine g_goto M_188 q_188_74 ?_
        refine h_ior1 M_188 q_188_78 (by omega) (by omega) (by omega) (by omega) (fun u11 hu11a hu11b => ?_)
        refine h_put M_188 q_188_79 Tw ro_240 (by decide) kd_241 ln_241 (by decide) (m4_fitZ rfl (by omega) (by omega)) (m4_hasI ty_241_48 (by omega) (by omega)) (fun w12 Tw12 Uw12 => ?_)
        have tw12_240_48 := Uw12.at
        exact K w12 _ Tw12 Uw12
      · refine g_L (v := .long N) (n := 1) M_188 q_188_65 rfl ?_
        refine g_P (v := .long (1919905645 : Int64)) (n := 3) M_188 q_188_66 rfl ?_
        refine h_lcmp M_188 q_188_69 (fun u13 hu13 => ?_)
        refine g_if M_188 q_188_70 mjCz_ne (fun b14 => ?_) (fun b14 => ?_)
        · refine g_A (st1 := [.int (0 : Int32), .int (m4X w 240 48), .ref 240]) M_188 q_188_77 rfl ?_
          refine h_ior1 M_188 q_188_78 (by omega) (by omega) (by omega) (by omega) (fun u15 hu15a hu15b => ?_)
          refine h_put M_188 q_188_79 Tw ro_240 (by decide) kd_241 ln_241 (by decide) (m4_fitZ rfl (by omega) (by omega)) (m4_hasI ty_241_48 (by omega) (by omega)) (fun w16 Tw16 Uw16 => ?_)
          have tw16_240_48 := Uw16.at
          exact K w16 _ Tw16 Uw16
        · refine g_A (st1 := [.int (1 : Int32), .int (m4X w 240 48), .ref 240]) M_188 q_188_73 rfl ?_
          refine g_goto M_188 q_188_74 ?_
          refine h_ior1 M_188 q_188_78 (by omega) (by omega) (by omega) (by omega) (fun u17 hu17a hu17b => ?_)
          refine h_put M_188 q_188_79 Tw ro_240 (by decide) kd_241 ln_241 (by decide) (m4_fitZ rfl (by omega) (by omega)) (m4_hasI ty_241_48 (by omega) (by omega)) (fun w18 Tw18 Uw18 => ?_)
          have tw18_240_48 := Uw18.at
          exact K w18 _ Tw18 Uw18
theorem H_mustBad {sc : List Int32} {w : MjW} {v : Int32} (Tw : mjTyd m4S w) (hz : ¬ (m4X w 240 4).toInt = 0) : mjGo mjTb mjMt sc (0 + 1) 198 (0, [some (.ref 240), some (.int v)], [], w) (fun r w1 => r = none ∧ w1 = w) := by
  refine g_L (v := .ref 240) (n := 1) M_198 q_198_0 rfl ?_
  refine h_run (as := [.ref 240]) (rest := []) (M1 := mjM_187) (d1 := 0) (ls0 := [some (.ref 240)]) M_198 q_198_1 (h_cv Tw ro_240 (by decide) kd_241 (by decide) (show 0 ≤ 1 by decide) rfl (show 0 ≤ 8 by decide)) M_187 (show 1 ≤ 1 by decide) (by decide) rfl (by omega) (H_isGood Tw) (fun u1 hu1 => ?_)
  refine g_if M_198 q_198_4 mjCz_ne (fun b2 => ?_) (fun b2 => ?_)
  · exfalso; omega
  · refine g_ret (v := none) M_198 q_198_7 rfl ?_
    exact ⟨rfl, rfl⟩
theorem RL_279 {sc : List Int32} {b : Nat} {P : Option Value → MjW → Prop} {w : MjW} {N : Int64} (h : m4RI b w) (K : ∀ w1 : MjW, m4RI b w1 → m4Kd b w w1 → ((m4X w1 240 4).toInt = 0 → (m4X w 240 4).toInt = 0 ∧ m4Mu w1 ≤ m4Mu w) → P none w1) : mjGo mjTb mjMt sc (7 + 1) 188 (279, [some (.ref 240), some (.long N), none], [], w) P := by
  have Tw := h.1
  have he := h.2.1
  have hb := h.2.2.1
  have h43 := h.2.2.2.1
  have k_59 := c_59
  refine g_L (v := .ref 240) (n := 1) M_188 q_188_279 rfl ?_
  refine g_L (v := .ref 240) (n := 1) M_188 q_188_280 rfl ?_
  refine g_P (v := .int (59 : Int32)) (n := 2) M_188 q_188_281 rfl ?_
  refine h_run (as := [.ref 240, .int (59 : Int32)]) (rest := [.ref 240]) (M1 := mjM_210) (d1 := 1) (ls0 := [some (.ref 240), some (.int (59 : Int32))]) M_188 q_188_283 (h_cv Tw ro_240 (by decide) kd_241 (by decide) (show 1 ≤ 3 by decide) rfl (show 1 ≤ 8 by decide)) M_210 (show 2 ≤ 2 by decide) (by decide) rfl (by omega) (H_isSignHere Tw) (fun u1 hu1 => ?_)
  by_cases hz : (m4X w 240 4).toInt = 0
  · refine h_ctr (J := m4Q w (m4Mu w)) (sm := mjSm_r_5) (as := [.ref 240, .int u1]) (rest := []) (M1 := mjM_198) M_188 q_188_286 (h_cv Tw ro_240 (by decide) kd_241 (by decide) (show 1 ≤ 2 by decide) rfl (show 0 ≤ 8 by decide)) M_198 (show 2 ≤ 2 by decide) (by decide) (by decide) (mjC_r_5 (m4Q_ok _ _) (H_r _ _)) ⟨Tw, m4Q_refl he⟩ ⟨⟨240, rfl, rfl⟩, ⟨u1, rfl, (show (0 : Int) ≤ u1.toInt by omega), (show u1.toInt ≤ (1 : Int) by omega)⟩, trivial⟩ (fun q hq => by cases hq) (fun r w1 hp => ?_)
    obtain ⟨rfl, ⟨T1, Q1⟩, kp⟩ := m4_void2 hp (by decide)
    refine g_ret (v := none) M_188 q_188_289 rfl ?_
    exact K w1 (m4RI_Q h hz T1 Q1) (m4Kb_Q Q1 kp.1).toKd (fun _ => ⟨hz, Q1.2.2⟩)
  · refine g_call (d := 7) (y1 := 198) (as := [.ref 240, .int u1]) (rest := []) (M1 := mjM_198) (d1 := 1) (ls0 := [some (.ref 240), some (.int u1)]) M_188 q_188_286 (h_cv Tw ro_240 (by decide) kd_241 (by decide) (show 1 ≤ 2 by decide) rfl (show 0 ≤ 8 by decide)) M_198 (show 2 ≤ 2 by decide) (by decide) rfl (by decide) (H_mustBad Tw hz) ?_
    rintro r w1 ⟨rfl, rfl⟩
    refine g_ret (v := none) M_188 q_188_289 rfl ?_
    exact K _ h m4Kd.refl (fun q => absurd q hz)
theorem H_line {sc : List Int32} {b : Nat} {w : MjW} (h : m4RI b w) (hg : (m4X w 240 4).toInt = 0) : mjGo mjTb mjMt sc (7 + 1) 188 (0, [some (.ref 240), none, none], [], w) (fun r w1 => r = none ∧ m4RI b w1 ∧ m4Kd b w w1 ∧ ((m4X w1 240 4).toInt = 0 → m4Mu w1 < m4Mu w)) := by
  have Tw := h.1
  have he := h.2.1
  have hb := h.2.2.1
  have h43 := h.2.2.2.1
  have k_3 := c_3
  refine g_L (v := .ref 240) (n := 1) M_188 q_188_0 rfl ?_
  refine h_get M_188 q_188_1 Tw ro_240 (by decide) kd_241 (fl_240_10 Tw) ?_
  refine g_S (ls1 := [some (.ref 240), some (.long (m4L w 240 10)), none]) (st1 := []) (n := 1) M_188 q_188_4 rfl ?_
  refine g_L (v := .ref 240) (n := 1) M_188 q_188_5 rfl ?_
  have bw_240_8 := (fi_240_8 Tw).2
  refine h_get M_188 q_188_6 Tw ro_240 (by decide) kd_241 (fi_240_8 Tw).1 ?_
  refine g_A (st1 := [.int (3 : Int32), .int (m4X w 240 8)]) M_188 q_188_9 rfl ?_
  refine g_icmp M_188 q_188_10 mjCi_ne (fun b1 => ?_) (fun b1 => ?_)
  · refine g_L (v := .ref 240) (n := 1) M_188 q_188_20 rfl ?_
    refine h_ctr (J := m4Q w (m4Mu w)) (sm := mjSm_r_8) (as := [.ref 240]) (rest := []) (M1 := mjM_192) M_188 q_188_21 (h_cv Tw ro_240 (by decide) kd_241 (by decide) (show 0 ≤ 1 by decide) rfl (show 0 ≤ 8 by decide)) M_192 (show 1 ≤ 1 by decide) (by decide) (by decide) (mjC_r_8 (m4Q_ok _ _) (H_r _ _)) ⟨Tw, m4Q_refl (by omega)⟩ ⟨⟨240, rfl, rfl⟩, trivial⟩ (fun q hq => by cases hq) (fun r w2 hp => ?_)
    obtain ⟨rfl, Tw2, Qw2, kpw2, fkw2⟩ := H_misp hp
    show mjGo mjTb mjMt sc _ 188 (24, [some (.ref 240), some (.long (m4L w 240 10)), none], [], w2) _
    refine g_L (v := .ref 240) (n := 1) M_188 q_188_24 rfl ?_
    refine h_run (as := [.ref 240]) (rest := []) (M1 := mjM_187) (d1 := 0) (ls0 := [some (.ref 240)]) M_188 q_188_25 (h_cv Tw2 ro_240 (by decide) kd_241 (by decide) (show 0 ≤ 1 by decide) rfl (show 0 ≤ 8 by decide)) M_187 (show 1 ≤ 1 by decide) (by decide) rfl (by omega) (H_isGood Tw2) (fun u3 hu3 => ?_)
    refine g_if M_188 q_188_28 mjCz_ne (fun b4 => ?_) (fun b4 => ?_)
    · exfalso; omega
    · refine g_ret (v := none) M_188 q_188_31 rfl ?_
      exact ⟨rfl, m4RI_Q h hg Tw2 Qw2, (m4Kb_Q Qw2 kpw2.1).toKd, fun hz => by omega⟩
  · refine g_L (v := .ref 240) (n := 1) M_188 q_188_13 rfl ?_
    refine h_run (as := [.ref 240]) (rest := []) (M1 := mjM_189) (d1 := 2) (ls0 := [some (.ref 240)]) M_188 q_188_14 (h_cv Tw ro_240 (by decide) kd_241 (by decide) (show 0 ≤ 1 by decide) rfl (show 0 ≤ 8 by decide)) M_189 (show 1 ≤ 1 by decide) (by decide) rfl (by decide) (H_isFull Tw) (fun u5 hu5 => ?_)
    have hu5a := hu5.1
    have hu5b := hu5.2.1
    refine g_if M_188 q_188_17 mjCz_eq (fun b6 => ?_) (fun b6 => ?_)
    · refine g_L (v := .ref 240) (n := 1) M_188 q_188_24 rfl ?_
      refine h_run (as := [.ref 240]) (rest := []) (M1 := mjM_187) (d1 := 0) (ls0 := [some (.ref 240)]) M_188 q_188_25 (h_cv Tw ro_240 (by decide) kd_241 (by decide) (show 0 ≤ 1 by decide) rfl (show 0 ≤ 8 by decide)) M_187 (show 1 ≤ 1 by decide) (by decide) rfl (by omega) (H_isGood Tw) (fun u7 hu7 => ?_)
      refine g_if M_188 q_188_28 mjCz_ne (fun b8 => ?_) (fun b8 => ?_)
      · refine g_L (v := .ref 240) (n := 1) M_188 q_188_32 rfl ?_
        refine g_call (d := 7) (y1 := 181) (as := [.ref 240]) (rest := []) (M1 := mjM_181) (d1 := 2) (ls0 := [some (.ref 240), none, none]) M_188 q_188_33 (h_cv Tw ro_240 (by decide) kd_241 (by decide) (show 0 ≤ 1 by decide) rfl (show 0 ≤ 8 by decide)) M_181 (show 1 ≤ 3 by decide) (by decide) rfl (by decide) (H_goOn (d := 1) (by decide) Tw (by omega)) ?_
        rintro r w9 ⟨rfl, Tw9, kw9, gw9a, gw9b⟩
        have muw9 := m4Mu_go (fi_240_8 Tw9).2.1 gw9b
        have tw9_240_3 := congrArg Int32.toInt (kw9.X (a := 240) (k := 3) ro_240 rfl)
        have tw9_240_4 := congrArg Int32.toInt (kw9.X (a := 240) (k := 4) ro_240 rfl)
        have tw9_240_43 := congrArg Int32.toInt (kw9.X (a := 240) (k := 43) ro_240 rfl)
        show mjGo mjTb mjMt sc _ 188 (36, [some (.ref 240), some (.long (m4L w 240 10)), none], [], w9) _
        have hF := hu5.2.2 (by omega)
        have eR : (m4X w 240 43).toInt.toNat = 1 - b := by omega
        rw [eR] at hF
        have r1 : m4RI b w9 := m4RI_kp h Tw9 gw9a kw9
        have q5 := (ar_246 Tw ro_245 (j := 1 - b) (by omega)).2
        have q6 := (ar_247 Tw ro_246 (j := 1 - b) (by omega)).2
        refine RL_36 Tw9 (fun w2 v T2 U2 => ?_)
        have e4 := congrArg Int32.toInt (U2.X (b := 240) (j := 4) (by omega))
        have mi := m4Mu_eq (w := w9) (w1 := w2) (by rw [U2.X (b := 240) (j := 7) (by omega)]) (by rw [U2.X (b := 240) (j := 8) (by omega)])
        have r2 : m4RI b w2 := m4RI_oth r1 T2 U2 (by omega)
        refine RL_82 r2 (by omega) (fun e => ?_) (fun e => ?_) (fun e => ?_) (fun w3 r3 k3 m3 => ?_)
        · rw [U2.X (b := 245) (j := 1 - b) (by omega), kw9.X (a := 245) (k := 1 - b) ro_245 rfl]; have q := hF.1 e; omega
        · rw [U2.X (b := 246) (j := 1 - b) (by omega), kw9.X (a := 246) (k := 1 - b) ro_246 rfl]; have q := hF.2.1 e; omega
        · rw [U2.X (b := 251) (j := 1 - b) (by omega), kw9.X (a := 251) (k := 1 - b) ro_251 rfl]; exact hF.2.2 e
        refine RL_279 r3 (fun w4 r4 k4 m4 => ?_)
        refine ⟨rfl, r4, (((m4Kb_kp kw9 (by decide)).toKd.trans (m4Kd_up U2 (by unfold m4Kq; omega))).trans k3).trans k4, fun hz => ?_⟩
        have n1 := m4 hz
        have n2 := m3 n1.1
        have n3 := muw9.2 (by omega)
        omega
      · refine g_ret (v := none) M_188 q_188_31 rfl ?_
        exfalso; omega
    · refine g_L (v := .ref 240) (n := 1) M_188 q_188_20 rfl ?_
      refine h_ctr (J := m4Q w (m4Mu w)) (sm := mjSm_r_8) (as := [.ref 240]) (rest := []) (M1 := mjM_192) M_188 q_188_21 (h_cv Tw ro_240 (by decide) kd_241 (by decide) (show 0 ≤ 1 by decide) rfl (show 0 ≤ 8 by decide)) M_192 (show 1 ≤ 1 by decide) (by decide) (by decide) (mjC_r_8 (m4Q_ok _ _) (H_r _ _)) ⟨Tw, m4Q_refl (by omega)⟩ ⟨⟨240, rfl, rfl⟩, trivial⟩ (fun q hq => by cases hq) (fun r w10 hp => ?_)
      obtain ⟨rfl, Tw10, Qw10, kpw10, fkw10⟩ := H_misp hp
      show mjGo mjTb mjMt sc _ 188 (24, [some (.ref 240), some (.long (m4L w 240 10)), none], [], w10) _
      refine g_L (v := .ref 240) (n := 1) M_188 q_188_24 rfl ?_
      refine h_run (as := [.ref 240]) (rest := []) (M1 := mjM_187) (d1 := 0) (ls0 := [some (.ref 240)]) M_188 q_188_25 (h_cv Tw10 ro_240 (by decide) kd_241 (by decide) (show 0 ≤ 1 by decide) rfl (show 0 ≤ 8 by decide)) M_187 (show 1 ≤ 1 by decide) (by decide) rfl (by omega) (H_isGood Tw10) (fun u11 hu11 => ?_)
      refine g_if M_188 q_188_28 mjCz_ne (fun b12 => ?_) (fun b12 => ?_)
      · exfalso; omega
      · refine g_ret (v := none) M_188 q_188_31 rfl ?_
        exact ⟨rfl, m4RI_Q h hg Tw10 Qw10, (m4Kb_Q Qw10 kpw10.1).toKd, fun hz => by omega⟩
