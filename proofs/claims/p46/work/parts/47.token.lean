/-! ===== the parser, by hand ===== -/
theorem h_lcmp {sc : List Int32} {d y pc : Nat} {ls : MjL} {st : List Value} {w : MjW} {P : Option Value → MjW → Prop} {M : MjM} {inf : List Nat} {len : Nat} {x z : Int64} (hM : mjMt y = some M) (hq : mjTb y pc = some (.lcmp, len, 0, inf)) (k : ∀ u : Int32, (u.toInt = 0 ∧ x = z) ∨ (u.toInt ≠ 0 ∧ x ≠ z) → mjGo mjTb mjMt sc d y (pc + 1, ls, .int u :: st, w) P) : mjGo mjTb mjMt sc d y (pc, ls, .long z :: .long x :: st, w) P := by
  refine g_A hM hq rfl (k _ ?_)
  by_cases e : x = z
  · exact Or.inl ⟨by rw [(lg_cmp_eq x z).mpr e]; rfl, e⟩
  · exact Or.inr ⟨fun h => e ((lg_cmp_eq x z).mp (Int32.toInt_inj.mp h)), e⟩
theorem H_isGood {sc : List Int32} {w : MjW} (Tw : mjTyd m4S w) : mjGo mjTb mjMt sc 0 187 (0, [some (.ref 240)], [], w) (fun r w1 => w1 = w ∧ ∃ u : Int32, r = some (.int u) ∧ ((u.toInt = 1 ∧ (m4X w 240 4).toInt = 0) ∨ (u.toInt = 0 ∧ ¬ (m4X w 240 4).toInt = 0))) := by
  have k_0 := c_0
  have k_1 := c_1
  refine g_L (v := .ref 240) (n := 1) M_187 q_187_0 rfl ?_
  have bw_240_4 := (fi_240_4 Tw).2
  refine h_get M_187 q_187_1 Tw ro_240 (by decide) kd_241 (fi_240_4 Tw).1 ?_
  refine g_if M_187 q_187_4 mjCz_ne (fun b1 => ?_) (fun b1 => ?_)
  · refine g_A (st1 := [.int (0 : Int32)]) M_187 q_187_11 rfl ?_
    refine g_ret (v := some (.int (0 : Int32))) M_187 q_187_12 (h_rtZ) ?_
    exact ⟨rfl, _, rfl, by omega⟩
  · refine g_A (st1 := [.int (1 : Int32)]) M_187 q_187_7 rfl ?_
    refine g_goto M_187 q_187_8 ?_
    refine g_ret (v := some (.int (1 : Int32))) M_187 q_187_12 (h_rtZ) ?_
    exact ⟨rfl, _, rfl, by omega⟩
theorem H_isWord {sc : List Int32} {w : MjW} {N : Int64} (Tw : mjTyd m4S w) : mjGo mjTb mjMt sc 0 190 (0, [some (.ref 240), some (.long N), none], [], w) (fun r w1 => w1 = w ∧ ∃ u : Int32, r = some (.int u) ∧ ((u.toInt = 1 ∧ (m4X w 240 8).toInt = 3 ∧ m4L w 240 10 = N) ∨ (u.toInt = 0 ∧ ¬ ((m4X w 240 8).toInt = 3 ∧ m4L w 240 10 = N)))) := by
  have k_0 := c_0
  have k_1 := c_1
  have k_3 := c_3
  refine g_L (v := .ref 240) (n := 1) M_190 q_190_0 rfl ?_
  have bw_240_8 := (fi_240_8 Tw).2
  refine h_get M_190 q_190_1 Tw ro_240 (by decide) kd_241 (fi_240_8 Tw).1 ?_
  refine g_A (st1 := [.int (3 : Int32), .int (m4X w 240 8)]) M_190 q_190_4 rfl ?_
  refine g_icmp M_190 q_190_5 mjCi_ne (fun b1 => ?_) (fun b1 => ?_)
  · refine g_A (st1 := [.int (0 : Int32)]) M_190 q_190_21 rfl ?_
    refine g_ret (v := some (.int (0 : Int32))) M_190 q_190_22 (h_rtZ) ?_
    exact ⟨rfl, _, rfl, Or.inr ⟨rfl, fun h => absurd h.1 (by omega)⟩⟩
  · refine g_L (v := .ref 240) (n := 1) M_190 q_190_8 rfl ?_
    refine h_get M_190 q_190_9 Tw ro_240 (by decide) kd_241 (fl_240_10 Tw) ?_
    refine g_L (v := .long N) (n := 1) M_190 q_190_12 rfl ?_
    refine h_lcmp M_190 q_190_13 (fun u2 hu2 => ?_)
    refine g_if M_190 q_190_14 mjCz_ne (fun b3 => ?_) (fun b3 => ?_)
    · refine g_A (st1 := [.int (0 : Int32)]) M_190 q_190_21 rfl ?_
      refine g_ret (v := some (.int (0 : Int32))) M_190 q_190_22 (h_rtZ) ?_
      refine ⟨rfl, _, rfl, Or.inr ⟨rfl, fun h => ?_⟩⟩
      rcases hu2 with q | q
      · exact absurd q.1 (by omega)
      · exact q.2 h.2
    · refine g_A (st1 := [.int (1 : Int32)]) M_190 q_190_17 rfl ?_
      refine g_goto M_190 q_190_18 ?_
      refine g_ret (v := some (.int (1 : Int32))) M_190 q_190_22 (h_rtZ) ?_
      refine ⟨rfl, _, rfl, Or.inl ⟨rfl, by omega, ?_⟩⟩
      rcases hu2 with q | q
      · exact q.2
      · exfalso; omega
theorem H_isSignHere {sc : List Int32} {w : MjW} {c : Int32} (Tw : mjTyd m4S w) : mjGo mjTb mjMt sc (0 + 1) 210 (0, [some (.ref 240), some (.int c)], [], w) (fun r w1 => w1 = w ∧ ∃ u : Int32, r = some (.int u) ∧ ((u.toInt = 1 ∧ (m4X w 240 8).toInt = 5 ∧ m4Sg w (m4X w 240 6).toInt = c.toInt) ∨ u.toInt = 0)) := by
  have k_0 := c_0
  have k_1 := c_1
  have k_5 := c_5
  refine g_L (v := .ref 240) (n := 1) M_210 q_210_0 rfl ?_
  have bw_240_8 := (fi_240_8 Tw).2
  refine h_get M_210 q_210_1 Tw ro_240 (by decide) kd_241 (fi_240_8 Tw).1 ?_
  refine g_A (st1 := [.int (5 : Int32), .int (m4X w 240 8)]) M_210 q_210_4 rfl ?_
  refine g_icmp M_210 q_210_5 mjCi_ne (fun b1 => ?_) (fun b1 => ?_)
  · refine g_A (st1 := [.int (0 : Int32)]) M_210 q_210_24 rfl ?_
    refine g_ret (v := some (.int (0 : Int32))) M_210 q_210_25 (h_rtZ) ?_
    exact ⟨rfl, _, rfl, by omega⟩
  · refine g_L (v := .ref 240) (n := 1) M_210 q_210_8 rfl ?_
    refine g_L (v := .ref 240) (n := 1) M_210 q_210_9 rfl ?_
    have bw_240_6 := (fi_240_6 Tw).2
    refine h_get M_210 q_210_10 Tw ro_240 (by decide) kd_241 (fi_240_6 Tw).1 ?_
    refine h_run (as := [.ref 240, .int (m4X w 240 6)]) (rest := []) (M1 := mjM_182) (d1 := 0) (ls0 := [some (.ref 240), some (.int (m4X w 240 6))]) M_210 q_210_13 (h_cv Tw ro_240 (by decide) kd_241 (by decide) (show 1 ≤ 2 by decide) rfl (show 0 ≤ 8 by decide)) M_182 (show 2 ≤ 2 by decide) (by decide) rfl (by omega) (H_sign Tw (by omega)) (fun u2 hu2 => ?_)
    obtain ⟨hu2a, hu2b, hu2c, hu2d⟩ := hu2
    refine g_L (v := .int c) (n := 1) M_210 q_210_16 rfl ?_
    refine g_icmp M_210 q_210_17 mjCi_ne (fun b3 => ?_) (fun b3 => ?_)
    · refine g_A (st1 := [.int (0 : Int32)]) M_210 q_210_24 rfl ?_
      refine g_ret (v := some (.int (0 : Int32))) M_210 q_210_25 (h_rtZ) ?_
      exact ⟨rfl, _, rfl, by omega⟩
    · refine g_A (st1 := [.int (1 : Int32)]) M_210 q_210_20 rfl ?_
      refine g_goto M_210 q_210_21 ?_
      refine g_ret (v := some (.int (1 : Int32))) M_210 q_210_25 (h_rtZ) ?_
      exact ⟨rfl, _, rfl, by omega⟩
theorem H_wordHere {sc : List Int32} {w : MjW} (Tw : mjTyd m4S w) : mjGo mjTb mjMt sc (0 + 1) 211 (0, [some (.ref 240)], [], w) (fun r w1 => w1 = w ∧ ∃ u : Int32, r = some (.int u) ∧ ((97 ≤ u.toInt ∧ u.toInt ≤ 122 ∧ (m4X w 240 8).toInt = 3) ∨ u.toInt = 0)) := by
  have k_0 := c_0
  have k_98 := c_98
  have k_104 := c_104
  have k_111 := c_111
  have k_114 := c_114
  have k_115 := c_115
  have k_116 := c_116
  refine g_L (v := .ref 240) (n := 1) M_211 q_211_0 rfl ?_
  refine g_P (v := .long (1936617335 : Int64)) (n := 3) M_211 q_211_1 rfl ?_
  refine h_run (as := [.ref 240, .long (1936617335 : Int64)]) (rest := []) (M1 := mjM_190) (d1 := 0) (ls0 := [some (.ref 240), some (.long (1936617335 : Int64)), none]) M_211 q_211_4 (h_cv Tw ro_240 (by decide) kd_241 (by decide) (show 1 ≤ 2 by decide) rfl (show 0 ≤ 8 by decide)) M_190 (show 3 ≤ 3 by decide) (by decide) rfl (by omega) (H_isWord Tw) (fun u1 hu1 => ?_)
  refine g_if M_211 q_211_7 mjCz_eq (fun b2 => ?_) (fun b2 => ?_)
  · refine g_L (v := .ref 240) (n := 1) M_211 q_211_13 rfl ?_
    refine g_P (v := .long (495874041200 : Int64)) (n := 3) M_211 q_211_14 rfl ?_
    refine h_run (as := [.ref 240, .long (495874041200 : Int64)]) (rest := []) (M1 := mjM_190) (d1 := 0) (ls0 := [some (.ref 240), some (.long (495874041200 : Int64)), none]) M_211 q_211_17 (h_cv Tw ro_240 (by decide) kd_241 (by decide) (show 1 ≤ 2 by decide) rfl (show 0 ≤ 8 by decide)) M_190 (show 3 ≤ 3 by decide) (by decide) rfl (by omega) (H_isWord Tw) (fun u3 hu3 => ?_)
    refine g_if M_211 q_211_20 mjCz_eq (fun b4 => ?_) (fun b4 => ?_)
    · refine g_L (v := .ref 240) (n := 1) M_211 q_211_26 rfl ?_
      refine g_P (v := .long (474315584357 : Int64)) (n := 3) M_211 q_211_27 rfl ?_
      refine h_run (as := [.ref 240, .long (474315584357 : Int64)]) (rest := []) (M1 := mjM_190) (d1 := 0) (ls0 := [some (.ref 240), some (.long (474315584357 : Int64)), none]) M_211 q_211_30 (h_cv Tw ro_240 (by decide) kd_241 (by decide) (show 1 ≤ 2 by decide) rfl (show 0 ≤ 8 by decide)) M_190 (show 3 ≤ 3 by decide) (by decide) rfl (by omega) (H_isWord Tw) (fun u5 hu5 => ?_)
      refine g_if M_211 q_211_33 mjCz_eq (fun b6 => ?_) (fun b6 => ?_)
      · refine g_L (v := .ref 240) (n := 1) M_211 q_211_39 rfl ?_
        refine g_P (v := .long (422608400247 : Int64)) (n := 3) M_211 q_211_40 rfl ?_
        refine h_run (as := [.ref 240, .long (422608400247 : Int64)]) (rest := []) (M1 := mjM_190) (d1 := 0) (ls0 := [some (.ref 240), some (.long (422608400247 : Int64)), none]) M_211 q_211_43 (h_cv Tw ro_240 (by decide) kd_241 (by decide) (show 1 ≤ 2 by decide) rfl (show 0 ≤ 8 by decide)) M_190 (show 3 ≤ 3 by decide) (by decide) rfl (by omega) (H_isWord Tw) (fun u7 hu7 => ?_)
        refine g_if M_211 q_211_46 mjCz_eq (fun b8 => ?_) (fun b8 => ?_)
        · refine g_L (v := .ref 240) (n := 1) M_211 q_211_52 rfl ?_
          refine g_P (v := .long (1752135026 : Int64)) (n := 3) M_211 q_211_53 rfl ?_
          refine h_run (as := [.ref 240, .long (1752135026 : Int64)]) (rest := []) (M1 := mjM_190) (d1 := 0) (ls0 := [some (.ref 240), some (.long (1752135026 : Int64)), none]) M_211 q_211_56 (h_cv Tw ro_240 (by decide) kd_241 (by decide) (show 1 ≤ 2 by decide) rfl (show 0 ≤ 8 by decide)) M_190 (show 3 ≤ 3 by decide) (by decide) rfl (by omega) (H_isWord Tw) (fun u9 hu9 => ?_)
          refine g_if M_211 q_211_59 mjCz_eq (fun b10 => ?_) (fun b10 => ?_)
          · refine g_L (v := .ref 240) (n := 1) M_211 q_211_65 rfl ?_
            refine g_P (v := .long (7499639 : Int64)) (n := 3) M_211 q_211_66 rfl ?_
            refine h_run (as := [.ref 240, .long (7499639 : Int64)]) (rest := []) (M1 := mjM_190) (d1 := 0) (ls0 := [some (.ref 240), some (.long (7499639 : Int64)), none]) M_211 q_211_69 (h_cv Tw ro_240 (by decide) kd_241 (by decide) (show 1 ≤ 2 by decide) rfl (show 0 ≤ 8 by decide)) M_190 (show 3 ≤ 3 by decide) (by decide) rfl (by omega) (H_isWord Tw) (fun u11 hu11 => ?_)
            refine g_if M_211 q_211_72 mjCz_eq (fun b12 => ?_) (fun b12 => ?_)
            · refine g_A (st1 := [.int (0 : Int32)]) M_211 q_211_80 rfl ?_
              refine g_ret (v := some (.int (0 : Int32))) M_211 q_211_81 (h_rtI) ?_
              exact ⟨rfl, _, rfl, by omega⟩
            · refine g_P (v := .int (114 : Int32)) (n := 2) M_211 q_211_75 rfl ?_
              refine g_goto M_211 q_211_77 ?_
              refine g_ret (v := some (.int (114 : Int32))) M_211 q_211_81 (h_rtI) ?_
              exact ⟨rfl, _, rfl, by omega⟩
          · refine g_P (v := .int (104 : Int32)) (n := 2) M_211 q_211_62 rfl ?_
            refine g_ret (v := some (.int (104 : Int32))) M_211 q_211_64 (h_rtI) ?_
            exact ⟨rfl, _, rfl, by omega⟩
        · refine g_P (v := .int (98 : Int32)) (n := 2) M_211 q_211_49 rfl ?_
          refine g_ret (v := some (.int (98 : Int32))) M_211 q_211_51 (h_rtI) ?_
          exact ⟨rfl, _, rfl, by omega⟩
      · refine g_P (v := .int (111 : Int32)) (n := 2) M_211 q_211_36 rfl ?_
        refine g_ret (v := some (.int (111 : Int32))) M_211 q_211_38 (h_rtI) ?_
        exact ⟨rfl, _, rfl, by omega⟩
    · refine g_P (v := .int (116 : Int32)) (n := 2) M_211 q_211_23 rfl ?_
      refine g_ret (v := some (.int (116 : Int32))) M_211 q_211_25 (h_rtI) ?_
      exact ⟨rfl, _, rfl, by omega⟩
  · refine g_P (v := .int (115 : Int32)) (n := 2) M_211 q_211_10 rfl ?_
    refine g_ret (v := some (.int (115 : Int32))) M_211 q_211_12 (h_rtI) ?_
    exact ⟨rfl, _, rfl, by omega⟩
theorem H_rankHere {sc : List Int32} {w : MjW} (Tw : mjTyd m4S w) : mjGo mjTb mjMt sc (1 + 1) 214 (0, [some (.ref 240)], [], w) (fun r w1 => w1 = w ∧ ∃ u : Int32, r = some (.int u) ∧ (u.toInt = 0 ∨ ((u.toInt = 1 ∨ u.toInt = 2) ∧ (m4X w 240 8).toInt = 3) ∨ ((u.toInt = 4 ∨ u.toInt = 5 ∨ u.toInt = 6) ∧ (m4X w 240 8).toInt = 5 ∧ m4Sg w (m4X w 240 6).toInt ≠ 126 ∧ ¬ (97 ≤ m4Sg w (m4X w 240 6).toInt ∧ m4Sg w (m4X w 240 6).toInt ≤ 122)))) := by
  have k_0 := c_0
  have k_1 := c_1
  have k_2 := c_2
  have k_4 := c_4
  have k_5 := c_5
  have k_6 := c_6
  have k_37 := c_37
  have k_42 := c_42
  have k_43 := c_43
  have k_45 := c_45
  have k_47 := c_47
  have k_60 := c_60
  have k_61 := c_61
  have k_62 := c_62
  refine g_L (v := .ref 240) (n := 1) M_214 q_214_0 rfl ?_
  refine g_P (v := .long (6385252 : Int64)) (n := 3) M_214 q_214_1 rfl ?_
  refine h_run (as := [.ref 240, .long (6385252 : Int64)]) (rest := []) (M1 := mjM_190) (d1 := 0) (ls0 := [some (.ref 240), some (.long (6385252 : Int64)), none]) M_214 q_214_4 (h_cv Tw ro_240 (by decide) kd_241 (by decide) (show 1 ≤ 2 by decide) rfl (show 0 ≤ 8 by decide)) M_190 (show 3 ≤ 3 by decide) (by decide) rfl (by omega) (H_isWord Tw) (fun u1 hu1 => ?_)
  refine g_if M_214 q_214_7 mjCz_eq (fun b2 => ?_) (fun b2 => ?_)
  · refine g_L (v := .ref 240) (n := 1) M_214 q_214_12 rfl ?_
    refine g_P (v := .long (28530 : Int64)) (n := 3) M_214 q_214_13 rfl ?_
    refine h_run (as := [.ref 240, .long (28530 : Int64)]) (rest := []) (M1 := mjM_190) (d1 := 0) (ls0 := [some (.ref 240), some (.long (28530 : Int64)), none]) M_214 q_214_16 (h_cv Tw ro_240 (by decide) kd_241 (by decide) (show 1 ≤ 2 by decide) rfl (show 0 ≤ 8 by decide)) M_190 (show 3 ≤ 3 by decide) (by decide) rfl (by omega) (H_isWord Tw) (fun u3 hu3 => ?_)
    refine g_if M_214 q_214_19 mjCz_eq (fun b4 => ?_) (fun b4 => ?_)
    · refine g_L (v := .ref 240) (n := 1) M_214 q_214_24 rfl ?_
      refine g_P (v := .int (60 : Int32)) (n := 2) M_214 q_214_25 rfl ?_
      refine h_run (as := [.ref 240, .int (60 : Int32)]) (rest := []) (M1 := mjM_210) (d1 := 1) (ls0 := [some (.ref 240), some (.int (60 : Int32))]) M_214 q_214_27 (h_cv Tw ro_240 (by decide) kd_241 (by decide) (show 1 ≤ 2 by decide) rfl (show 0 ≤ 8 by decide)) M_210 (show 2 ≤ 2 by decide) (by decide) rfl (by omega) (H_isSignHere Tw) (fun u5 hu5 => ?_)
      refine g_if M_214 q_214_30 mjCz_ne (fun b6 => ?_) (fun b6 => ?_)
      · refine g_A (st1 := [.int (4 : Int32)]) M_214 q_214_51 rfl ?_
        refine g_ret (v := some (.int (4 : Int32))) M_214 q_214_52 (h_rtI) ?_
        exact ⟨rfl, _, rfl, by omega⟩
      · refine g_L (v := .ref 240) (n := 1) M_214 q_214_33 rfl ?_
        refine g_P (v := .int (62 : Int32)) (n := 2) M_214 q_214_34 rfl ?_
        refine h_run (as := [.ref 240, .int (62 : Int32)]) (rest := []) (M1 := mjM_210) (d1 := 1) (ls0 := [some (.ref 240), some (.int (62 : Int32))]) M_214 q_214_36 (h_cv Tw ro_240 (by decide) kd_241 (by decide) (show 1 ≤ 2 by decide) rfl (show 0 ≤ 8 by decide)) M_210 (show 2 ≤ 2 by decide) (by decide) rfl (by omega) (H_isSignHere Tw) (fun u7 hu7 => ?_)
        refine g_if M_214 q_214_39 mjCz_ne (fun b8 => ?_) (fun b8 => ?_)
        · refine g_A (st1 := [.int (4 : Int32)]) M_214 q_214_51 rfl ?_
          refine g_ret (v := some (.int (4 : Int32))) M_214 q_214_52 (h_rtI) ?_
          exact ⟨rfl, _, rfl, by omega⟩
        · refine g_L (v := .ref 240) (n := 1) M_214 q_214_42 rfl ?_
          refine g_P (v := .int (61 : Int32)) (n := 2) M_214 q_214_43 rfl ?_
          refine h_run (as := [.ref 240, .int (61 : Int32)]) (rest := []) (M1 := mjM_210) (d1 := 1) (ls0 := [some (.ref 240), some (.int (61 : Int32))]) M_214 q_214_45 (h_cv Tw ro_240 (by decide) kd_241 (by decide) (show 1 ≤ 2 by decide) rfl (show 0 ≤ 8 by decide)) M_210 (show 2 ≤ 2 by decide) (by decide) rfl (by omega) (H_isSignHere Tw) (fun u9 hu9 => ?_)
          refine g_if M_214 q_214_48 mjCz_eq (fun b10 => ?_) (fun b10 => ?_)
          · refine g_L (v := .ref 240) (n := 1) M_214 q_214_53 rfl ?_
            refine g_P (v := .int (43 : Int32)) (n := 2) M_214 q_214_54 rfl ?_
            refine h_run (as := [.ref 240, .int (43 : Int32)]) (rest := []) (M1 := mjM_210) (d1 := 1) (ls0 := [some (.ref 240), some (.int (43 : Int32))]) M_214 q_214_56 (h_cv Tw ro_240 (by decide) kd_241 (by decide) (show 1 ≤ 2 by decide) rfl (show 0 ≤ 8 by decide)) M_210 (show 2 ≤ 2 by decide) (by decide) rfl (by omega) (H_isSignHere Tw) (fun u11 hu11 => ?_)
            refine g_if M_214 q_214_59 mjCz_ne (fun b12 => ?_) (fun b12 => ?_)
            · refine g_A (st1 := [.int (5 : Int32)]) M_214 q_214_71 rfl ?_
              refine g_ret (v := some (.int (5 : Int32))) M_214 q_214_72 (h_rtI) ?_
              exact ⟨rfl, _, rfl, by omega⟩
            · refine g_L (v := .ref 240) (n := 1) M_214 q_214_62 rfl ?_
              refine g_P (v := .int (45 : Int32)) (n := 2) M_214 q_214_63 rfl ?_
              refine h_run (as := [.ref 240, .int (45 : Int32)]) (rest := []) (M1 := mjM_210) (d1 := 1) (ls0 := [some (.ref 240), some (.int (45 : Int32))]) M_214 q_214_65 (h_cv Tw ro_240 (by decide) kd_241 (by decide) (show 1 ≤ 2 by decide) rfl (show 0 ≤ 8 by decide)) M_210 (show 2 ≤ 2 by decide) (by decide) rfl (by omega) (H_isSignHere Tw) (fun u13 hu13 => ?_)
              refine g_if M_214 q_214_68 mjCz_eq (fun b14 => ?_) (fun b14 => ?_)
              · refine g_L (v := .ref 240) (n := 1) M_214 q_214_73 rfl ?_
                refine g_P (v := .int (42 : Int32)) (n := 2) M_214 q_214_74 rfl ?_
                refine h_run (as := [.ref 240, .int (42 : Int32)]) (rest := []) (M1 := mjM_210) (d1 := 1) (ls0 := [some (.ref 240), some (.int (42 : Int32))]) M_214 q_214_76 (h_cv Tw ro_240 (by decide) kd_241 (by decide) (show 1 ≤ 2 by decide) rfl (show 0 ≤ 8 by decide)) M_210 (show 2 ≤ 2 by decide) (by decide) rfl (by omega) (H_isSignHere Tw) (fun u15 hu15 => ?_)
                refine g_if M_214 q_214_79 mjCz_ne (fun b16 => ?_) (fun b16 => ?_)
                · refine g_P (v := .int (6 : Int32)) (n := 2) M_214 q_214_100 rfl ?_
                  refine g_goto M_214 q_214_102 ?_
                  refine g_ret (v := some (.int (6 : Int32))) M_214 q_214_106 (h_rtI) ?_
                  exact ⟨rfl, _, rfl, by omega⟩
                · refine g_L (v := .ref 240) (n := 1) M_214 q_214_82 rfl ?_
                  refine g_P (v := .int (47 : Int32)) (n := 2) M_214 q_214_83 rfl ?_
                  refine h_run (as := [.ref 240, .int (47 : Int32)]) (rest := []) (M1 := mjM_210) (d1 := 1) (ls0 := [some (.ref 240), some (.int (47 : Int32))]) M_214 q_214_85 (h_cv Tw ro_240 (by decide) kd_241 (by decide) (show 1 ≤ 2 by decide) rfl (show 0 ≤ 8 by decide)) M_210 (show 2 ≤ 2 by decide) (by decide) rfl (by omega) (H_isSignHere Tw) (fun u17 hu17 => ?_)
                  refine g_if M_214 q_214_88 mjCz_ne (fun b18 => ?_) (fun b18 => ?_)
                  · refine g_P (v := .int (6 : Int32)) (n := 2) M_214 q_214_100 rfl ?_
                    refine g_goto M_214 q_214_102 ?_
                    refine g_ret (v := some (.int (6 : Int32))) M_214 q_214_106 (h_rtI) ?_
                    exact ⟨rfl, _, rfl, by omega⟩
                  · refine g_L (v := .ref 240) (n := 1) M_214 q_214_91 rfl ?_
                    refine g_P (v := .int (37 : Int32)) (n := 2) M_214 q_214_92 rfl ?_
                    refine h_run (as := [.ref 240, .int (37 : Int32)]) (rest := []) (M1 := mjM_210) (d1 := 1) (ls0 := [some (.ref 240), some (.int (37 : Int32))]) M_214 q_214_94 (h_cv Tw ro_240 (by decide) kd_241 (by decide) (show 1 ≤ 2 by decide) rfl (show 0 ≤ 8 by decide)) M_210 (show 2 ≤ 2 by decide) (by decide) rfl (by omega) (H_isSignHere Tw) (fun u19 hu19 => ?_)
                    refine g_if M_214 q_214_97 mjCz_eq (fun b20 => ?_) (fun b20 => ?_)
                    · refine g_A (st1 := [.int (0 : Int32)]) M_214 q_214_105 rfl ?_
                      refine g_ret (v := some (.int (0 : Int32))) M_214 q_214_106 (h_rtI) ?_
                      exact ⟨rfl, _, rfl, by omega⟩
                    · refine g_P (v := .int (6 : Int32)) (n := 2) M_214 q_214_100 rfl ?_
                      refine g_goto M_214 q_214_102 ?_
                      refine g_ret (v := some (.int (6 : Int32))) M_214 q_214_106 (h_rtI) ?_
                      exact ⟨rfl, _, rfl, by omega⟩
              · refine g_A (st1 := [.int (5 : Int32)]) M_214 q_214_71 rfl ?_
                refine g_ret (v := some (.int (5 : Int32))) M_214 q_214_72 (h_rtI) ?_
                exact ⟨rfl, _, rfl, by omega⟩
          · refine g_A (st1 := [.int (4 : Int32)]) M_214 q_214_51 rfl ?_
            refine g_ret (v := some (.int (4 : Int32))) M_214 q_214_52 (h_rtI) ?_
            exact ⟨rfl, _, rfl, by omega⟩
    · refine g_A (st1 := [.int (1 : Int32)]) M_214 q_214_22 rfl ?_
      refine g_ret (v := some (.int (1 : Int32))) M_214 q_214_23 (h_rtI) ?_
      exact ⟨rfl, _, rfl, by omega⟩
  · refine g_A (st1 := [.int (2 : Int32)]) M_214 q_214_10 rfl ?_
    refine g_ret (v := some (.int (2 : Int32))) M_214 q_214_11 (h_rtI) ?_
    exact ⟨rfl, _, rfl, by omega⟩
