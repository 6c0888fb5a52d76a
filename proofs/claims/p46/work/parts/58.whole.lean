/-! ===== the law from its first instruction on ===== -/
theorem mjLq_0 : mjTb 0 0 = some (.new 7, 3, 4, [9, 147, 148, 127]) := by decide +kernel
theorem mjLq_3 : mjTb 0 3 = some (.dup, 1, 0, []) := by decide +kernel
theorem mjLq_4 : mjTb 0 4 = some (.invokespecial 9, 3, 6, [0, 1, 0, 0, 149, 150, 127]) := by decide +kernel
theorem mjLq_7 : mjTb 0 7 = some (.astore_n 1, 1, 2, []) := by decide +kernel
theorem mjLq_8 : mjTb 0 8 = some (.new 10, 3, 4, [10, 1393, 1394, 142]) := by decide +kernel
theorem mjLq_11 : mjTb 0 11 = some (.dup, 1, 0, []) := by decide +kernel
theorem mjLq_12 : mjTb 0 12 = some (.invokespecial 12, 3, 6, [0, 175, 0, 0, 1395, 1396, 142]) := by decide +kernel
theorem mjLq_15 : mjTb 0 15 = some (.astore_n 2, 1, 2, []) := by decide +kernel
theorem mjLq_16 : mjTb 0 16 = some (.iconst 0, 1, 0, []) := by decide +kernel
theorem mjLq_17 : mjTb 0 17 = some (.istore_n 3, 1, 2, []) := by decide +kernel
set_option maxRecDepth 100000 in
theorem mjNewX : mjH (.new 7) [9, 147, 148, 127] [] [] = some ([.ref 0], mjWs_x_0, 3) := by decide +kernel
set_option maxRecDepth 100000 in
theorem mjNewM : mjH (.new 10) [10, 1393, 1394, 142] [] mjWs_x_98 = some ([.ref 240], mjWs_m_0, 3) := by decide +kernel
set_option maxRecDepth 100000 in
theorem mjEndM : mjWs_m_208 = mjW0 := by decide +kernel
set_option maxRecDepth 100000 in
theorem mjRoom : (Nat.ble mjW0.length 600000 && Nat.ble (mjSz mjW0) 7302250) = true := by decide +kernel
theorem mjSz_shp : ∀ {w w1 : MjW}, mjShp w = mjShp w1 → w.length = w1.length ∧ mjSz w = mjSz w1
  | [], [], _ => ⟨rfl, rfl⟩
  | [], _ :: _, h => by cases h
  | _ :: _, [], h => by cases h
  | c :: w, c1 :: w1, h => by
    have h1 : ((c.1, c.2.length) :: mjShp w) = ((c1.1, c1.2.length) :: mjShp w1) := h
    injection h1 with h2 h3
    injection h2 with h4 h5
    obtain ⟨e1, e2⟩ := mjSz_shp h3
    refine ⟨by rw [List.length_cons, List.length_cons, e1], ?_⟩
    have u : ∀ (c : Nat × List Value) (w : MjW), mjSz (c :: w) = c.2.length + mjSz w := fun c w => by unfold mjSz; rw [List.map_cons, List.sum_cons]
    rw [u, u, e2, h5]
theorem mj_bles {a b c d : Nat} (h : (Nat.ble a b && Nat.ble c d) = true) : a ≤ b ∧ c ≤ d := by
  rw [Bool.and_eq_true] at h
  exact ⟨Nat.le_of_ble_eq_true h.1, Nat.le_of_ble_eq_true h.2⟩
theorem mj_len {n : Nat} (h : n ≤ 3072) : (Int32.ofNat n - 6).toInt = (n : Int) - 6 := by
  have e : (Int32.ofNat n).toInt = (n : Int) := nI_toInt (n := n) (by omega)
  have e6 : (6 : Int32).toInt = 6 := rfl
  rw [mj_sub (by rw [e, e6]; omega) (by rw [e, e6]; omega), e, e6]
/-- the loop, from any call of the script on -/
theorem mj_loop {sc : List Int32} (hs : sc.length ≤ 3072) (n : Nat) : ∀ (k : Nat) (i : Int32) (t : Int) (w : MjW), i.toInt = (k : Int) → k ≤ 3072 → sc.length < k + n → mjInv m4S (m4J t) w → mjShp w = mjShp mjW0 → mjGo mjTb mjMt sc (70 + 1) 0 (18, mjLi i, [], w) (fun r w1 => r = some (.int 1) ∧ mjShp w1 = mjShp mjW0) := by
  induction n with
  | zero =>
    intro k i t w hi hk hn hI hw
    refine g_loop (fun _ => g_one1 ⟨rfl, hw⟩) (fun hf => ?_)
    rw [mj_len hs, hi] at hf
    exfalso; omega
  | succ n ih =>
    intro k i t w hi hk hn hI hw
    refine g_loop (fun _ => g_one1 ⟨rfl, hw⟩) (fun hf => ?_)
    rw [mj_len hs, hi] at hf
    have h6 : mjSc sc i k := ⟨hi, by omega, hs⟩
    have k6 : k + 6 ≤ sc.length := by omega
    refine g_head h6 (mj_switch h6 hI hw (fun t1 w2 I2 s2 => g_tail ?_))
    have e6 : (Int32.ofInt 6).toInt = 6 := by decide
    have e : (i + Int32.ofInt 6).toInt = ((k + 6 : Nat) : Int) := by
      rw [mj_add (by rw [hi, e6]; omega) (by rw [hi, e6]; omega), hi, e6]
      omega
    exact ih (k + 6) _ t1 w2 e (by omega) (by omega) I2 s2
theorem mj_law (sc : List Int32) (hs : sc.length ≤ 3072) : mjGo mjTb mjMt sc (70 + 1) 0 (0, [some (.retAddr 9), none, none, none], [], []) (fun r w => r = some (.int 1) ∧ mjShp w = mjShp mjW0) := by
  refine g_H (st1 := [.ref 0]) (w1 := mjWs_x_0) (n := 3) mjMt0 mjLq_0 mjNewX ?_
  refine g_A (st1 := [.ref 0, .ref 0]) mjMt0 mjLq_3 rfl ?_
  refine g_call (d := 70) (y1 := 1) (as := [.ref 0]) (rest := [.ref 0]) (M1 := mjM_1) (d1 := 20) (Q := fun r w => r = none ∧ w = mjWs_x_98) mjMt0 mjLq_4 (by rfl) (by rfl) (by decide) (by decide) (by rfl) (by decide) (mjRun_x sc) ?_
  rintro r w ⟨rfl, rfl⟩
  refine g_S (ls1 := [some (.retAddr 9), some (.ref 0), none, none]) (st1 := []) (n := 1) mjMt0 mjLq_7 rfl ?_
  refine g_H (st1 := [.ref 240]) (w1 := mjWs_m_0) (n := 3) mjMt0 mjLq_8 mjNewM ?_
  refine g_A (st1 := [.ref 240, .ref 240]) mjMt0 mjLq_11 rfl ?_
  refine g_call (d := 70) (y1 := 175) (as := [.ref 240]) (rest := [.ref 240]) (M1 := mjM_175) (d1 := 20) (Q := fun r w => r = none ∧ w = mjWs_m_208) mjMt0 mjLq_12 (by rfl) (by rfl) (by decide) (by decide) (by rfl) (by decide) (mjRun_m sc) ?_
  rintro r w ⟨rfl, rfl⟩
  rw [mjEndM]
  refine g_S (ls1 := [some (.retAddr 9), some (.ref 0), some (.ref 240), none]) (st1 := []) (n := 1) mjMt0 mjLq_15 rfl ?_
  refine g_A (st1 := [.int 0]) mjMt0 mjLq_16 rfl ?_
  refine g_S (ls1 := mjLi 0) (st1 := []) (n := 1) mjMt0 mjLq_17 rfl ?_
  exact mj_loop hs 3080 0 0 0 mjW0 (by decide) (by decide) (by omega) ⟨mj_tyd0, m4J_0⟩ rfl
theorem mj_whole : MjWhole := by
  intro sc hs
  obtain ⟨n, r, w1, h1, rfl, h2⟩ := (mj_law sc hs).deep (show 70 + 1 ≤ 100 by decide)
  obtain ⟨e1, e2⟩ := mjSz_shp h2
  obtain ⟨k1, k2⟩ := mj_bles mjRoom
  refine ⟨n, w1, h1, ?_, ?_⟩
  · rw [e1]; exact k1
  · rw [e2]; exact k2
