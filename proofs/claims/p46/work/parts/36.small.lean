/-! ===== by hand ===== -/
theorem H_isLetter {sc : List Int32} {w : MjW} {c : Int32} : mjGo mjTb mjMt sc 0 183 (0, [some (.int c)], [], w) (fun r w1 => w1 = w ∧ ∃ u : Int32, r = some (.int u) ∧ ((u.toInt = 1 ∧ 97 ≤ c.toInt ∧ c.toInt ≤ 122) ∨ (u.toInt = 0 ∧ ¬ (97 ≤ c.toInt ∧ c.toInt ≤ 122)))) := by
  have k_0 := c_0
  have k_1 := c_1
  have k_97 := c_97
  have k_122 := c_122
  refine g_L (v := .int c) (n := 1) M_183 q_183_0 rfl ?_
  refine g_P (v := .int (97 : Int32)) (n := 2) M_183 q_183_1 rfl ?_
  refine g_icmp M_183 q_183_3 mjCi_lt (fun b1 => ?_) (fun b1 => ?_)
  · refine g_A (st1 := [.int (0 : Int32)]) M_183 q_183_16 rfl ?_
    refine g_ret (v := some (.int (0 : Int32))) M_183 q_183_17 (h_rtZ) ?_
    exact ⟨rfl, _, rfl, by omega⟩
  · refine g_L (v := .int c) (n := 1) M_183 q_183_6 rfl ?_
    refine g_P (v := .int (122 : Int32)) (n := 2) M_183 q_183_7 rfl ?_
    refine g_icmp M_183 q_183_9 mjCi_gt (fun b2 => ?_) (fun b2 => ?_)
    · refine g_A (st1 := [.int (0 : Int32)]) M_183 q_183_16 rfl ?_
      refine g_ret (v := some (.int (0 : Int32))) M_183 q_183_17 (h_rtZ) ?_
      exact ⟨rfl, _, rfl, by omega⟩
    · refine g_A (st1 := [.int (1 : Int32)]) M_183 q_183_12 rfl ?_
      refine g_goto M_183 q_183_13 ?_
      refine g_ret (v := some (.int (1 : Int32))) M_183 q_183_17 (h_rtZ) ?_
      exact ⟨rfl, _, rfl, by omega⟩
theorem H_isIn {sc : List Int32} {w : MjW} {a b c : Int32} : mjGo mjTb mjMt sc 0 221 (0, [some (.int a), some (.int b), some (.int c)], [], w) (fun r w1 => w1 = w ∧ ∃ u : Int32, r = some (.int u) ∧ ((u.toInt = 1 ∧ b.toInt ≤ a.toInt ∧ a.toInt ≤ c.toInt) ∨ (u.toInt = 0 ∧ ¬ (b.toInt ≤ a.toInt ∧ a.toInt ≤ c.toInt)))) := by
  have k_0 := c_0
  have k_1 := c_1
  refine g_L (v := .int a) (n := 1) M_221 q_221_0 rfl ?_
  refine g_L (v := .int b) (n := 1) M_221 q_221_1 rfl ?_
  refine g_icmp M_221 q_221_2 mjCi_lt (fun b1 => ?_) (fun b1 => ?_)
  · refine g_A (st1 := [.int (0 : Int32)]) M_221 q_221_14 rfl ?_
    refine g_ret (v := some (.int (0 : Int32))) M_221 q_221_15 (h_rtZ) ?_
    exact ⟨rfl, _, rfl, by omega⟩
  · refine g_L (v := .int a) (n := 1) M_221 q_221_5 rfl ?_
    refine g_L (v := .int c) (n := 1) M_221 q_221_6 rfl ?_
    refine g_icmp M_221 q_221_7 mjCi_gt (fun b2 => ?_) (fun b2 => ?_)
    · refine g_A (st1 := [.int (0 : Int32)]) M_221 q_221_14 rfl ?_
      refine g_ret (v := some (.int (0 : Int32))) M_221 q_221_15 (h_rtZ) ?_
      exact ⟨rfl, _, rfl, by omega⟩
    · refine g_A (st1 := [.int (1 : Int32)]) M_221 q_221_10 rfl ?_
      refine g_goto M_221 q_221_11 ?_
      refine g_ret (v := some (.int (1 : Int32))) M_221 q_221_15 (h_rtZ) ?_
      exact ⟨rfl, _, rfl, by omega⟩
/-- a call of a method that changes nothing, by what is known of its run -/
theorem h_run {sc : List Int32} {d d1 y pc : Nat} {ls ls0 : MjL} {st : List Value} {w : MjW} {P : Option Value → MjW → Prop} {M : MjM} {inf : List Nat} {ins : Instr} {len : Nat} {y1 : Nat} {as rest : List Value} {M1 : MjM} {Q : Int32 → Prop} (hM : mjMt y = some M) (hq : mjTb y pc = some (ins, len, 6, inf)) (hC : mjC ins inf st w = some (y1, as, rest)) (hM1 : mjMt y1 = some M1) (hl : (mjEnc as).length ≤ M1.2.2.1) (hy : 0 < y1) (he : mjEntry M1.2.2.1 as = ls0) (hd : d1 ≤ d) (hg : mjGo mjTb mjMt sc d1 y1 (0, ls0, [], w) (fun r w1 => w1 = w ∧ ∃ u : Int32, r = some (.int u) ∧ Q u)) (kk : ∀ u : Int32, Q u → mjGo mjTb mjMt sc (d + 1) y (pc + 3, ls, .int u :: rest, w) P) : mjGo mjTb mjMt sc (d + 1) y (pc, ls, st, w) P := by
  refine g_call hM hq hC hM1 hl hy he hd hg (fun r w1 h => ?_)
  obtain ⟨rfl, u, rfl, h⟩ := h
  exact kk u h
