/-! ===== by hand ===== -/
theorem H_dv1 {sc : List Int32} {d : Nat} {P : Option Value → MjW → Prop} {w : MjW} {a b : Int32} (K : ∀ x : Int32, 1 ≤ x.toInt → P (some (.int x)) w) (n : Nat) : ∀ (x z : Int32) (l4 : Option Value), 1 ≤ x.toInt → 0 ≤ z.toInt → z.toInt < (n : Int) → mjGo mjTb mjMt sc d 297 (4, [some (.int a), some (.int b), some (.int x), some (.int z), l4], [], w) P := by
  induction n with
  | zero => intro x z l4 h1 h2 h3; omega
  | succ n ih =>
    intro x z l4 h1 h2 h3
    refine g_L (v := .int z) (n := 1) M_297 q_297_4 rfl ?_
    refine g_if M_297 q_297_5 mjCz_le (fun b1 => ?_) (fun b1 => ?_)
    · refine g_L (v := .int x) (n := 1) M_297 q_297_21 rfl ?_
      refine g_ret (v := some (.int x)) M_297 q_297_22 (h_rtI) ?_
      exact K _ (by omega)
    · refine g_L (v := .int x) (n := 1) M_297 q_297_8 rfl ?_
      refine g_L (v := .int z) (n := 1) M_297 q_297_9 rfl ?_
      refine h_irem M_297 q_297_10 (by omega) (by omega) (fun u2 hu2 hu2a hu2b => ?_)
      refine g_S (ls1 := [some (.int a), some (.int b), some (.int x), some (.int z), some (.int u2)]) (st1 := []) (n := 2) M_297 q_297_11 rfl ?_
      refine g_L (v := .int z) (n := 1) M_297 q_297_13 rfl ?_
      refine g_S (ls1 := [some (.int a), some (.int b), some (.int z), some (.int z), some (.int u2)]) (st1 := []) (n := 1) M_297 q_297_14 rfl ?_
      refine g_L (v := .int u2) (n := 2) M_297 q_297_15 rfl ?_
      refine g_S (ls1 := [some (.int a), some (.int b), some (.int z), some (.int u2), some (.int u2)]) (st1 := []) (n := 1) M_297 q_297_17 rfl ?_
      refine g_goto M_297 q_297_18 ?_
      exact ih z u2 _ (by omega) (by omega) (by omega)
theorem H_divisor {t : Int} {sm : MjSm} (hs : sm = ([(0, 1, 2147483647, 0, 0), (0, 0, 2147483647, 0, 0)], [], [((0, 1, 2147483647, 0, 0), [], [])], [], 1)) : mjCtr m4S (m4J t) 297 sm := by
  subst hs
  intro sc w as M hI ha hf hM
  cases (M_297).symm.trans hM
  obtain ⟨a, b, rfl, a1, b1⟩ : ∃ a b : Int32, as = [.int a, .int b] ∧ 1 ≤ a.toInt ∧ 0 ≤ b.toInt := by
    match as, ha with
    | [_, _], ⟨⟨a, e1, a1⟩, ⟨b, e2, b1⟩, _⟩ => subst e1; subst e2; exact ⟨a, b, rfl, a1.1, b1.1⟩
  show mjGo mjTb mjMt sc 1 297 (0, [some (.int a), some (.int b), none, none, none], [], w) _
  refine g_L (v := .int a) (n := 1) M_297 q_297_0 rfl ?_
  refine g_S (ls1 := [some (.int a), some (.int b), some (.int a), none, none]) (st1 := []) (n := 1) M_297 q_297_1 rfl ?_
  refine g_L (v := .int b) (n := 1) M_297 q_297_2 rfl ?_
  refine g_S (ls1 := [some (.int a), some (.int b), some (.int a), some (.int b), none]) (st1 := []) (n := 1) M_297 q_297_3 rfl ?_
  refine H_dv1 (fun x hx => m4_post rfl hI.1 hI.2 mjKp.refl (m4_ri hx (mjB.all x).2)) (b.toInt.toNat + 1) _ _ _ (by omega) (by omega) (by omega)
