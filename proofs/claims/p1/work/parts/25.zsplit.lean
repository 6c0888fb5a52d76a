/-! ===== the checker, a cut at a time ===== -/
noncomputable def aiOkE (S : MjSp) (U : Nat → Bool) (env : List (Nat × MjSm)) (y : Nat) (sm : MjSm) (pr : List Nat) (cuts : List MjCut) (n : Nat) : Bool := match mjMt y with
  | none => false
  | some M => (sm.1.all aiRq && (pr.all (aiPrOk sm.1) && Nat.ble (aiEntL M.2.2.1 sm.1).length 60)) && aiRun S U env sm pr M.2.2.2.1 cuts (aiBegin (aiEntL M.2.2.1 sm.1, [], sm.2.1)) sm.2.1 aiM0 (mjTb y) n 0 (aiBegin (aiEntL M.2.2.1 sm.1, [], sm.2.1))
noncomputable def aiOkC (S : MjSp) (U : Nat → Bool) (env : List (Nat × MjSm)) (y : Nat) (sm : MjSm) (pr : List Nat) (cuts : List MjCut) (n : Nat) (C : MjCut) : Bool := match mjMt y with
  | none => false
  | some M => (Nat.beq C.2.2.length 8 && (C.2.2.all (aiMuOk1 C.2.1) && Nat.ble C.2.1.1.length 60)) && aiRun S U env sm pr M.2.2.2.1 cuts (aiBegin C.2.1) C.2.1.2.2 C.2.2 (mjTb y) n C.1 (aiBegin C.2.1)
theorem aiOk_split {S : MjSp} {U : Nat → Bool} {env : List (Nat × MjSm)} {y : Nat} {sm : MjSm} {pr : List Nat} {cuts : List MjCut} {n : Nat} (hE : aiOkE S U env y sm pr cuts n = true) (hC : ∀ C ∈ cuts, aiOkC S U env y sm pr cuts n C = true) : aiOk S U env y sm pr cuts n = true := by
  unfold aiOk
  unfold aiOkE at hE
  unfold aiOkC at hC
  cases hM : mjMt y with
  | none => rw [hM] at hE; cases hE
  | some M =>
    rw [hM] at hE hC
    simp only [Bool.and_eq_true] at hE ⊢
    exact ⟨hE.1, hE.2, List.all_eq_true.mpr hC⟩
