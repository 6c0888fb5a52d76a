/-! ===== contracts given by hand: their list ===== -/
def mjHl_p : List (Nat × MjSm) := []
def mjHp (J : MjW → Prop) : Prop := ∀ e ∈ mjHl_p, mjCtr m4S J e.1 e.2
