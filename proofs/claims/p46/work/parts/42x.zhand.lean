/-! ===== contracts given by hand: their list ===== -/
def mjHl_z : List (Nat × MjSm) := []
def mjHz (J : MjW → Prop) : Prop := ∀ e ∈ mjHl_z, mjCtr m4S J e.1 e.2
