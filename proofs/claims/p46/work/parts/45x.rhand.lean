/-! ===== contracts given by hand: their list ===== -/
def mjSm_r_1 : MjSm := ([(3, 240, 240, 0, 0)], [], [((7, 0, 0, 0, 0), [], [])], [(241, 6), (241, 7), (241, 8), (241, 9), (241, 10)], 3)
def mjHl_r : List (Nat × MjSm) := [(181, mjSm_r_1)]
def mjHr (J : MjW → Prop) : Prop := ∀ e ∈ mjHl_r, mjCtr m4S J e.1 e.2
theorem mjC_r_1 {J : MjW → Prop} (hJ : mjUok m4S m4P J) (H : mjHr J) : mjCtr m4S J 181 mjSm_r_1 := H _ List.mem_cons_self
