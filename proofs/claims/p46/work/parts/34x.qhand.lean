/-! ===== contracts given by hand: their list ===== -/
def mjSm_q_1 : MjSm := ([(3, 240, 240, 0, 0)], [], [((0, 1, 5, 0, 0), [], [])], [], 1)
def mjHl_q : List (Nat × MjSm) := [(222, mjSm_q_1)]
def mjHq (J : MjW → Prop) : Prop := ∀ e ∈ mjHl_q, mjCtr m4S J e.1 e.2
theorem mjC_q_1 {J : MjW → Prop} (hJ : mjUok m4S m4U J) (H : mjHq J) : mjCtr m4S J 222 mjSm_q_1 := H _ List.mem_cons_self
