/-! ===== contracts given by hand: their list ===== -/
def mjSm_x_29 : MjSm := ([(2, 11, 11, 0, 0), (0, -2147483648, 2147483647, 0, 0), (0, 0, 5, 0, 0)], [], [((7, 0, 0, 0, 0), [], [])], [(11, 3), (11, 6), (12, 255), (13, 255)], 1)
def mjSm_x_30 : MjSm := ([(2, 11, 11, 0, 0), (0, 0, 0, 0, 0), (0, -2147483648, 2147483647, 0, 0)], [], [((7, 0, 0, 0, 0), [], [])], [(11, 3), (11, 6), (12, 255), (13, 255)], 1)
def mjSm_x_166 : MjSm := ([(2, 11, 11, 0, 0), (3, 214, 214, 0, 0)], [], [((0, -2147483648, 2147483647, 0, 0), [], [])], [(14, 255)], 2)
def mjHl_x : List (Nat × MjSm) := [(58, mjSm_x_29), (58, mjSm_x_30), (77, mjSm_x_166)]
def mjHx (J : MjW → Prop) : Prop := ∀ e ∈ mjHl_x, mjCtr m4S J e.1 e.2
theorem mjC_x_29 {J : MjW → Prop} (hJ : mjUok m4S m4U J) (H : mjHx J) : mjCtr m4S J 58 mjSm_x_29 := H _ List.mem_cons_self
theorem mjC_x_30 {J : MjW → Prop} (hJ : mjUok m4S m4U J) (H : mjHx J) : mjCtr m4S J 58 mjSm_x_30 := H _ (List.mem_cons_of_mem _ List.mem_cons_self)
theorem mjC_x_166 {J : MjW → Prop} (hJ : mjUok m4S m4U J) (H : mjHx J) : mjCtr m4S J 77 mjSm_x_166 := H _ (List.mem_cons_of_mem _ (List.mem_cons_of_mem _ List.mem_cons_self))
