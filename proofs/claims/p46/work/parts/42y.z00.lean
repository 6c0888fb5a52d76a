def mjSm_z_0 : MjSm := ([(1, 0, 0, 0, 0)], [], [((0, 0, 1, 0, 0), [], [])], [], 1)
set_option maxRecDepth 100000 in
theorem mjC_z_0 {J : MjW → Prop} (hJ : mjUok m4S m4U J) (H : mjHz J) : mjCtr m4S J 184 mjSm_z_0 := aiOk_ctr hJ (env := []) (fun e he => (by cases he)) (pr := []) (sp := 255) (cuts := []) (n := 118) (by decide +kernel)
def mjSm_z_1 : MjSm := ([(0, -2147483648, 2147483647, 0, 0)], [], [((0, 0, 1, 0, 0), [], [])], [], 1)
set_option maxRecDepth 100000 in
theorem mjC_z_1 {J : MjW → Prop} (hJ : mjUok m4S m4U J) (H : mjHz J) : mjCtr m4S J 186 mjSm_z_1 := aiOk_ctr hJ (env := []) (fun e he => (by cases he)) (pr := [0]) (sp := 255) (cuts := []) (n := 39) (by decide +kernel)
def mjSm_z_2 : MjSm := ([(0, -2147483648, 2147483647, 0, 0), (0, -2147483648, 2147483647, 0, 0)], [], [((0, 0, 1, 0, 0), [], [])], [], 1)
set_option maxRecDepth 100000 in
theorem mjC_z_2 {J : MjW → Prop} (hJ : mjUok m4S m4U J) (H : mjHz J) : mjCtr m4S J 191 mjSm_z_2 := aiOk_ctr hJ (env := []) (fun e he => (by cases he)) (pr := []) (sp := 255) (cuts := []) (n := 13) (by decide +kernel)
