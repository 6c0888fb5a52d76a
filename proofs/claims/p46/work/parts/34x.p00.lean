def mjSm_p_0 : MjSm := ([(0, -2147483648, 2147483647, 0, 0), (0, -2147483648, 2147483647, 0, 0), (0, -2147483648, 2147483647, 0, 0)], [], [((0, -2147483648, 2147483647, 0, 0), [], [])], [], 1)
set_option maxRecDepth 100000 in
theorem mjC_p_0 {J : MjW → Prop} (hJ : mjUok m4S m4U J) (H : mjHp J) : mjCtr m4S J 78 mjSm_p_0 := aiOk_ctr hJ (env := []) (fun e he => (by cases he)) (pr := [0]) (sp := 255) (cuts := []) (n := 12) (by decide +kernel)
def mjSm_p_1 : MjSm := ([(0, -2147483648, 2147483647, 0, 0), (0, -2147483648, 2147483647, 0, 0), (0, -2147483648, 2147483647, 0, 0)], [], [((0, -2147483648, 2147483647, 0, 0), [], [])], [], 1)
set_option maxRecDepth 100000 in
theorem mjC_p_1 {J : MjW → Prop} (hJ : mjUok m4S m4U J) (H : mjHp J) : mjCtr m4S J 232 mjSm_p_1 := aiOk_ctr hJ (env := []) (fun e he => (by cases he)) (pr := [0]) (sp := 255) (cuts := []) (n := 12) (by decide +kernel)
def mjSm_p_2 : MjSm := ([(0, -2147483648, 2147483647, 0, 0)], [], [((0, 0, 1, 0, 0), [], [])], [], 1)
set_option maxRecDepth 100000 in
theorem mjC_p_2 {J : MjW → Prop} (hJ : mjUok m4S m4U J) (H : mjHp J) : mjCtr m4S J 183 mjSm_p_2 := aiOk_ctr hJ (env := []) (fun e he => (by cases he)) (pr := [0]) (sp := 255) (cuts := []) (n := 12) (by decide +kernel)
def mjSm_p_3 : MjSm := ([(0, -2147483648, 2147483647, 0, 0), (0, -2147483648, 2147483647, 0, 0), (0, -2147483648, 2147483647, 0, 0)], [], [((0, 0, 1, 0, 0), [], [])], [], 1)
set_option maxRecDepth 100000 in
theorem mjC_p_3 {J : MjW → Prop} (hJ : mjUok m4S m4U J) (H : mjHp J) : mjCtr m4S J 221 mjSm_p_3 := aiOk_ctr hJ (env := []) (fun e he => (by cases he)) (pr := []) (sp := 255) (cuts := []) (n := 12) (by decide +kernel)
