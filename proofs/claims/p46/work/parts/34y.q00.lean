def mjSm_q_0 : MjSm := ([(3, 240, 240, 0, 0), (0, 0, 5, 0, 0), (0, 0, 4, 0, 0)], [], [((0, -2147483648, 2147483647, 0, 0), [], [])], [], 1)
set_option maxRecDepth 100000 in
theorem mjC_q_0 {J : MjW → Prop} (hJ : mjUok m4S m4U J) (H : mjHq J) : mjCtr m4S J 223 mjSm_q_0 := aiOk_ctr hJ (env := []) (fun e he => (by cases he)) (pr := []) (sp := 255) (cuts := []) (n := 14) (by decide +kernel)
def mjSm_q_2 : MjSm := ([(3, 240, 240, 0, 0), (0, -2147483648, 2147483647, 0, 0), (0, -2147483648, 2147483647, 0, 0)], [], [((0, -2147483648, 2147483647, 0, 0), [], [])], [], 2)
set_option maxRecDepth 100000 in
theorem mjC_q_2 {J : MjW → Prop} (hJ : mjUok m4S m4U J) (H : mjHq J) : mjCtr m4S J 231 mjSm_q_2 := aiOk_ctr hJ (env := [(222, mjSm_q_1), (223, mjSm_q_0)]) (mjEnvC (mjC_q_1 hJ H) (mjEnvC (mjC_q_0 hJ H) (fun e he => (by cases he)))) (pr := [1]) (sp := 255) (cuts := []) (n := 22) (by decide +kernel)
