def mjSm_m_0 : MjSm := ([(3, 240, 240, 0, 0), (0, -2147483648, 2147483647, 0, 0), (0, -2147483648, 2147483647, 0, 0), (0, -2147483648, 2147483647, 0, 0), (0, -2147483648, 2147483647, 0, 0), (0, -2147483648, 2147483647, 0, 0)], [], [((0, -1, 1600, 0, 0), [], [])], [(241, 2), (242, 255)], 1)
set_option maxRecDepth 100000 in
theorem mjC_m_0 {J : MjW → Prop} (hJ : mjUok m4S m4U J) (H : mjHm J) : mjCtr m4S J 311 mjSm_m_0 := aiOk_ctr hJ (env := []) (fun e he => (by cases he)) (pr := []) (sp := 255) (cuts := [(18, ([(3, 240, 240, 0, 0), (0, -2147483648, 2147483647, 0, 0), (0, -2147483648, 2147483647, 0, 0), (0, -2147483648, 2147483647, 0, 0), (0, -2147483648, 2147483647, 0, 0), (0, -2147483648, 2147483647, 0, 0), (0, 0, 20, 0, 0), (9, 0, 0, 0, 0)], [], [(240, 2, (0, 0, 1580, 0, 0))]), [(0, 0, 49982), (1, 6, 2147483647), (0, 0, 60000), (0, 0, 0), (0, 0, 0), (0, 0, 0), (0, 0, 0), (0, 0, 0)])]) (n := 40) (by decide +kernel)
def mjSm_m_1 : MjSm := ([(3, 240, 240, 0, 0), (0, -2147483648, 2147483647, 0, 0)], [], [((0, -1, 1600, 0, 0), [(1, -2147483648, 2147483647)], [])], [(241, 2)], 1)
set_option maxRecDepth 100000 in
theorem mjC_m_1 {J : MjW → Prop} (hJ : mjUok m4S m4U J) (H : mjHm J) : mjCtr m4S J 312 mjSm_m_1 := aiOk_ctr hJ (env := []) (fun e he => (by cases he)) (pr := [1]) (sp := 255) (cuts := []) (n := 14) (by decide +kernel)
def mjSm_m_2 : MjSm := ([(3, 240, 240, 0, 0), (0, -2147483648, 2147483647, 0, 0)], [], [((0, -1, 1600, 0, 0), [(1, -2147483648, 2147483647)], [])], [], 1)
set_option maxRecDepth 100000 in
theorem mjC_m_2 {J : MjW → Prop} (hJ : mjUok m4S m4U J) (H : mjHm J) : mjCtr m4S J 216 mjSm_m_2 := aiOk_ctr hJ (env := []) (fun e he => (by cases he)) (pr := [1]) (sp := 255) (cuts := []) (n := 12) (by decide +kernel)
def mjSm_m_4 : MjSm := ([(0, -2147483648, 2147483647, 0, 0), (0, 0, 0, 0, 0), (0, 0, 5, 0, 0)], [], [((0, 1, 1, 0, 0), [(0, 0, 5)], []), ((0, 0, 0, 0, 0), [(0, 1, 2147483647)], []), ((0, 0, 0, 0, 0), [(0, -2147483648, -1)], [])], [], 1)
set_option maxRecDepth 100000 in
theorem mjC_m_4 {J : MjW → Prop} (hJ : mjUok m4S m4U J) (H : mjHm J) : mjCtr m4S J 221 mjSm_m_4 := aiOk_ctr hJ (env := []) (fun e he => (by cases he)) (pr := [0]) (sp := 255) (cuts := []) (n := 12) (by decide +kernel)
def mjSm_m_5 : MjSm := ([(3, 240, 240, 0, 0), (0, -2147483648, 2147483647, 0, 0)], [], [((0, 0, 0, 0, 0), [(1, -2147483648, -1)], []), ((0, 0, 0, 0, 0), [(1, 1, 2147483647)], []), ((0, 1, 1, 0, 0), [(1, 0, 5)], [])], [], 2)
set_option maxRecDepth 100000 in
theorem mjC_m_5 {J : MjW → Prop} (hJ : mjUok m4S m4U J) (H : mjHm J) : mjCtr m4S J 219 mjSm_m_5 := aiOk_ctr hJ (env := [(220, mjSm_m_3), (221, mjSm_m_4)]) (mjEnvC (mjC_m_3 hJ H) (mjEnvC (mjC_m_4 hJ H) (fun e he => (by cases he)))) (pr := [1]) (sp := 255) (cuts := []) (n := 11) (by decide +kernel)
def mjSm_m_7 : MjSm := ([(0, -2147483648, 2147483647, 0, 0), (0, 0, 0, 0, 0), (0, 0, 4, 0, 0)], [], [((0, 1, 1, 0, 0), [(0, 0, 4)], []), ((0, 0, 0, 0, 0), [(0, 1, 2147483647)], []), ((0, 0, 0, 0, 0), [(0, -2147483648, -1)], [])], [], 1)
set_option maxRecDepth 100000 in
theorem mjC_m_7 {J : MjW → Prop} (hJ : mjUok m4S m4U J) (H : mjHm J) : mjCtr m4S J 221 mjSm_m_7 := aiOk_ctr hJ (env := []) (fun e he => (by cases he)) (pr := [0]) (sp := 255) (cuts := []) (n := 12) (by decide +kernel)
def mjSm_m_8 : MjSm := ([(3, 240, 240, 0, 0), (0, -2147483648, 2147483647, 0, 0), (0, -2147483648, 2147483647, 0, 0)], [], [((0, 0, 0, 0, 0), [(1, 0, 5), (2, -2147483648, -1)], []), ((0, 0, 0, 0, 0), [(1, 0, 5), (2, 1, 2147483647)], []), ((0, 1, 1, 0, 0), [(1, 0, 5), (2, 0, 4)], []), ((0, 0, 0, 0, 0), [(1, 1, 2147483647)], []), ((0, 0, 0, 0, 0), [(1, -2147483648, -1)], [])], [], 3)
set_option maxRecDepth 100000 in
theorem mjC_m_8 {J : MjW → Prop} (hJ : mjUok m4S m4U J) (H : mjHm J) : mjCtr m4S J 218 mjSm_m_8 := aiOk_ctr hJ (env := [(222, mjSm_m_6), (219, mjSm_m_5), (221, mjSm_m_7)]) (mjEnvC (mjC_m_6 hJ H) (mjEnvC (mjC_m_5 hJ H) (mjEnvC (mjC_m_7 hJ H) (fun e he => (by cases he))))) (pr := [1, 2]) (sp := 255) (cuts := []) (n := 18) (by decide +kernel)
def mjSm_m_9 : MjSm := ([(3, 240, 240, 0, 0), (0, 0, 5, 0, 0), (0, 0, 4, 0, 0)], [], [((0, -2147483648, 2147483647, 0, 0), [], [])], [], 1)
set_option maxRecDepth 100000 in
theorem mjC_m_9 {J : MjW → Prop} (hJ : mjUok m4S m4U J) (H : mjHm J) : mjCtr m4S J 223 mjSm_m_9 := aiOk_ctr hJ (env := []) (fun e he => (by cases he)) (pr := []) (sp := 255) (cuts := []) (n := 14) (by decide +kernel)
def mjSm_m_10 : MjSm := ([(3, 240, 240, 0, 0), (0, 0, 5, 0, 0)], [], [((0, -1, 4, 0, 0), [], [])], [], 1)
set_option maxRecDepth 100000 in
theorem mjC_m_10 {J : MjW → Prop} (hJ : mjUok m4S m4U J) (H : mjHm J) : mjCtr m4S J 227 mjSm_m_10 := aiOk_ctr hJ (env := []) (fun e he => (by cases he)) (pr := []) (sp := 255) (cuts := []) (n := 13) (by decide +kernel)
def mjSm_m_11 : MjSm := ([(0, -2147483648, 2147483647, 0, 0), (0, 0, 5, 0, 0)], [], [((0, 1, 1, 0, 0), [], []), ((0, 0, 0, 0, 0), [], [])], [], 1)
set_option maxRecDepth 100000 in
theorem mjC_m_11 {J : MjW → Prop} (hJ : mjUok m4S m4U J) (H : mjHm J) : mjCtr m4S J 191 mjSm_m_11 := aiOk_ctr hJ (env := []) (fun e he => (by cases he)) (pr := []) (sp := 255) (cuts := []) (n := 13) (by decide +kernel)
def mjSm_m_12 : MjSm := ([(0, 0, 31, 0, 0), (0, -2147483648, 2147483647, 0, 0)], [], [((0, 1, 1, 0, 0), [], []), ((0, 0, 0, 0, 0), [], [])], [], 1)
set_option maxRecDepth 100000 in
theorem mjC_m_12 {J : MjW → Prop} (hJ : mjUok m4S m4U J) (H : mjHm J) : mjCtr m4S J 191 mjSm_m_12 := aiOk_ctr hJ (env := []) (fun e he => (by cases he)) (pr := []) (sp := 255) (cuts := []) (n := 13) (by decide +kernel)
def mjSm_m_13 : MjSm := ([(3, 240, 240, 0, 0), (0, -2147483648, 2147483647, 0, 0)], [], [((0, 1, 1, 0, 0), [], []), ((0, 0, 0, 0, 0), [], [])], [], 2)
set_option maxRecDepth 100000 in
theorem mjC_m_13 {J : MjW → Prop} (hJ : mjUok m4S m4U J) (H : mjHm J) : mjCtr m4S J 229 mjSm_m_13 := aiOk_ctr hJ (env := [(191, mjSm_m_12)]) (mjEnvC (mjC_m_12 hJ H) (fun e he => (by cases he))) (pr := []) (sp := 255) (cuts := []) (n := 13) (by decide +kernel)
def mjSm_m_14 : MjSm := ([(3, 240, 240, 0, 0), (0, 0, 5, 0, 0), (0, -2147483648, 2147483647, 0, 0)], [], [((0, 0, 0, 0, 0), [], []), ((0, 1, 1, 0, 0), [(2, 0, 47)], []), ((0, 0, 0, 0, 0), [(2, 1, 2147483647)], []), ((0, 0, 0, 0, 0), [(2, -2147483648, 46)], [])], [], 3)
set_option maxRecDepth 100000 in
theorem mjC_m_14 {J : MjW → Prop} (hJ : mjUok m4S m4U J) (H : mjHm J) : mjCtr m4S J 228 mjSm_m_14 := aiOk_ctr hJ (env := [(229, mjSm_m_13), (191, mjSm_m_11)]) (mjEnvC (mjC_m_13 hJ H) (mjEnvC (mjC_m_11 hJ H) (fun e he => (by cases he)))) (pr := [2]) (sp := 255) (cuts := []) (n := 39) (by decide +kernel)
def mjSm_m_15 : MjSm := ([(3, 240, 240, 0, 0), (0, 0, 5, 0, 0)], [], [((0, -2147483648, 2147483647, 0, 0), [], [])], [], 4)
set_option maxRecDepth 100000 in
theorem mjC_m_15 {J : MjW → Prop} (hJ : mjUok m4S m4U J) (H : mjHm J) : mjCtr m4S J 226 mjSm_m_15 := aiOk_ctr hJ (env := [(227, mjSm_m_10), (228, mjSm_m_14)]) (mjEnvC (mjC_m_10 hJ H) (mjEnvC (mjC_m_14 hJ H) (fun e he => (by cases he)))) (pr := []) (sp := 255) (cuts := [(4, ([(3, 240, 240, 0, 0), (0, 0, 5, 0, 0), (0, -2147483648, 2147483647, 0, 0), (0, 0, 6, 0, 0)], [], []), [(0, 0, 49996), (1, 3, 2147483647), (0, 0, 60000), (0, 0, 0), (0, 0, 0), (0, 0, 0), (0, 0, 0), (0, 0, 0)])]) (n := 45) (by decide +kernel)
def mjSm_m_16 : MjSm := ([(0, 0, 0, 0, 0), (0, 2, 2, 0, 0)], [], [((0, 0, 0, 0, 0), [], [])], [], 1)
set_option maxRecDepth 100000 in
theorem mjC_m_16 {J : MjW → Prop} (hJ : mjUok m4S m4U J) (H : mjHm J) : mjCtr m4S J 191 mjSm_m_16 := aiOk_ctr hJ (env := []) (fun e he => (by cases he)) (pr := []) (sp := 255) (cuts := []) (n := 12) (by decide +kernel)
def mjSm_m_17 : MjSm := ([(3, 240, 240, 0, 0), (0, 0, 5, 0, 0), (0, 0, 4, 0, 0), (0, -2147483648, 2147483647, 0, 0)], [(240, 42, (0, 0, 0, 0, 0)), (251, 0, (0, 0, 0, 0, 0))], [((0, 0, 0, 0, 0), [], []), ((0, 1, 1, 0, 0), [], [])], [(241, 49), (241, 50), (241, 51)], 5)
set_option maxRecDepth 100000 in
theorem mjC_m_17 {J : MjW → Prop} (hJ : mjUok m4S m4U J) (H : mjHm J) : mjCtr m4S J 225 mjSm_m_17 := aiOk_ctr hJ (env := [(191, mjSm_m_16), (226, mjSm_m_15), (223, mjSm_m_9)]) (mjEnvC (mjC_m_16 hJ H) (mjEnvC (mjC_m_15 hJ H) (mjEnvC (mjC_m_9 hJ H) (fun e he => (by cases he))))) (pr := []) (sp := 255) (cuts := []) (n := 52) (by decide +kernel)
def mjSm_m_18 : MjSm := ([(0, 1, 1, 0, 0), (0, 2, 2, 0, 0)], [], [((0, 0, 0, 0, 0), [], [])], [], 1)
set_option maxRecDepth 100000 in
theorem mjC_m_18 {J : MjW → Prop} (hJ : mjUok m4S m4U J) (H : mjHm J) : mjCtr m4S J 191 mjSm_m_18 := aiOk_ctr hJ (env := []) (fun e he => (by cases he)) (pr := []) (sp := 255) (cuts := []) (n := 12) (by decide +kernel)
def mjSm_m_19 : MjSm := ([(3, 240, 240, 0, 0), (0, 0, 5, 0, 0), (0, 0, 4, 0, 0), (0, -2147483648, 2147483647, 0, 0)], [(240, 42, (0, 0, 0, 0, 0)), (251, 0, (0, 1, 1, 0, 0))], [((0, 0, 0, 0, 0), [], []), ((0, 1, 1, 0, 0), [], [])], [(241, 49), (241, 50), (241, 51)], 5)
set_option maxRecDepth 100000 in
theorem mjC_m_19 {J : MjW → Prop} (hJ : mjUok m4S m4U J) (H : mjHm J) : mjCtr m4S J 225 mjSm_m_19 := aiOk_ctr hJ (env := [(191, mjSm_m_18), (226, mjSm_m_15), (223, mjSm_m_9)]) (mjEnvC (mjC_m_18 hJ H) (mjEnvC (mjC_m_15 hJ H) (mjEnvC (mjC_m_9 hJ H) (fun e he => (by cases he))))) (pr := []) (sp := 255) (cuts := []) (n := 52) (by decide +kernel)
def mjSm_m_20 : MjSm := ([(0, 2, 2, 0, 0), (0, 2, 2, 0, 0)], [], [((0, 0, 0, 0, 0), [], [])], [], 1)
set_option maxRecDepth 100000 in
theorem mjC_m_20 {J : MjW → Prop} (hJ : mjUok m4S m4U J) (H : mjHm J) : mjCtr m4S J 191 mjSm_m_20 := aiOk_ctr hJ (env := []) (fun e he => (by cases he)) (pr := []) (sp := 255) (cuts := []) (n := 12) (by decide +kernel)
def mjSm_m_21 : MjSm := ([(3, 240, 240, 0, 0), (0, 0, 5, 0, 0), (0, 0, 4, 0, 0), (0, -2147483648, 2147483647, 0, 0)], [(240, 42, (0, 0, 0, 0, 0)), (251, 0, (0, 2, 2, 0, 0))], [((0, 0, 0, 0, 0), [], []), ((0, 1, 1, 0, 0), [], [])], [(241, 49), (241, 50), (241, 51)], 5)
set_option maxRecDepth 100000 in
theorem mjC_m_21 {J : MjW → Prop} (hJ : mjUok m4S m4U J) (H : mjHm J) : mjCtr m4S J 225 mjSm_m_21 := aiOk_ctr hJ (env := [(191, mjSm_m_20), (226, mjSm_m_15), (223, mjSm_m_9)]) (mjEnvC (mjC_m_20 hJ H) (mjEnvC (mjC_m_15 hJ H) (mjEnvC (mjC_m_9 hJ H) (fun e he => (by cases he))))) (pr := []) (sp := 255) (cuts := []) (n := 52) (by decide +kernel)
def mjSm_m_22 : MjSm := ([(0, 3, 3, 0, 0), (0, 2, 2, 0, 0)], [], [((0, 0, 0, 0, 0), [], [])], [], 1)
set_option maxRecDepth 100000 in
theorem mjC_m_22 {J : MjW → Prop} (hJ : mjUok m4S m4U J) (H : mjHm J) : mjCtr m4S J 191 mjSm_m_22 := aiOk_ctr hJ (env := []) (fun e he => (by cases he)) (pr := []) (sp := 255) (cuts := []) (n := 12) (by decide +kernel)
def mjSm_m_23 : MjSm := ([(3, 240, 240, 0, 0), (0, 0, 5, 0, 0), (0, 0, 4, 0, 0), (0, -2147483648, 2147483647, 0, 0)], [(240, 42, (0, 0, 0, 0, 0)), (251, 0, (0, 3, 3, 0, 0))], [((0, 0, 0, 0, 0), [], []), ((0, 1, 1, 0, 0), [], [])], [(241, 49), (241, 50), (241, 51)], 5)
set_option maxRecDepth 100000 in
theorem mjC_m_23 {J : MjW → Prop} (hJ : mjUok m4S m4U J) (H : mjHm J) : mjCtr m4S J 225 mjSm_m_23 := aiOk_ctr hJ (env := [(191, mjSm_m_22), (226, mjSm_m_15), (223, mjSm_m_9)]) (mjEnvC (mjC_m_22 hJ H) (mjEnvC (mjC_m_15 hJ H) (mjEnvC (mjC_m_9 hJ H) (fun e he => (by cases he))))) (pr := []) (sp := 255) (cuts := []) (n := 52) (by decide +kernel)
def mjSm_m_24 : MjSm := ([(0, 4, 4, 0, 0), (0, 2, 2, 0, 0)], [], [((0, 1, 1, 0, 0), [], [])], [], 1)
set_option maxRecDepth 100000 in
theorem mjC_m_24 {J : MjW → Prop} (hJ : mjUok m4S m4U J) (H : mjHm J) : mjCtr m4S J 191 mjSm_m_24 := aiOk_ctr hJ (env := []) (fun e he => (by cases he)) (pr := []) (sp := 255) (cuts := []) (n := 13) (by decide +kernel)
def mjSm_m_26 : MjSm := ([(3, 240, 240, 0, 0), (0, 0, 5, 0, 0), (0, 0, 4, 0, 0), (0, -2147483648, 2147483647, 0, 0)], [(240, 42, (0, 0, 0, 0, 0)), (251, 0, (0, 4, 4, 0, 0))], [((0, 0, 0, 0, 0), [], []), ((0, 1, 1, 0, 0), [], [])], [(241, 49), (241, 50), (241, 51), (274, 255)], 5)
set_option maxRecDepth 100000 in
theorem mjC_m_26 {J : MjW → Prop} (hJ : mjUok m4S m4U J) (H : mjHm J) : mjCtr m4S J 225 mjSm_m_26 := aiOk_ctr hJ (env := [(230, mjSm_m_25), (191, mjSm_m_24), (226, mjSm_m_15), (223, mjSm_m_9)]) (mjEnvC (mjC_m_25 hJ H) (mjEnvC (mjC_m_24 hJ H) (mjEnvC (mjC_m_15 hJ H) (mjEnvC (mjC_m_9 hJ H) (fun e he => (by cases he)))))) (pr := []) (sp := 255) (cuts := []) (n := 36) (by decide +kernel)
def mjSm_m_27 : MjSm := ([(0, 5, 5, 0, 0), (0, 2, 2, 0, 0)], [], [((0, 1, 1, 0, 0), [], [])], [], 1)
set_option maxRecDepth 100000 in
theorem mjC_m_27 {J : MjW → Prop} (hJ : mjUok m4S m4U J) (H : mjHm J) : mjCtr m4S J 191 mjSm_m_27 := aiOk_ctr hJ (env := []) (fun e he => (by cases he)) (pr := []) (sp := 255) (cuts := []) (n := 13) (by decide +kernel)
def mjSm_m_29 : MjSm := ([(3, 240, 240, 0, 0), (0, 0, 5, 0, 0), (0, 0, 4, 0, 0), (0, -2147483648, 2147483647, 0, 0)], [(240, 42, (0, 0, 0, 0, 0)), (251, 0, (0, 5, 5, 0, 0))], [((0, 0, 0, 0, 0), [], []), ((0, 1, 1, 0, 0), [], [])], [(241, 49), (241, 50), (241, 51), (274, 255)], 5)
set_option maxRecDepth 100000 in
theorem mjC_m_29 {J : MjW → Prop} (hJ : mjUok m4S m4U J) (H : mjHm J) : mjCtr m4S J 225 mjSm_m_29 := aiOk_ctr hJ (env := [(230, mjSm_m_28), (191, mjSm_m_27), (226, mjSm_m_15), (223, mjSm_m_9)]) (mjEnvC (mjC_m_28 hJ H) (mjEnvC (mjC_m_27 hJ H) (mjEnvC (mjC_m_15 hJ H) (mjEnvC (mjC_m_9 hJ H) (fun e he => (by cases he)))))) (pr := []) (sp := 255) (cuts := []) (n := 36) (by decide +kernel)
def mjSm_m_30 : MjSm := ([(0, 6, 6, 0, 0), (0, 2, 2, 0, 0)], [], [((0, 1, 1, 0, 0), [], [])], [], 1)
set_option maxRecDepth 100000 in
theorem mjC_m_30 {J : MjW → Prop} (hJ : mjUok m4S m4U J) (H : mjHm J) : mjCtr m4S J 191 mjSm_m_30 := aiOk_ctr hJ (env := []) (fun e he => (by cases he)) (pr := []) (sp := 255) (cuts := []) (n := 13) (by decide +kernel)
def mjSm_m_32 : MjSm := ([(3, 240, 240, 0, 0), (0, 0, 5, 0, 0), (0, 0, 4, 0, 0), (0, -2147483648, 2147483647, 0, 0)], [(240, 42, (0, 0, 0, 0, 0)), (251, 0, (0, 6, 6, 0, 0))], [((0, 0, 0, 0, 0), [], []), ((0, 1, 1, 0, 0), [], [])], [(241, 49), (241, 50), (241, 51), (274, 255)], 5)
set_option maxRecDepth 100000 in
theorem mjC_m_32 {J : MjW → Prop} (hJ : mjUok m4S m4U J) (H : mjHm J) : mjCtr m4S J 225 mjSm_m_32 := aiOk_ctr hJ (env := [(230, mjSm_m_31), (191, mjSm_m_30), (226, mjSm_m_15), (223, mjSm_m_9)]) (mjEnvC (mjC_m_31 hJ H) (mjEnvC (mjC_m_30 hJ H) (mjEnvC (mjC_m_15 hJ H) (mjEnvC (mjC_m_9 hJ H) (fun e he => (by cases he)))))) (pr := []) (sp := 255) (cuts := []) (n := 36) (by decide +kernel)
def mjSm_m_33 : MjSm := ([(0, 7, 7, 0, 0), (0, 2, 2, 0, 0)], [], [((0, 1, 1, 0, 0), [], [])], [], 1)
set_option maxRecDepth 100000 in
theorem mjC_m_33 {J : MjW → Prop} (hJ : mjUok m4S m4U J) (H : mjHm J) : mjCtr m4S J 191 mjSm_m_33 := aiOk_ctr hJ (env := []) (fun e he => (by cases he)) (pr := []) (sp := 255) (cuts := []) (n := 13) (by decide +kernel)
def mjSm_m_35 : MjSm := ([(3, 240, 240, 0, 0), (0, 0, 5, 0, 0), (0, 0, 4, 0, 0), (0, -2147483648, 2147483647, 0, 0)], [(240, 42, (0, 0, 0, 0, 0)), (251, 0, (0, 7, 7, 0, 0))], [((0, 0, 0, 0, 0), [], []), ((0, 1, 1, 0, 0), [], [])], [(241, 49), (241, 50), (241, 51), (274, 255)], 5)
set_option maxRecDepth 100000 in
theorem mjC_m_35 {J : MjW → Prop} (hJ : mjUok m4S m4U J) (H : mjHm J) : mjCtr m4S J 225 mjSm_m_35 := aiOk_ctr hJ (env := [(230, mjSm_m_34), (191, mjSm_m_33), (226, mjSm_m_15), (223, mjSm_m_9)]) (mjEnvC (mjC_m_34 hJ H) (mjEnvC (mjC_m_33 hJ H) (mjEnvC (mjC_m_15 hJ H) (mjEnvC (mjC_m_9 hJ H) (fun e he => (by cases he)))))) (pr := []) (sp := 255) (cuts := []) (n := 36) (by decide +kernel)
def mjSm_m_36 : MjSm := ([(0, 8, 8, 0, 0), (0, 2, 2, 0, 0)], [], [((0, 0, 0, 0, 0), [], [])], [], 1)
set_option maxRecDepth 100000 in
theorem mjC_m_36 {J : MjW → Prop} (hJ : mjUok m4S m4U J) (H : mjHm J) : mjCtr m4S J 191 mjSm_m_36 := aiOk_ctr hJ (env := []) (fun e he => (by cases he)) (pr := []) (sp := 255) (cuts := []) (n := 12) (by decide +kernel)
def mjSm_m_37 : MjSm := ([(3, 240, 240, 0, 0), (0, 0, 5, 0, 0), (0, 0, 4, 0, 0), (0, -2147483648, 2147483647, 0, 0)], [(240, 42, (0, 0, 0, 0, 0)), (251, 0, (0, 8, 8, 0, 0))], [((0, 0, 0, 0, 0), [], []), ((0, 1, 1, 0, 0), [], [])], [(241, 49), (241, 50), (241, 51)], 5)
set_option maxRecDepth 100000 in
theorem mjC_m_37 {J : MjW → Prop} (hJ : mjUok m4S m4U J) (H : mjHm J) : mjCtr m4S J 225 mjSm_m_37 := aiOk_ctr hJ (env := [(191, mjSm_m_36), (226, mjSm_m_15), (223, mjSm_m_9)]) (mjEnvC (mjC_m_36 hJ H) (mjEnvC (mjC_m_15 hJ H) (mjEnvC (mjC_m_9 hJ H) (fun e he => (by cases he))))) (pr := []) (sp := 255) (cuts := []) (n := 52) (by decide +kernel)
def mjSm_m_38 : MjSm := ([(0, 9, 9, 0, 0), (0, 2, 2, 0, 0)], [], [((0, 0, 0, 0, 0), [], [])], [], 1)
set_option maxRecDepth 100000 in
theorem mjC_m_38 {J : MjW → Prop} (hJ : mjUok m4S m4U J) (H : mjHm J) : mjCtr m4S J 191 mjSm_m_38 := aiOk_ctr hJ (env := []) (fun e he => (by cases he)) (pr := []) (sp := 255) (cuts := []) (n := 12) (by decide +kernel)
def mjSm_m_39 : MjSm := ([(3, 240, 240, 0, 0), (0, 0, 5, 0, 0), (0, 0, 4, 0, 0), (0, -2147483648, 2147483647, 0, 0)], [(240, 42, (0, 0, 0, 0, 0)), (251, 0, (0, 9, 9, 0, 0))], [((0, 0, 0, 0, 0), [], []), ((0, 1, 1, 0, 0), [], [])], [(241, 49), (241, 50), (241, 51)], 5)
set_option maxRecDepth 100000 in
theorem mjC_m_39 {J : MjW → Prop} (hJ : mjUok m4S m4U J) (H : mjHm J) : mjCtr m4S J 225 mjSm_m_39 := aiOk_ctr hJ (env := [(191, mjSm_m_38), (226, mjSm_m_15), (223, mjSm_m_9)]) (mjEnvC (mjC_m_38 hJ H) (mjEnvC (mjC_m_15 hJ H) (mjEnvC (mjC_m_9 hJ H) (fun e he => (by cases he))))) (pr := []) (sp := 255) (cuts := []) (n := 52) (by decide +kernel)
def mjSm_m_40 : MjSm := ([(0, 10, 10, 0, 0), (0, 2, 2, 0, 0)], [], [((0, 0, 0, 0, 0), [], [])], [], 1)
set_option maxRecDepth 100000 in
theorem mjC_m_40 {J : MjW → Prop} (hJ : mjUok m4S m4U J) (H : mjHm J) : mjCtr m4S J 191 mjSm_m_40 := aiOk_ctr hJ (env := []) (fun e he => (by cases he)) (pr := []) (sp := 255) (cuts := []) (n := 12) (by decide +kernel)
def mjSm_m_41 : MjSm := ([(3, 240, 240, 0, 0), (0, 0, 5, 0, 0), (0, 0, 4, 0, 0), (0, -2147483648, 2147483647, 0, 0)], [(240, 42, (0, 0, 0, 0, 0)), (251, 0, (0, 10, 10, 0, 0))], [((0, 0, 0, 0, 0), [], []), ((0, 1, 1, 0, 0), [], [])], [(241, 49), (241, 50), (241, 51)], 5)
set_option maxRecDepth 100000 in
theorem mjC_m_41 {J : MjW → Prop} (hJ : mjUok m4S m4U J) (H : mjHm J) : mjCtr m4S J 225 mjSm_m_41 := aiOk_ctr hJ (env := [(191, mjSm_m_40), (226, mjSm_m_15), (223, mjSm_m_9)]) (mjEnvC (mjC_m_40 hJ H) (mjEnvC (mjC_m_15 hJ H) (mjEnvC (mjC_m_9 hJ H) (fun e he => (by cases he))))) (pr := []) (sp := 255) (cuts := []) (n := 52) (by decide +kernel)
def mjSm_m_42 : MjSm := ([(0, 11, 11, 0, 0), (0, 2, 2, 0, 0)], [], [((0, 0, 0, 0, 0), [], [])], [], 1)
set_option maxRecDepth 100000 in
theorem mjC_m_42 {J : MjW → Prop} (hJ : mjUok m4S m4U J) (H : mjHm J) : mjCtr m4S J 191 mjSm_m_42 := aiOk_ctr hJ (env := []) (fun e he => (by cases he)) (pr := []) (sp := 255) (cuts := []) (n := 12) (by decide +kernel)
def mjSm_m_43 : MjSm := ([(3, 240, 240, 0, 0), (0, 0, 5, 0, 0), (0, 0, 4, 0, 0), (0, -2147483648, 2147483647, 0, 0)], [(240, 42, (0, 0, 0, 0, 0)), (251, 0, (0, 11, 11, 0, 0))], [((0, 0, 0, 0, 0), [], []), ((0, 1, 1, 0, 0), [], [])], [(241, 49), (241, 50), (241, 51)], 5)
set_option maxRecDepth 100000 in
theorem mjC_m_43 {J : MjW → Prop} (hJ : mjUok m4S m4U J) (H : mjHm J) : mjCtr m4S J 225 mjSm_m_43 := aiOk_ctr hJ (env := [(191, mjSm_m_42), (226, mjSm_m_15), (223, mjSm_m_9)]) (mjEnvC (mjC_m_42 hJ H) (mjEnvC (mjC_m_15 hJ H) (mjEnvC (mjC_m_9 hJ H) (fun e he => (by cases he))))) (pr := []) (sp := 255) (cuts := []) (n := 52) (by decide +kernel)
def mjSm_m_44 : MjSm := ([(0, 12, 12, 0, 0), (0, 2, 2, 0, 0)], [], [((0, 1, 1, 0, 0), [], [])], [], 1)
set_option maxRecDepth 100000 in
theorem mjC_m_44 {J : MjW → Prop} (hJ : mjUok m4S m4U J) (H : mjHm J) : mjCtr m4S J 191 mjSm_m_44 := aiOk_ctr hJ (env := []) (fun e he => (by cases he)) (pr := []) (sp := 255) (cuts := []) (n := 13) (by decide +kernel)
def mjSm_m_46 : MjSm := ([(3, 240, 240, 0, 0), (0, 0, 5, 0, 0), (0, 0, 4, 0, 0), (0, -2147483648, 2147483647, 0, 0)], [(240, 42, (0, 0, 0, 0, 0)), (251, 0, (0, 12, 12, 0, 0))], [((0, 0, 0, 0, 0), [], []), ((0, 1, 1, 0, 0), [], [])], [(241, 49), (241, 50), (241, 51), (274, 255)], 5)
set_option maxRecDepth 100000 in
theorem mjC_m_46 {J : MjW → Prop} (hJ : mjUok m4S m4U J) (H : mjHm J) : mjCtr m4S J 225 mjSm_m_46 := aiOk_ctr hJ (env := [(230, mjSm_m_45), (191, mjSm_m_44), (226, mjSm_m_15), (223, mjSm_m_9)]) (mjEnvC (mjC_m_45 hJ H) (mjEnvC (mjC_m_44 hJ H) (mjEnvC (mjC_m_15 hJ H) (mjEnvC (mjC_m_9 hJ H) (fun e he => (by cases he)))))) (pr := []) (sp := 255) (cuts := []) (n := 36) (by decide +kernel)
def mjSm_m_47 : MjSm := ([(0, 13, 13, 0, 0), (0, 2, 2, 0, 0)], [], [((0, 1, 1, 0, 0), [], [])], [], 1)
set_option maxRecDepth 100000 in
theorem mjC_m_47 {J : MjW → Prop} (hJ : mjUok m4S m4U J) (H : mjHm J) : mjCtr m4S J 191 mjSm_m_47 := aiOk_ctr hJ (env := []) (fun e he => (by cases he)) (pr := []) (sp := 255) (cuts := []) (n := 13) (by decide +kernel)
def mjSm_m_49 : MjSm := ([(3, 240, 240, 0, 0), (0, 0, 5, 0, 0), (0, 0, 4, 0, 0), (0, -2147483648, 2147483647, 0, 0)], [(240, 42, (0, 0, 0, 0, 0)), (251, 0, (0, 13, 13, 0, 0))], [((0, 0, 0, 0, 0), [], []), ((0, 1, 1, 0, 0), [], [])], [(241, 49), (241, 50), (241, 51), (274, 255)], 5)
set_option maxRecDepth 100000 in
theorem mjC_m_49 {J : MjW → Prop} (hJ : mjUok m4S m4U J) (H : mjHm J) : mjCtr m4S J 225 mjSm_m_49 := aiOk_ctr hJ (env := [(230, mjSm_m_48), (191, mjSm_m_47), (226, mjSm_m_15), (223, mjSm_m_9)]) (mjEnvC (mjC_m_48 hJ H) (mjEnvC (mjC_m_47 hJ H) (mjEnvC (mjC_m_15 hJ H) (mjEnvC (mjC_m_9 hJ H) (fun e he => (by cases he)))))) (pr := []) (sp := 255) (cuts := []) (n := 36) (by decide +kernel)
def mjSm_m_50 : MjSm := ([(0, 14, 14, 0, 0), (0, 2, 2, 0, 0)], [], [((0, 1, 1, 0, 0), [], [])], [], 1)
set_option maxRecDepth 100000 in
theorem mjC_m_50 {J : MjW → Prop} (hJ : mjUok m4S m4U J) (H : mjHm J) : mjCtr m4S J 191 mjSm_m_50 := aiOk_ctr hJ (env := []) (fun e he => (by cases he)) (pr := []) (sp := 255) (cuts := []) (n := 13) (by decide +kernel)
def mjSm_m_52 : MjSm := ([(3, 240, 240, 0, 0), (0, 0, 5, 0, 0), (0, 0, 4, 0, 0), (0, -2147483648, 2147483647, 0, 0)], [(240, 42, (0, 0, 0, 0, 0)), (251, 0, (0, 14, 14, 0, 0))], [((0, 0, 0, 0, 0), [], []), ((0, 1, 1, 0, 0), [], [])], [(241, 49), (241, 50), (241, 51), (274, 255)], 5)
set_option maxRecDepth 100000 in
theorem mjC_m_52 {J : MjW → Prop} (hJ : mjUok m4S m4U J) (H : mjHm J) : mjCtr m4S J 225 mjSm_m_52 := aiOk_ctr hJ (env := [(230, mjSm_m_51), (191, mjSm_m_50), (226, mjSm_m_15), (223, mjSm_m_9)]) (mjEnvC (mjC_m_51 hJ H) (mjEnvC (mjC_m_50 hJ H) (mjEnvC (mjC_m_15 hJ H) (mjEnvC (mjC_m_9 hJ H) (fun e he => (by cases he)))))) (pr := []) (sp := 255) (cuts := []) (n := 36) (by decide +kernel)
def mjSm_m_53 : MjSm := ([(0, 15, 15, 0, 0), (0, 2, 2, 0, 0)], [], [((0, 1, 1, 0, 0), [], [])], [], 1)
set_option maxRecDepth 100000 in
theorem mjC_m_53 {J : MjW → Prop} (hJ : mjUok m4S m4U J) (H : mjHm J) : mjCtr m4S J 191 mjSm_m_53 := aiOk_ctr hJ (env := []) (fun e he => (by cases he)) (pr := []) (sp := 255) (cuts := []) (n := 13) (by decide +kernel)
def mjSm_m_55 : MjSm := ([(3, 240, 240, 0, 0), (0, 0, 5, 0, 0), (0, 0, 4, 0, 0), (0, -2147483648, 2147483647, 0, 0)], [(240, 42, (0, 0, 0, 0, 0)), (251, 0, (0, 15, 15, 0, 0))], [((0, 0, 0, 0, 0), [], []), ((0, 1, 1, 0, 0), [], [])], [(241, 49), (241, 50), (241, 51), (274, 255)], 5)
set_option maxRecDepth 100000 in
theorem mjC_m_55 {J : MjW → Prop} (hJ : mjUok m4S m4U J) (H : mjHm J) : mjCtr m4S J 225 mjSm_m_55 := aiOk_ctr hJ (env := [(230, mjSm_m_54), (191, mjSm_m_53), (226, mjSm_m_15), (223, mjSm_m_9)]) (mjEnvC (mjC_m_54 hJ H) (mjEnvC (mjC_m_53 hJ H) (mjEnvC (mjC_m_15 hJ H) (mjEnvC (mjC_m_9 hJ H) (fun e he => (by cases he)))))) (pr := []) (sp := 255) (cuts := []) (n := 36) (by decide +kernel)
def mjSm_m_56 : MjSm := ([(0, 16, 16, 0, 0), (0, 2, 2, 0, 0)], [], [((0, 0, 0, 0, 0), [], [])], [], 1)
set_option maxRecDepth 100000 in
theorem mjC_m_56 {J : MjW → Prop} (hJ : mjUok m4S m4U J) (H : mjHm J) : mjCtr m4S J 191 mjSm_m_56 := aiOk_ctr hJ (env := []) (fun e he => (by cases he)) (pr := []) (sp := 255) (cuts := []) (n := 12) (by decide +kernel)
def mjSm_m_57 : MjSm := ([(3, 240, 240, 0, 0), (0, 0, 5, 0, 0), (0, 0, 4, 0, 0), (0, -2147483648, 2147483647, 0, 0)], [(240, 42, (0, 0, 0, 0, 0)), (251, 0, (0, 16, 16, 0, 0))], [((0, 0, 0, 0, 0), [], []), ((0, 1, 1, 0, 0), [], [])], [(241, 49), (241, 50), (241, 51)], 5)
set_option maxRecDepth 100000 in
theorem mjC_m_57 {J : MjW → Prop} (hJ : mjUok m4S m4U J) (H : mjHm J) : mjCtr m4S J 225 mjSm_m_57 := aiOk_ctr hJ (env := [(191, mjSm_m_56), (226, mjSm_m_15), (223, mjSm_m_9)]) (mjEnvC (mjC_m_56 hJ H) (mjEnvC (mjC_m_15 hJ H) (mjEnvC (mjC_m_9 hJ H) (fun e he => (by cases he))))) (pr := []) (sp := 255) (cuts := []) (n := 52) (by decide +kernel)
def mjSm_m_58 : MjSm := ([(0, 17, 17, 0, 0), (0, 2, 2, 0, 0)], [], [((0, 0, 0, 0, 0), [], [])], [], 1)
set_option maxRecDepth 100000 in
theorem mjC_m_58 {J : MjW → Prop} (hJ : mjUok m4S m4U J) (H : mjHm J) : mjCtr m4S J 191 mjSm_m_58 := aiOk_ctr hJ (env := []) (fun e he => (by cases he)) (pr := []) (sp := 255) (cuts := []) (n := 12) (by decide +kernel)
def mjSm_m_59 : MjSm := ([(3, 240, 240, 0, 0), (0, 0, 5, 0, 0), (0, 0, 4, 0, 0), (0, -2147483648, 2147483647, 0, 0)], [(240, 42, (0, 0, 0, 0, 0)), (251, 0, (0, 17, 17, 0, 0))], [((0, 0, 0, 0, 0), [], []), ((0, 1, 1, 0, 0), [], [])], [(241, 49), (241, 50), (241, 51)], 5)
set_option maxRecDepth 100000 in
theorem mjC_m_59 {J : MjW → Prop} (hJ : mjUok m4S m4U J) (H : mjHm J) : mjCtr m4S J 225 mjSm_m_59 := aiOk_ctr hJ (env := [(191, mjSm_m_58), (226, mjSm_m_15), (223, mjSm_m_9)]) (mjEnvC (mjC_m_58 hJ H) (mjEnvC (mjC_m_15 hJ H) (mjEnvC (mjC_m_9 hJ H) (fun e he => (by cases he))))) (pr := []) (sp := 255) (cuts := []) (n := 52) (by decide +kernel)
def mjSm_m_60 : MjSm := ([(0, 18, 18, 0, 0), (0, 2, 2, 0, 0)], [], [((0, 0, 0, 0, 0), [], [])], [], 1)
set_option maxRecDepth 100000 in
theorem mjC_m_60 {J : MjW → Prop} (hJ : mjUok m4S m4U J) (H : mjHm J) : mjCtr m4S J 191 mjSm_m_60 := aiOk_ctr hJ (env := []) (fun e he => (by cases he)) (pr := []) (sp := 255) (cuts := []) (n := 12) (by decide +kernel)
def mjSm_m_61 : MjSm := ([(3, 240, 240, 0, 0), (0, 0, 5, 0, 0), (0, 0, 4, 0, 0), (0, -2147483648, 2147483647, 0, 0)], [(240, 42, (0, 0, 0, 0, 0)), (251, 0, (0, 18, 18, 0, 0))], [((0, 0, 0, 0, 0), [], []), ((0, 1, 1, 0, 0), [], [])], [(241, 49), (241, 50), (241, 51)], 5)
set_option maxRecDepth 100000 in
theorem mjC_m_61 {J : MjW → Prop} (hJ : mjUok m4S m4U J) (H : mjHm J) : mjCtr m4S J 225 mjSm_m_61 := aiOk_ctr hJ (env := [(191, mjSm_m_60), (226, mjSm_m_15), (223, mjSm_m_9)]) (mjEnvC (mjC_m_60 hJ H) (mjEnvC (mjC_m_15 hJ H) (mjEnvC (mjC_m_9 hJ H) (fun e he => (by cases he))))) (pr := []) (sp := 255) (cuts := []) (n := 52) (by decide +kernel)
def mjSm_m_62 : MjSm := ([(0, 19, 19, 0, 0), (0, 2, 2, 0, 0)], [], [((0, 0, 0, 0, 0), [], [])], [], 1)
set_option maxRecDepth 100000 in
theorem mjC_m_62 {J : MjW → Prop} (hJ : mjUok m4S m4U J) (H : mjHm J) : mjCtr m4S J 191 mjSm_m_62 := aiOk_ctr hJ (env := []) (fun e he => (by cases he)) (pr := []) (sp := 255) (cuts := []) (n := 12) (by decide +kernel)
def mjSm_m_63 : MjSm := ([(3, 240, 240, 0, 0), (0, 0, 5, 0, 0), (0, 0, 4, 0, 0), (0, -2147483648, 2147483647, 0, 0)], [(240, 42, (0, 0, 0, 0, 0)), (251, 0, (0, 19, 19, 0, 0))], [((0, 0, 0, 0, 0), [], []), ((0, 1, 1, 0, 0), [], [])], [(241, 49), (241, 50), (241, 51)], 5)
set_option maxRecDepth 100000 in
theorem mjC_m_63 {J : MjW → Prop} (hJ : mjUok m4S m4U J) (H : mjHm J) : mjCtr m4S J 225 mjSm_m_63 := aiOk_ctr hJ (env := [(191, mjSm_m_62), (226, mjSm_m_15), (223, mjSm_m_9)]) (mjEnvC (mjC_m_62 hJ H) (mjEnvC (mjC_m_15 hJ H) (mjEnvC (mjC_m_9 hJ H) (fun e he => (by cases he))))) (pr := []) (sp := 255) (cuts := []) (n := 52) (by decide +kernel)
def mjSm_m_64 : MjSm := ([(0, 20, 20, 0, 0), (0, 2, 2, 0, 0)], [], [((0, 1, 1, 0, 0), [], [])], [], 1)
set_option maxRecDepth 100000 in
theorem mjC_m_64 {J : MjW → Prop} (hJ : mjUok m4S m4U J) (H : mjHm J) : mjCtr m4S J 191 mjSm_m_64 := aiOk_ctr hJ (env := []) (fun e he => (by cases he)) (pr := []) (sp := 255) (cuts := []) (n := 13) (by decide +kernel)
def mjSm_m_66 : MjSm := ([(3, 240, 240, 0, 0), (0, 0, 5, 0, 0), (0, 0, 4, 0, 0), (0, -2147483648, 2147483647, 0, 0)], [(240, 42, (0, 0, 0, 0, 0)), (251, 0, (0, 20, 20, 0, 0))], [((0, 0, 0, 0, 0), [], []), ((0, 1, 1, 0, 0), [], [])], [(241, 49), (241, 50), (241, 51), (274, 255)], 5)
set_option maxRecDepth 100000 in
theorem mjC_m_66 {J : MjW → Prop} (hJ : mjUok m4S m4U J) (H : mjHm J) : mjCtr m4S J 225 mjSm_m_66 := aiOk_ctr hJ (env := [(230, mjSm_m_65), (191, mjSm_m_64), (226, mjSm_m_15), (223, mjSm_m_9)]) (mjEnvC (mjC_m_65 hJ H) (mjEnvC (mjC_m_64 hJ H) (mjEnvC (mjC_m_15 hJ H) (mjEnvC (mjC_m_9 hJ H) (fun e he => (by cases he)))))) (pr := []) (sp := 255) (cuts := []) (n := 36) (by decide +kernel)
def mjSm_m_67 : MjSm := ([(0, 21, 21, 0, 0), (0, 2, 2, 0, 0)], [], [((0, 1, 1, 0, 0), [], [])], [], 1)
set_option maxRecDepth 100000 in
theorem mjC_m_67 {J : MjW → Prop} (hJ : mjUok m4S m4U J) (H : mjHm J) : mjCtr m4S J 191 mjSm_m_67 := aiOk_ctr hJ (env := []) (fun e he => (by cases he)) (pr := []) (sp := 255) (cuts := []) (n := 13) (by decide +kernel)
def mjSm_m_69 : MjSm := ([(3, 240, 240, 0, 0), (0, 0, 5, 0, 0), (0, 0, 4, 0, 0), (0, -2147483648, 2147483647, 0, 0)], [(240, 42, (0, 0, 0, 0, 0)), (251, 0, (0, 21, 21, 0, 0))], [((0, 0, 0, 0, 0), [], []), ((0, 1, 1, 0, 0), [], [])], [(241, 49), (241, 50), (241, 51), (274, 255)], 5)
set_option maxRecDepth 100000 in
theorem mjC_m_69 {J : MjW → Prop} (hJ : mjUok m4S m4U J) (H : mjHm J) : mjCtr m4S J 225 mjSm_m_69 := aiOk_ctr hJ (env := [(230, mjSm_m_68), (191, mjSm_m_67), (226, mjSm_m_15), (223, mjSm_m_9)]) (mjEnvC (mjC_m_68 hJ H) (mjEnvC (mjC_m_67 hJ H) (mjEnvC (mjC_m_15 hJ H) (mjEnvC (mjC_m_9 hJ H) (fun e he => (by cases he)))))) (pr := []) (sp := 255) (cuts := []) (n := 36) (by decide +kernel)
def mjSm_m_70 : MjSm := ([(0, 22, 22, 0, 0), (0, 2, 2, 0, 0)], [], [((0, 1, 1, 0, 0), [], [])], [], 1)
set_option maxRecDepth 100000 in
theorem mjC_m_70 {J : MjW → Prop} (hJ : mjUok m4S m4U J) (H : mjHm J) : mjCtr m4S J 191 mjSm_m_70 := aiOk_ctr hJ (env := []) (fun e he => (by cases he)) (pr := []) (sp := 255) (cuts := []) (n := 13) (by decide +kernel)
def mjSm_m_72 : MjSm := ([(3, 240, 240, 0, 0), (0, 0, 5, 0, 0), (0, 0, 4, 0, 0), (0, -2147483648, 2147483647, 0, 0)], [(240, 42, (0, 0, 0, 0, 0)), (251, 0, (0, 22, 22, 0, 0))], [((0, 0, 0, 0, 0), [], []), ((0, 1, 1, 0, 0), [], [])], [(241, 49), (241, 50), (241, 51), (274, 255)], 5)
set_option maxRecDepth 100000 in
theorem mjC_m_72 {J : MjW → Prop} (hJ : mjUok m4S m4U J) (H : mjHm J) : mjCtr m4S J 225 mjSm_m_72 := aiOk_ctr hJ (env := [(230, mjSm_m_71), (191, mjSm_m_70), (226, mjSm_m_15), (223, mjSm_m_9)]) (mjEnvC (mjC_m_71 hJ H) (mjEnvC (mjC_m_70 hJ H) (mjEnvC (mjC_m_15 hJ H) (mjEnvC (mjC_m_9 hJ H) (fun e he => (by cases he)))))) (pr := []) (sp := 255) (cuts := []) (n := 36) (by decide +kernel)
def mjSm_m_73 : MjSm := ([(0, 23, 23, 0, 0), (0, 2, 2, 0, 0)], [], [((0, 1, 1, 0, 0), [], [])], [], 1)
set_option maxRecDepth 100000 in
theorem mjC_m_73 {J : MjW → Prop} (hJ : mjUok m4S m4U J) (H : mjHm J) : mjCtr m4S J 191 mjSm_m_73 := aiOk_ctr hJ (env := []) (fun e he => (by cases he)) (pr := []) (sp := 255) (cuts := []) (n := 13) (by decide +kernel)
def mjSm_m_75 : MjSm := ([(3, 240, 240, 0, 0), (0, 0, 5, 0, 0), (0, 0, 4, 0, 0), (0, -2147483648, 2147483647, 0, 0)], [(240, 42, (0, 0, 0, 0, 0)), (251, 0, (0, 23, 23, 0, 0))], [((0, 0, 0, 0, 0), [], []), ((0, 1, 1, 0, 0), [], [])], [(241, 49), (241, 50), (241, 51), (274, 255)], 5)
set_option maxRecDepth 100000 in
theorem mjC_m_75 {J : MjW → Prop} (hJ : mjUok m4S m4U J) (H : mjHm J) : mjCtr m4S J 225 mjSm_m_75 := aiOk_ctr hJ (env := [(230, mjSm_m_74), (191, mjSm_m_73), (226, mjSm_m_15), (223, mjSm_m_9)]) (mjEnvC (mjC_m_74 hJ H) (mjEnvC (mjC_m_73 hJ H) (mjEnvC (mjC_m_15 hJ H) (mjEnvC (mjC_m_9 hJ H) (fun e he => (by cases he)))))) (pr := []) (sp := 255) (cuts := []) (n := 36) (by decide +kernel)
def mjSm_m_76 : MjSm := ([(0, 24, 24, 0, 0), (0, 2, 2, 0, 0)], [], [((0, 0, 0, 0, 0), [], [])], [], 1)
set_option maxRecDepth 100000 in
theorem mjC_m_76 {J : MjW → Prop} (hJ : mjUok m4S m4U J) (H : mjHm J) : mjCtr m4S J 191 mjSm_m_76 := aiOk_ctr hJ (env := []) (fun e he => (by cases he)) (pr := []) (sp := 255) (cuts := []) (n := 12) (by decide +kernel)
def mjSm_m_77 : MjSm := ([(3, 240, 240, 0, 0), (0, 0, 5, 0, 0), (0, 0, 4, 0, 0), (0, -2147483648, 2147483647, 0, 0)], [(240, 42, (0, 0, 0, 0, 0)), (251, 0, (0, 24, 24, 0, 0))], [((0, 0, 0, 0, 0), [], []), ((0, 1, 1, 0, 0), [], [])], [(241, 49), (241, 50), (241, 51)], 5)
set_option maxRecDepth 100000 in
theorem mjC_m_77 {J : MjW → Prop} (hJ : mjUok m4S m4U J) (H : mjHm J) : mjCtr m4S J 225 mjSm_m_77 := aiOk_ctr hJ (env := [(191, mjSm_m_76), (226, mjSm_m_15), (223, mjSm_m_9)]) (mjEnvC (mjC_m_76 hJ H) (mjEnvC (mjC_m_15 hJ H) (mjEnvC (mjC_m_9 hJ H) (fun e he => (by cases he))))) (pr := []) (sp := 255) (cuts := []) (n := 52) (by decide +kernel)
def mjSm_m_78 : MjSm := ([(0, 25, 25, 0, 0), (0, 2, 2, 0, 0)], [], [((0, 0, 0, 0, 0), [], [])], [], 1)
set_option maxRecDepth 100000 in
theorem mjC_m_78 {J : MjW → Prop} (hJ : mjUok m4S m4U J) (H : mjHm J) : mjCtr m4S J 191 mjSm_m_78 := aiOk_ctr hJ (env := []) (fun e he => (by cases he)) (pr := []) (sp := 255) (cuts := []) (n := 12) (by decide +kernel)
def mjSm_m_79 : MjSm := ([(3, 240, 240, 0, 0), (0, 0, 5, 0, 0), (0, 0, 4, 0, 0), (0, -2147483648, 2147483647, 0, 0)], [(240, 42, (0, 0, 0, 0, 0)), (251, 0, (0, 25, 25, 0, 0))], [((0, 0, 0, 0, 0), [], []), ((0, 1, 1, 0, 0), [], [])], [(241, 49), (241, 50), (241, 51)], 5)
set_option maxRecDepth 100000 in
theorem mjC_m_79 {J : MjW → Prop} (hJ : mjUok m4S m4U J) (H : mjHm J) : mjCtr m4S J 225 mjSm_m_79 := aiOk_ctr hJ (env := [(191, mjSm_m_78), (226, mjSm_m_15), (223, mjSm_m_9)]) (mjEnvC (mjC_m_78 hJ H) (mjEnvC (mjC_m_15 hJ H) (mjEnvC (mjC_m_9 hJ H) (fun e he => (by cases he))))) (pr := []) (sp := 255) (cuts := []) (n := 52) (by decide +kernel)
def mjSm_m_80 : MjSm := ([(0, 26, 26, 0, 0), (0, 2, 2, 0, 0)], [], [((0, 0, 0, 0, 0), [], [])], [], 1)
set_option maxRecDepth 100000 in
theorem mjC_m_80 {J : MjW → Prop} (hJ : mjUok m4S m4U J) (H : mjHm J) : mjCtr m4S J 191 mjSm_m_80 := aiOk_ctr hJ (env := []) (fun e he => (by cases he)) (pr := []) (sp := 255) (cuts := []) (n := 12) (by decide +kernel)
def mjSm_m_81 : MjSm := ([(3, 240, 240, 0, 0), (0, 0, 5, 0, 0), (0, 0, 4, 0, 0), (0, -2147483648, 2147483647, 0, 0)], [(240, 42, (0, 0, 0, 0, 0)), (251, 0, (0, 26, 26, 0, 0))], [((0, 0, 0, 0, 0), [], []), ((0, 1, 1, 0, 0), [], [])], [(241, 49), (241, 50), (241, 51)], 5)
set_option maxRecDepth 100000 in
theorem mjC_m_81 {J : MjW → Prop} (hJ : mjUok m4S m4U J) (H : mjHm J) : mjCtr m4S J 225 mjSm_m_81 := aiOk_ctr hJ (env := [(191, mjSm_m_80), (226, mjSm_m_15), (223, mjSm_m_9)]) (mjEnvC (mjC_m_80 hJ H) (mjEnvC (mjC_m_15 hJ H) (mjEnvC (mjC_m_9 hJ H) (fun e he => (by cases he))))) (pr := []) (sp := 255) (cuts := []) (n := 52) (by decide +kernel)
def mjSm_m_82 : MjSm := ([(0, 27, 27, 0, 0), (0, 2, 2, 0, 0)], [], [((0, 0, 0, 0, 0), [], [])], [], 1)
set_option maxRecDepth 100000 in
theorem mjC_m_82 {J : MjW → Prop} (hJ : mjUok m4S m4U J) (H : mjHm J) : mjCtr m4S J 191 mjSm_m_82 := aiOk_ctr hJ (env := []) (fun e he => (by cases he)) (pr := []) (sp := 255) (cuts := []) (n := 12) (by decide +kernel)
def mjSm_m_83 : MjSm := ([(3, 240, 240, 0, 0), (0, 0, 5, 0, 0), (0, 0, 4, 0, 0), (0, -2147483648, 2147483647, 0, 0)], [(240, 42, (0, 0, 0, 0, 0)), (251, 0, (0, 27, 27, 0, 0))], [((0, 0, 0, 0, 0), [], []), ((0, 1, 1, 0, 0), [], [])], [(241, 49), (241, 50), (241, 51)], 5)
set_option maxRecDepth 100000 in
theorem mjC_m_83 {J : MjW → Prop} (hJ : mjUok m4S m4U J) (H : mjHm J) : mjCtr m4S J 225 mjSm_m_83 := aiOk_ctr hJ (env := [(191, mjSm_m_82), (226, mjSm_m_15), (223, mjSm_m_9)]) (mjEnvC (mjC_m_82 hJ H) (mjEnvC (mjC_m_15 hJ H) (mjEnvC (mjC_m_9 hJ H) (fun e he => (by cases he))))) (pr := []) (sp := 255) (cuts := []) (n := 52) (by decide +kernel)
def mjSm_m_84 : MjSm := ([(0, 28, 28, 0, 0), (0, 2, 2, 0, 0)], [], [((0, 1, 1, 0, 0), [], [])], [], 1)
set_option maxRecDepth 100000 in
theorem mjC_m_84 {J : MjW → Prop} (hJ : mjUok m4S m4U J) (H : mjHm J) : mjCtr m4S J 191 mjSm_m_84 := aiOk_ctr hJ (env := []) (fun e he => (by cases he)) (pr := []) (sp := 255) (cuts := []) (n := 13) (by decide +kernel)
def mjSm_m_86 : MjSm := ([(3, 240, 240, 0, 0), (0, 0, 5, 0, 0), (0, 0, 4, 0, 0), (0, -2147483648, 2147483647, 0, 0)], [(240, 42, (0, 0, 0, 0, 0)), (251, 0, (0, 28, 28, 0, 0))], [((0, 0, 0, 0, 0), [], []), ((0, 1, 1, 0, 0), [], [])], [(241, 49), (241, 50), (241, 51), (274, 255)], 5)
set_option maxRecDepth 100000 in
theorem mjC_m_86 {J : MjW → Prop} (hJ : mjUok m4S m4U J) (H : mjHm J) : mjCtr m4S J 225 mjSm_m_86 := aiOk_ctr hJ (env := [(230, mjSm_m_85), (191, mjSm_m_84), (226, mjSm_m_15), (223, mjSm_m_9)]) (mjEnvC (mjC_m_85 hJ H) (mjEnvC (mjC_m_84 hJ H) (mjEnvC (mjC_m_15 hJ H) (mjEnvC (mjC_m_9 hJ H) (fun e he => (by cases he)))))) (pr := []) (sp := 255) (cuts := []) (n := 36) (by decide +kernel)
def mjSm_m_87 : MjSm := ([(0, 29, 29, 0, 0), (0, 2, 2, 0, 0)], [], [((0, 1, 1, 0, 0), [], [])], [], 1)
set_option maxRecDepth 100000 in
theorem mjC_m_87 {J : MjW → Prop} (hJ : mjUok m4S m4U J) (H : mjHm J) : mjCtr m4S J 191 mjSm_m_87 := aiOk_ctr hJ (env := []) (fun e he => (by cases he)) (pr := []) (sp := 255) (cuts := []) (n := 13) (by decide +kernel)
def mjSm_m_89 : MjSm := ([(3, 240, 240, 0, 0), (0, 0, 5, 0, 0), (0, 0, 4, 0, 0), (0, -2147483648, 2147483647, 0, 0)], [(240, 42, (0, 0, 0, 0, 0)), (251, 0, (0, 29, 29, 0, 0))], [((0, 0, 0, 0, 0), [], []), ((0, 1, 1, 0, 0), [], [])], [(241, 49), (241, 50), (241, 51), (274, 255)], 5)
set_option maxRecDepth 100000 in
theorem mjC_m_89 {J : MjW → Prop} (hJ : mjUok m4S m4U J) (H : mjHm J) : mjCtr m4S J 225 mjSm_m_89 := aiOk_ctr hJ (env := [(230, mjSm_m_88), (191, mjSm_m_87), (226, mjSm_m_15), (223, mjSm_m_9)]) (mjEnvC (mjC_m_88 hJ H) (mjEnvC (mjC_m_87 hJ H) (mjEnvC (mjC_m_15 hJ H) (mjEnvC (mjC_m_9 hJ H) (fun e he => (by cases he)))))) (pr := []) (sp := 255) (cuts := []) (n := 36) (by decide +kernel)
def mjSm_m_90 : MjSm := ([(0, 30, 30, 0, 0), (0, 2, 2, 0, 0)], [], [((0, 1, 1, 0, 0), [], [])], [], 1)
set_option maxRecDepth 100000 in
theorem mjC_m_90 {J : MjW → Prop} (hJ : mjUok m4S m4U J) (H : mjHm J) : mjCtr m4S J 191 mjSm_m_90 := aiOk_ctr hJ (env := []) (fun e he => (by cases he)) (pr := []) (sp := 255) (cuts := []) (n := 13) (by decide +kernel)
def mjSm_m_92 : MjSm := ([(3, 240, 240, 0, 0), (0, 0, 5, 0, 0), (0, 0, 4, 0, 0), (0, -2147483648, 2147483647, 0, 0)], [(240, 42, (0, 0, 0, 0, 0)), (251, 0, (0, 30, 30, 0, 0))], [((0, 0, 0, 0, 0), [], []), ((0, 1, 1, 0, 0), [], [])], [(241, 49), (241, 50), (241, 51), (274, 255)], 5)
set_option maxRecDepth 100000 in
theorem mjC_m_92 {J : MjW → Prop} (hJ : mjUok m4S m4U J) (H : mjHm J) : mjCtr m4S J 225 mjSm_m_92 := aiOk_ctr hJ (env := [(230, mjSm_m_91), (191, mjSm_m_90), (226, mjSm_m_15), (223, mjSm_m_9)]) (mjEnvC (mjC_m_91 hJ H) (mjEnvC (mjC_m_90 hJ H) (mjEnvC (mjC_m_15 hJ H) (mjEnvC (mjC_m_9 hJ H) (fun e he => (by cases he)))))) (pr := []) (sp := 255) (cuts := []) (n := 36) (by decide +kernel)
def mjSm_m_93 : MjSm := ([(0, 31, 31, 0, 0), (0, 2, 2, 0, 0)], [], [((0, 1, 1, 0, 0), [], [])], [], 1)
set_option maxRecDepth 100000 in
theorem mjC_m_93 {J : MjW → Prop} (hJ : mjUok m4S m4U J) (H : mjHm J) : mjCtr m4S J 191 mjSm_m_93 := aiOk_ctr hJ (env := []) (fun e he => (by cases he)) (pr := []) (sp := 255) (cuts := []) (n := 13) (by decide +kernel)
def mjSm_m_95 : MjSm := ([(3, 240, 240, 0, 0), (0, 0, 5, 0, 0), (0, 0, 4, 0, 0), (0, -2147483648, 2147483647, 0, 0)], [(240, 42, (0, 0, 0, 0, 0)), (251, 0, (0, 31, 31, 0, 0))], [((0, 0, 0, 0, 0), [], []), ((0, 1, 1, 0, 0), [], [])], [(241, 49), (241, 50), (241, 51), (274, 255)], 5)
set_option maxRecDepth 100000 in
theorem mjC_m_95 {J : MjW → Prop} (hJ : mjUok m4S m4U J) (H : mjHm J) : mjCtr m4S J 225 mjSm_m_95 := aiOk_ctr hJ (env := [(230, mjSm_m_94), (191, mjSm_m_93), (226, mjSm_m_15), (223, mjSm_m_9)]) (mjEnvC (mjC_m_94 hJ H) (mjEnvC (mjC_m_93 hJ H) (mjEnvC (mjC_m_15 hJ H) (mjEnvC (mjC_m_9 hJ H) (fun e he => (by cases he)))))) (pr := []) (sp := 255) (cuts := []) (n := 36) (by decide +kernel)
def mjSm_m_96 : MjSm := ([(0, 32, 32, 0, 0), (0, 2, 2, 0, 0)], [], [((0, 0, 0, 0, 0), [], [])], [], 1)
set_option maxRecDepth 100000 in
theorem mjC_m_96 {J : MjW → Prop} (hJ : mjUok m4S m4U J) (H : mjHm J) : mjCtr m4S J 191 mjSm_m_96 := aiOk_ctr hJ (env := []) (fun e he => (by cases he)) (pr := []) (sp := 255) (cuts := []) (n := 12) (by decide +kernel)
def mjSm_m_97 : MjSm := ([(3, 240, 240, 0, 0), (0, 0, 5, 0, 0), (0, 0, 4, 0, 0), (0, -2147483648, 2147483647, 0, 0)], [(240, 42, (0, 0, 0, 0, 0)), (251, 0, (0, 32, 32, 0, 0))], [((0, 0, 0, 0, 0), [], []), ((0, 1, 1, 0, 0), [], [])], [(241, 49), (241, 50), (241, 51)], 5)
set_option maxRecDepth 100000 in
theorem mjC_m_97 {J : MjW → Prop} (hJ : mjUok m4S m4U J) (H : mjHm J) : mjCtr m4S J 225 mjSm_m_97 := aiOk_ctr hJ (env := [(191, mjSm_m_96), (226, mjSm_m_15), (223, mjSm_m_9)]) (mjEnvC (mjC_m_96 hJ H) (mjEnvC (mjC_m_15 hJ H) (mjEnvC (mjC_m_9 hJ H) (fun e he => (by cases he))))) (pr := []) (sp := 255) (cuts := []) (n := 52) (by decide +kernel)
def mjSm_m_98 : MjSm := ([(0, 33, 33, 0, 0), (0, 2, 2, 0, 0)], [], [((0, 0, 0, 0, 0), [], [])], [], 1)
set_option maxRecDepth 100000 in
theorem mjC_m_98 {J : MjW → Prop} (hJ : mjUok m4S m4U J) (H : mjHm J) : mjCtr m4S J 191 mjSm_m_98 := aiOk_ctr hJ (env := []) (fun e he => (by cases he)) (pr := []) (sp := 255) (cuts := []) (n := 12) (by decide +kernel)
def mjSm_m_99 : MjSm := ([(3, 240, 240, 0, 0), (0, 0, 5, 0, 0), (0, 0, 4, 0, 0), (0, -2147483648, 2147483647, 0, 0)], [(240, 42, (0, 0, 0, 0, 0)), (251, 0, (0, 33, 33, 0, 0))], [((0, 0, 0, 0, 0), [], []), ((0, 1, 1, 0, 0), [], [])], [(241, 49), (241, 50), (241, 51)], 5)
set_option maxRecDepth 100000 in
theorem mjC_m_99 {J : MjW → Prop} (hJ : mjUok m4S m4U J) (H : mjHm J) : mjCtr m4S J 225 mjSm_m_99 := aiOk_ctr hJ (env := [(191, mjSm_m_98), (226, mjSm_m_15), (223, mjSm_m_9)]) (mjEnvC (mjC_m_98 hJ H) (mjEnvC (mjC_m_15 hJ H) (mjEnvC (mjC_m_9 hJ H) (fun e he => (by cases he))))) (pr := []) (sp := 255) (cuts := []) (n := 52) (by decide +kernel)
def mjSm_m_100 : MjSm := ([(0, 34, 34, 0, 0), (0, 2, 2, 0, 0)], [], [((0, 0, 0, 0, 0), [], [])], [], 1)
set_option maxRecDepth 100000 in
theorem mjC_m_100 {J : MjW → Prop} (hJ : mjUok m4S m4U J) (H : mjHm J) : mjCtr m4S J 191 mjSm_m_100 := aiOk_ctr hJ (env := []) (fun e he => (by cases he)) (pr := []) (sp := 255) (cuts := []) (n := 12) (by decide +kernel)
def mjSm_m_101 : MjSm := ([(3, 240, 240, 0, 0), (0, 0, 5, 0, 0), (0, 0, 4, 0, 0), (0, -2147483648, 2147483647, 0, 0)], [(240, 42, (0, 0, 0, 0, 0)), (251, 0, (0, 34, 34, 0, 0))], [((0, 0, 0, 0, 0), [], []), ((0, 1, 1, 0, 0), [], [])], [(241, 49), (241, 50), (241, 51)], 5)
set_option maxRecDepth 100000 in
theorem mjC_m_101 {J : MjW → Prop} (hJ : mjUok m4S m4U J) (H : mjHm J) : mjCtr m4S J 225 mjSm_m_101 := aiOk_ctr hJ (env := [(191, mjSm_m_100), (226, mjSm_m_15), (223, mjSm_m_9)]) (mjEnvC (mjC_m_100 hJ H) (mjEnvC (mjC_m_15 hJ H) (mjEnvC (mjC_m_9 hJ H) (fun e he => (by cases he))))) (pr := []) (sp := 255) (cuts := []) (n := 52) (by decide +kernel)
def mjSm_m_102 : MjSm := ([(0, 35, 35, 0, 0), (0, 2, 2, 0, 0)], [], [((0, 0, 0, 0, 0), [], [])], [], 1)
set_option maxRecDepth 100000 in
theorem mjC_m_102 {J : MjW → Prop} (hJ : mjUok m4S m4U J) (H : mjHm J) : mjCtr m4S J 191 mjSm_m_102 := aiOk_ctr hJ (env := []) (fun e he => (by cases he)) (pr := []) (sp := 255) (cuts := []) (n := 12) (by decide +kernel)
def mjSm_m_103 : MjSm := ([(3, 240, 240, 0, 0), (0, 0, 5, 0, 0), (0, 0, 4, 0, 0), (0, -2147483648, 2147483647, 0, 0)], [(240, 42, (0, 0, 0, 0, 0)), (251, 0, (0, 35, 35, 0, 0))], [((0, 0, 0, 0, 0), [], []), ((0, 1, 1, 0, 0), [], [])], [(241, 49), (241, 50), (241, 51)], 5)
set_option maxRecDepth 100000 in
theorem mjC_m_103 {J : MjW → Prop} (hJ : mjUok m4S m4U J) (H : mjHm J) : mjCtr m4S J 225 mjSm_m_103 := aiOk_ctr hJ (env := [(191, mjSm_m_102), (226, mjSm_m_15), (223, mjSm_m_9)]) (mjEnvC (mjC_m_102 hJ H) (mjEnvC (mjC_m_15 hJ H) (mjEnvC (mjC_m_9 hJ H) (fun e he => (by cases he))))) (pr := []) (sp := 255) (cuts := []) (n := 52) (by decide +kernel)
def mjSm_m_104 : MjSm := ([(0, 36, 36, 0, 0), (0, 2, 2, 0, 0)], [], [((0, 1, 1, 0, 0), [], [])], [], 1)
set_option maxRecDepth 100000 in
theorem mjC_m_104 {J : MjW → Prop} (hJ : mjUok m4S m4U J) (H : mjHm J) : mjCtr m4S J 191 mjSm_m_104 := aiOk_ctr hJ (env := []) (fun e he => (by cases he)) (pr := []) (sp := 255) (cuts := []) (n := 13) (by decide +kernel)
def mjSm_m_106 : MjSm := ([(3, 240, 240, 0, 0), (0, 0, 5, 0, 0), (0, 0, 4, 0, 0), (0, -2147483648, 2147483647, 0, 0)], [(240, 42, (0, 0, 0, 0, 0)), (251, 0, (0, 36, 36, 0, 0))], [((0, 0, 0, 0, 0), [], []), ((0, 1, 1, 0, 0), [], [])], [(241, 49), (241, 50), (241, 51), (274, 255)], 5)
set_option maxRecDepth 100000 in
theorem mjC_m_106 {J : MjW → Prop} (hJ : mjUok m4S m4U J) (H : mjHm J) : mjCtr m4S J 225 mjSm_m_106 := aiOk_ctr hJ (env := [(230, mjSm_m_105), (191, mjSm_m_104), (226, mjSm_m_15), (223, mjSm_m_9)]) (mjEnvC (mjC_m_105 hJ H) (mjEnvC (mjC_m_104 hJ H) (mjEnvC (mjC_m_15 hJ H) (mjEnvC (mjC_m_9 hJ H) (fun e he => (by cases he)))))) (pr := []) (sp := 255) (cuts := []) (n := 36) (by decide +kernel)
def mjSm_m_107 : MjSm := ([(0, 37, 37, 0, 0), (0, 2, 2, 0, 0)], [], [((0, 1, 1, 0, 0), [], [])], [], 1)
set_option maxRecDepth 100000 in
theorem mjC_m_107 {J : MjW → Prop} (hJ : mjUok m4S m4U J) (H : mjHm J) : mjCtr m4S J 191 mjSm_m_107 := aiOk_ctr hJ (env := []) (fun e he => (by cases he)) (pr := []) (sp := 255) (cuts := []) (n := 13) (by decide +kernel)
def mjSm_m_109 : MjSm := ([(3, 240, 240, 0, 0), (0, 0, 5, 0, 0), (0, 0, 4, 0, 0), (0, -2147483648, 2147483647, 0, 0)], [(240, 42, (0, 0, 0, 0, 0)), (251, 0, (0, 37, 37, 0, 0))], [((0, 0, 0, 0, 0), [], []), ((0, 1, 1, 0, 0), [], [])], [(241, 49), (241, 50), (241, 51), (274, 255)], 5)
set_option maxRecDepth 100000 in
theorem mjC_m_109 {J : MjW → Prop} (hJ : mjUok m4S m4U J) (H : mjHm J) : mjCtr m4S J 225 mjSm_m_109 := aiOk_ctr hJ (env := [(230, mjSm_m_108), (191, mjSm_m_107), (226, mjSm_m_15), (223, mjSm_m_9)]) (mjEnvC (mjC_m_108 hJ H) (mjEnvC (mjC_m_107 hJ H) (mjEnvC (mjC_m_15 hJ H) (mjEnvC (mjC_m_9 hJ H) (fun e he => (by cases he)))))) (pr := []) (sp := 255) (cuts := []) (n := 36) (by decide +kernel)
def mjSm_m_110 : MjSm := ([(0, 38, 38, 0, 0), (0, 2, 2, 0, 0)], [], [((0, 1, 1, 0, 0), [], [])], [], 1)
set_option maxRecDepth 100000 in
theorem mjC_m_110 {J : MjW → Prop} (hJ : mjUok m4S m4U J) (H : mjHm J) : mjCtr m4S J 191 mjSm_m_110 := aiOk_ctr hJ (env := []) (fun e he => (by cases he)) (pr := []) (sp := 255) (cuts := []) (n := 13) (by decide +kernel)
def mjSm_m_112 : MjSm := ([(3, 240, 240, 0, 0), (0, 0, 5, 0, 0), (0, 0, 4, 0, 0), (0, -2147483648, 2147483647, 0, 0)], [(240, 42, (0, 0, 0, 0, 0)), (251, 0, (0, 38, 38, 0, 0))], [((0, 0, 0, 0, 0), [], []), ((0, 1, 1, 0, 0), [], [])], [(241, 49), (241, 50), (241, 51), (274, 255)], 5)
set_option maxRecDepth 100000 in
theorem mjC_m_112 {J : MjW → Prop} (hJ : mjUok m4S m4U J) (H : mjHm J) : mjCtr m4S J 225 mjSm_m_112 := aiOk_ctr hJ (env := [(230, mjSm_m_111), (191, mjSm_m_110), (226, mjSm_m_15), (223, mjSm_m_9)]) (mjEnvC (mjC_m_111 hJ H) (mjEnvC (mjC_m_110 hJ H) (mjEnvC (mjC_m_15 hJ H) (mjEnvC (mjC_m_9 hJ H) (fun e he => (by cases he)))))) (pr := []) (sp := 255) (cuts := []) (n := 36) (by decide +kernel)
def mjSm_m_113 : MjSm := ([(0, 39, 39, 0, 0), (0, 2, 2, 0, 0)], [], [((0, 1, 1, 0, 0), [], [])], [], 1)
set_option maxRecDepth 100000 in
theorem mjC_m_113 {J : MjW → Prop} (hJ : mjUok m4S m4U J) (H : mjHm J) : mjCtr m4S J 191 mjSm_m_113 := aiOk_ctr hJ (env := []) (fun e he => (by cases he)) (pr := []) (sp := 255) (cuts := []) (n := 13) (by decide +kernel)
def mjSm_m_115 : MjSm := ([(3, 240, 240, 0, 0), (0, 0, 5, 0, 0), (0, 0, 4, 0, 0), (0, -2147483648, 2147483647, 0, 0)], [(240, 42, (0, 0, 0, 0, 0)), (251, 0, (0, 39, 39, 0, 0))], [((0, 0, 0, 0, 0), [], []), ((0, 1, 1, 0, 0), [], [])], [(241, 49), (241, 50), (241, 51), (274, 255)], 5)
set_option maxRecDepth 100000 in
theorem mjC_m_115 {J : MjW → Prop} (hJ : mjUok m4S m4U J) (H : mjHm J) : mjCtr m4S J 225 mjSm_m_115 := aiOk_ctr hJ (env := [(230, mjSm_m_114), (191, mjSm_m_113), (226, mjSm_m_15), (223, mjSm_m_9)]) (mjEnvC (mjC_m_114 hJ H) (mjEnvC (mjC_m_113 hJ H) (mjEnvC (mjC_m_15 hJ H) (mjEnvC (mjC_m_9 hJ H) (fun e he => (by cases he)))))) (pr := []) (sp := 255) (cuts := []) (n := 36) (by decide +kernel)
def mjSm_m_116 : MjSm := ([(0, 40, 40, 0, 0), (0, 2, 2, 0, 0)], [], [((0, 0, 0, 0, 0), [], [])], [], 1)
set_option maxRecDepth 100000 in
theorem mjC_m_116 {J : MjW → Prop} (hJ : mjUok m4S m4U J) (H : mjHm J) : mjCtr m4S J 191 mjSm_m_116 := aiOk_ctr hJ (env := []) (fun e he => (by cases he)) (pr := []) (sp := 255) (cuts := []) (n := 12) (by decide +kernel)
def mjSm_m_117 : MjSm := ([(3, 240, 240, 0, 0), (0, 0, 5, 0, 0), (0, 0, 4, 0, 0), (0, -2147483648, 2147483647, 0, 0)], [(240, 42, (0, 0, 0, 0, 0)), (251, 0, (0, 40, 40, 0, 0))], [((0, 0, 0, 0, 0), [], []), ((0, 1, 1, 0, 0), [], [])], [(241, 49), (241, 50), (241, 51)], 5)
set_option maxRecDepth 100000 in
theorem mjC_m_117 {J : MjW → Prop} (hJ : mjUok m4S m4U J) (H : mjHm J) : mjCtr m4S J 225 mjSm_m_117 := aiOk_ctr hJ (env := [(191, mjSm_m_116), (226, mjSm_m_15), (223, mjSm_m_9)]) (mjEnvC (mjC_m_116 hJ H) (mjEnvC (mjC_m_15 hJ H) (mjEnvC (mjC_m_9 hJ H) (fun e he => (by cases he))))) (pr := []) (sp := 255) (cuts := []) (n := 52) (by decide +kernel)
def mjSm_m_118 : MjSm := ([(0, 41, 41, 0, 0), (0, 2, 2, 0, 0)], [], [((0, 0, 0, 0, 0), [], [])], [], 1)
set_option maxRecDepth 100000 in
theorem mjC_m_118 {J : MjW → Prop} (hJ : mjUok m4S m4U J) (H : mjHm J) : mjCtr m4S J 191 mjSm_m_118 := aiOk_ctr hJ (env := []) (fun e he => (by cases he)) (pr := []) (sp := 255) (cuts := []) (n := 12) (by decide +kernel)
def mjSm_m_119 : MjSm := ([(3, 240, 240, 0, 0), (0, 0, 5, 0, 0), (0, 0, 4, 0, 0), (0, -2147483648, 2147483647, 0, 0)], [(240, 42, (0, 0, 0, 0, 0)), (251, 0, (0, 41, 41, 0, 0))], [((0, 0, 0, 0, 0), [], []), ((0, 1, 1, 0, 0), [], [])], [(241, 49), (241, 50), (241, 51)], 5)
set_option maxRecDepth 100000 in
theorem mjC_m_119 {J : MjW → Prop} (hJ : mjUok m4S m4U J) (H : mjHm J) : mjCtr m4S J 225 mjSm_m_119 := aiOk_ctr hJ (env := [(191, mjSm_m_118), (226, mjSm_m_15), (223, mjSm_m_9)]) (mjEnvC (mjC_m_118 hJ H) (mjEnvC (mjC_m_15 hJ H) (mjEnvC (mjC_m_9 hJ H) (fun e he => (by cases he))))) (pr := []) (sp := 255) (cuts := []) (n := 52) (by decide +kernel)
def mjSm_m_120 : MjSm := ([(0, 42, 42, 0, 0), (0, 2, 2, 0, 0)], [], [((0, 0, 0, 0, 0), [], [])], [], 1)
set_option maxRecDepth 100000 in
theorem mjC_m_120 {J : MjW → Prop} (hJ : mjUok m4S m4U J) (H : mjHm J) : mjCtr m4S J 191 mjSm_m_120 := aiOk_ctr hJ (env := []) (fun e he => (by cases he)) (pr := []) (sp := 255) (cuts := []) (n := 12) (by decide +kernel)
def mjSm_m_121 : MjSm := ([(3, 240, 240, 0, 0), (0, 0, 5, 0, 0), (0, 0, 4, 0, 0), (0, -2147483648, 2147483647, 0, 0)], [(240, 42, (0, 0, 0, 0, 0)), (251, 0, (0, 42, 42, 0, 0))], [((0, 0, 0, 0, 0), [], []), ((0, 1, 1, 0, 0), [], [])], [(241, 49), (241, 50), (241, 51)], 5)
set_option maxRecDepth 100000 in
theorem mjC_m_121 {J : MjW → Prop} (hJ : mjUok m4S m4U J) (H : mjHm J) : mjCtr m4S J 225 mjSm_m_121 := aiOk_ctr hJ (env := [(191, mjSm_m_120), (226, mjSm_m_15), (223, mjSm_m_9)]) (mjEnvC (mjC_m_120 hJ H) (mjEnvC (mjC_m_15 hJ H) (mjEnvC (mjC_m_9 hJ H) (fun e he => (by cases he))))) (pr := []) (sp := 255) (cuts := []) (n := 52) (by decide +kernel)
def mjSm_m_122 : MjSm := ([(0, 43, 43, 0, 0), (0, 2, 2, 0, 0)], [], [((0, 0, 0, 0, 0), [], [])], [], 1)
set_option maxRecDepth 100000 in
theorem mjC_m_122 {J : MjW → Prop} (hJ : mjUok m4S m4U J) (H : mjHm J) : mjCtr m4S J 191 mjSm_m_122 := aiOk_ctr hJ (env := []) (fun e he => (by cases he)) (pr := []) (sp := 255) (cuts := []) (n := 12) (by decide +kernel)
def mjSm_m_123 : MjSm := ([(3, 240, 240, 0, 0), (0, 0, 5, 0, 0), (0, 0, 4, 0, 0), (0, -2147483648, 2147483647, 0, 0)], [(240, 42, (0, 0, 0, 0, 0)), (251, 0, (0, 43, 43, 0, 0))], [((0, 0, 0, 0, 0), [], []), ((0, 1, 1, 0, 0), [], [])], [(241, 49), (241, 50), (241, 51)], 5)
set_option maxRecDepth 100000 in
theorem mjC_m_123 {J : MjW → Prop} (hJ : mjUok m4S m4U J) (H : mjHm J) : mjCtr m4S J 225 mjSm_m_123 := aiOk_ctr hJ (env := [(191, mjSm_m_122), (226, mjSm_m_15), (223, mjSm_m_9)]) (mjEnvC (mjC_m_122 hJ H) (mjEnvC (mjC_m_15 hJ H) (mjEnvC (mjC_m_9 hJ H) (fun e he => (by cases he))))) (pr := []) (sp := 255) (cuts := []) (n := 52) (by decide +kernel)
def mjSm_m_124 : MjSm := ([(0, 44, 44, 0, 0), (0, 2, 2, 0, 0)], [], [((0, 1, 1, 0, 0), [], [])], [], 1)
set_option maxRecDepth 100000 in
theorem mjC_m_124 {J : MjW → Prop} (hJ : mjUok m4S m4U J) (H : mjHm J) : mjCtr m4S J 191 mjSm_m_124 := aiOk_ctr hJ (env := []) (fun e he => (by cases he)) (pr := []) (sp := 255) (cuts := []) (n := 13) (by decide +kernel)
def mjSm_m_126 : MjSm := ([(3, 240, 240, 0, 0), (0, 0, 5, 0, 0), (0, 0, 4, 0, 0), (0, -2147483648, 2147483647, 0, 0)], [(240, 42, (0, 0, 0, 0, 0)), (251, 0, (0, 44, 44, 0, 0))], [((0, 0, 0, 0, 0), [], []), ((0, 1, 1, 0, 0), [], [])], [(241, 49), (241, 50), (241, 51), (274, 255)], 5)
set_option maxRecDepth 100000 in
theorem mjC_m_126 {J : MjW → Prop} (hJ : mjUok m4S m4U J) (H : mjHm J) : mjCtr m4S J 225 mjSm_m_126 := aiOk_ctr hJ (env := [(230, mjSm_m_125), (191, mjSm_m_124), (226, mjSm_m_15), (223, mjSm_m_9)]) (mjEnvC (mjC_m_125 hJ H) (mjEnvC (mjC_m_124 hJ H) (mjEnvC (mjC_m_15 hJ H) (mjEnvC (mjC_m_9 hJ H) (fun e he => (by cases he)))))) (pr := []) (sp := 255) (cuts := []) (n := 36) (by decide +kernel)
def mjSm_m_127 : MjSm := ([(0, 45, 45, 0, 0), (0, 2, 2, 0, 0)], [], [((0, 1, 1, 0, 0), [], [])], [], 1)
set_option maxRecDepth 100000 in
theorem mjC_m_127 {J : MjW → Prop} (hJ : mjUok m4S m4U J) (H : mjHm J) : mjCtr m4S J 191 mjSm_m_127 := aiOk_ctr hJ (env := []) (fun e he => (by cases he)) (pr := []) (sp := 255) (cuts := []) (n := 13) (by decide +kernel)
def mjSm_m_129 : MjSm := ([(3, 240, 240, 0, 0), (0, 0, 5, 0, 0), (0, 0, 4, 0, 0), (0, -2147483648, 2147483647, 0, 0)], [(240, 42, (0, 0, 0, 0, 0)), (251, 0, (0, 45, 45, 0, 0))], [((0, 0, 0, 0, 0), [], []), ((0, 1, 1, 0, 0), [], [])], [(241, 49), (241, 50), (241, 51), (274, 255)], 5)
set_option maxRecDepth 100000 in
theorem mjC_m_129 {J : MjW → Prop} (hJ : mjUok m4S m4U J) (H : mjHm J) : mjCtr m4S J 225 mjSm_m_129 := aiOk_ctr hJ (env := [(230, mjSm_m_128), (191, mjSm_m_127), (226, mjSm_m_15), (223, mjSm_m_9)]) (mjEnvC (mjC_m_128 hJ H) (mjEnvC (mjC_m_127 hJ H) (mjEnvC (mjC_m_15 hJ H) (mjEnvC (mjC_m_9 hJ H) (fun e he => (by cases he)))))) (pr := []) (sp := 255) (cuts := []) (n := 36) (by decide +kernel)
def mjSm_m_130 : MjSm := ([(0, 46, 46, 0, 0), (0, 2, 2, 0, 0)], [], [((0, 1, 1, 0, 0), [], [])], [], 1)
set_option maxRecDepth 100000 in
theorem mjC_m_130 {J : MjW → Prop} (hJ : mjUok m4S m4U J) (H : mjHm J) : mjCtr m4S J 191 mjSm_m_130 := aiOk_ctr hJ (env := []) (fun e he => (by cases he)) (pr := []) (sp := 255) (cuts := []) (n := 13) (by decide +kernel)
def mjSm_m_132 : MjSm := ([(3, 240, 240, 0, 0), (0, 0, 5, 0, 0), (0, 0, 4, 0, 0), (0, -2147483648, 2147483647, 0, 0)], [(240, 42, (0, 0, 0, 0, 0)), (251, 0, (0, 46, 46, 0, 0))], [((0, 0, 0, 0, 0), [], []), ((0, 1, 1, 0, 0), [], [])], [(241, 49), (241, 50), (241, 51), (274, 255)], 5)
set_option maxRecDepth 100000 in
theorem mjC_m_132 {J : MjW → Prop} (hJ : mjUok m4S m4U J) (H : mjHm J) : mjCtr m4S J 225 mjSm_m_132 := aiOk_ctr hJ (env := [(230, mjSm_m_131), (191, mjSm_m_130), (226, mjSm_m_15), (223, mjSm_m_9)]) (mjEnvC (mjC_m_131 hJ H) (mjEnvC (mjC_m_130 hJ H) (mjEnvC (mjC_m_15 hJ H) (mjEnvC (mjC_m_9 hJ H) (fun e he => (by cases he)))))) (pr := []) (sp := 255) (cuts := []) (n := 36) (by decide +kernel)
def mjSm_m_133 : MjSm := ([(0, 47, 47, 0, 0), (0, 2, 2, 0, 0)], [], [((0, 1, 1, 0, 0), [], [])], [], 1)
set_option maxRecDepth 100000 in
theorem mjC_m_133 {J : MjW → Prop} (hJ : mjUok m4S m4U J) (H : mjHm J) : mjCtr m4S J 191 mjSm_m_133 := aiOk_ctr hJ (env := []) (fun e he => (by cases he)) (pr := []) (sp := 255) (cuts := []) (n := 13) (by decide +kernel)
def mjSm_m_135 : MjSm := ([(3, 240, 240, 0, 0), (0, 0, 5, 0, 0), (0, 0, 4, 0, 0), (0, -2147483648, 2147483647, 0, 0)], [(240, 42, (0, 0, 0, 0, 0)), (251, 0, (0, 47, 47, 0, 0))], [((0, 0, 0, 0, 0), [], []), ((0, 1, 1, 0, 0), [], [])], [(241, 49), (241, 50), (241, 51), (274, 255)], 5)
set_option maxRecDepth 100000 in
theorem mjC_m_135 {J : MjW → Prop} (hJ : mjUok m4S m4U J) (H : mjHm J) : mjCtr m4S J 225 mjSm_m_135 := aiOk_ctr hJ (env := [(230, mjSm_m_134), (191, mjSm_m_133), (226, mjSm_m_15), (223, mjSm_m_9)]) (mjEnvC (mjC_m_134 hJ H) (mjEnvC (mjC_m_133 hJ H) (mjEnvC (mjC_m_15 hJ H) (mjEnvC (mjC_m_9 hJ H) (fun e he => (by cases he)))))) (pr := []) (sp := 255) (cuts := []) (n := 36) (by decide +kernel)
def mjSm_m_136 : MjSm := ([(0, 48, 48, 0, 0), (0, 2, 2, 0, 0)], [], [((0, 0, 0, 0, 0), [], [])], [], 1)
set_option maxRecDepth 100000 in
theorem mjC_m_136 {J : MjW → Prop} (hJ : mjUok m4S m4U J) (H : mjHm J) : mjCtr m4S J 191 mjSm_m_136 := aiOk_ctr hJ (env := []) (fun e he => (by cases he)) (pr := []) (sp := 255) (cuts := []) (n := 12) (by decide +kernel)
def mjSm_m_137 : MjSm := ([(3, 240, 240, 0, 0), (0, 0, 5, 0, 0), (0, 0, 4, 0, 0), (0, -2147483648, 2147483647, 0, 0)], [(240, 42, (0, 0, 0, 0, 0)), (251, 0, (0, 48, 48, 0, 0))], [((0, 0, 0, 0, 0), [], []), ((0, 1, 1, 0, 0), [], [])], [(241, 49), (241, 50), (241, 51)], 5)
set_option maxRecDepth 100000 in
theorem mjC_m_137 {J : MjW → Prop} (hJ : mjUok m4S m4U J) (H : mjHm J) : mjCtr m4S J 225 mjSm_m_137 := aiOk_ctr hJ (env := [(191, mjSm_m_136), (226, mjSm_m_15), (223, mjSm_m_9)]) (mjEnvC (mjC_m_136 hJ H) (mjEnvC (mjC_m_15 hJ H) (mjEnvC (mjC_m_9 hJ H) (fun e he => (by cases he))))) (pr := []) (sp := 255) (cuts := []) (n := 52) (by decide +kernel)
def mjSm_m_138 : MjSm := ([(0, 49, 49, 0, 0), (0, 2, 2, 0, 0)], [], [((0, 0, 0, 0, 0), [], [])], [], 1)
set_option maxRecDepth 100000 in
theorem mjC_m_138 {J : MjW → Prop} (hJ : mjUok m4S m4U J) (H : mjHm J) : mjCtr m4S J 191 mjSm_m_138 := aiOk_ctr hJ (env := []) (fun e he => (by cases he)) (pr := []) (sp := 255) (cuts := []) (n := 12) (by decide +kernel)
def mjSm_m_139 : MjSm := ([(3, 240, 240, 0, 0), (0, 0, 5, 0, 0), (0, 0, 4, 0, 0), (0, -2147483648, 2147483647, 0, 0)], [(240, 42, (0, 0, 0, 0, 0)), (251, 0, (0, 49, 49, 0, 0))], [((0, 0, 0, 0, 0), [], []), ((0, 1, 1, 0, 0), [], [])], [(241, 49), (241, 50), (241, 51)], 5)
set_option maxRecDepth 100000 in
theorem mjC_m_139 {J : MjW → Prop} (hJ : mjUok m4S m4U J) (H : mjHm J) : mjCtr m4S J 225 mjSm_m_139 := aiOk_ctr hJ (env := [(191, mjSm_m_138), (226, mjSm_m_15), (223, mjSm_m_9)]) (mjEnvC (mjC_m_138 hJ H) (mjEnvC (mjC_m_15 hJ H) (mjEnvC (mjC_m_9 hJ H) (fun e he => (by cases he))))) (pr := []) (sp := 255) (cuts := []) (n := 52) (by decide +kernel)
def mjSm_m_140 : MjSm := ([(0, 50, 50, 0, 0), (0, 2, 2, 0, 0)], [], [((0, 0, 0, 0, 0), [], [])], [], 1)
set_option maxRecDepth 100000 in
theorem mjC_m_140 {J : MjW → Prop} (hJ : mjUok m4S m4U J) (H : mjHm J) : mjCtr m4S J 191 mjSm_m_140 := aiOk_ctr hJ (env := []) (fun e he => (by cases he)) (pr := []) (sp := 255) (cuts := []) (n := 12) (by decide +kernel)
def mjSm_m_141 : MjSm := ([(3, 240, 240, 0, 0), (0, 0, 5, 0, 0), (0, 0, 4, 0, 0), (0, -2147483648, 2147483647, 0, 0)], [(240, 42, (0, 0, 0, 0, 0)), (251, 0, (0, 50, 50, 0, 0))], [((0, 0, 0, 0, 0), [], []), ((0, 1, 1, 0, 0), [], [])], [(241, 49), (241, 50), (241, 51)], 5)
set_option maxRecDepth 100000 in
theorem mjC_m_141 {J : MjW → Prop} (hJ : mjUok m4S m4U J) (H : mjHm J) : mjCtr m4S J 225 mjSm_m_141 := aiOk_ctr hJ (env := [(191, mjSm_m_140), (226, mjSm_m_15), (223, mjSm_m_9)]) (mjEnvC (mjC_m_140 hJ H) (mjEnvC (mjC_m_15 hJ H) (mjEnvC (mjC_m_9 hJ H) (fun e he => (by cases he))))) (pr := []) (sp := 255) (cuts := []) (n := 52) (by decide +kernel)
def mjSm_m_142 : MjSm := ([(0, 51, 51, 0, 0), (0, 2, 2, 0, 0)], [], [((0, 0, 0, 0, 0), [], [])], [], 1)
set_option maxRecDepth 100000 in
theorem mjC_m_142 {J : MjW → Prop} (hJ : mjUok m4S m4U J) (H : mjHm J) : mjCtr m4S J 191 mjSm_m_142 := aiOk_ctr hJ (env := []) (fun e he => (by cases he)) (pr := []) (sp := 255) (cuts := []) (n := 12) (by decide +kernel)
def mjSm_m_143 : MjSm := ([(3, 240, 240, 0, 0), (0, 0, 5, 0, 0), (0, 0, 4, 0, 0), (0, -2147483648, 2147483647, 0, 0)], [(240, 42, (0, 0, 0, 0, 0)), (251, 0, (0, 51, 51, 0, 0))], [((0, 0, 0, 0, 0), [], []), ((0, 1, 1, 0, 0), [], [])], [(241, 49), (241, 50), (241, 51)], 5)
set_option maxRecDepth 100000 in
theorem mjC_m_143 {J : MjW → Prop} (hJ : mjUok m4S m4U J) (H : mjHm J) : mjCtr m4S J 225 mjSm_m_143 := aiOk_ctr hJ (env := [(191, mjSm_m_142), (226, mjSm_m_15), (223, mjSm_m_9)]) (mjEnvC (mjC_m_142 hJ H) (mjEnvC (mjC_m_15 hJ H) (mjEnvC (mjC_m_9 hJ H) (fun e he => (by cases he))))) (pr := []) (sp := 255) (cuts := []) (n := 52) (by decide +kernel)
def mjSm_m_144 : MjSm := ([(0, 52, 52, 0, 0), (0, 2, 2, 0, 0)], [], [((0, 1, 1, 0, 0), [], [])], [], 1)
set_option maxRecDepth 100000 in
theorem mjC_m_144 {J : MjW → Prop} (hJ : mjUok m4S m4U J) (H : mjHm J) : mjCtr m4S J 191 mjSm_m_144 := aiOk_ctr hJ (env := []) (fun e he => (by cases he)) (pr := []) (sp := 255) (cuts := []) (n := 13) (by decide +kernel)
def mjSm_m_146 : MjSm := ([(3, 240, 240, 0, 0), (0, 0, 5, 0, 0), (0, 0, 4, 0, 0), (0, -2147483648, 2147483647, 0, 0)], [(240, 42, (0, 0, 0, 0, 0)), (251, 0, (0, 52, 52, 0, 0))], [((0, 0, 0, 0, 0), [], []), ((0, 1, 1, 0, 0), [], [])], [(241, 49), (241, 50), (241, 51), (274, 255)], 5)
set_option maxRecDepth 100000 in
theorem mjC_m_146 {J : MjW → Prop} (hJ : mjUok m4S m4U J) (H : mjHm J) : mjCtr m4S J 225 mjSm_m_146 := aiOk_ctr hJ (env := [(230, mjSm_m_145), (191, mjSm_m_144), (226, mjSm_m_15), (223, mjSm_m_9)]) (mjEnvC (mjC_m_145 hJ H) (mjEnvC (mjC_m_144 hJ H) (mjEnvC (mjC_m_15 hJ H) (mjEnvC (mjC_m_9 hJ H) (fun e he => (by cases he)))))) (pr := []) (sp := 255) (cuts := []) (n := 36) (by decide +kernel)
def mjSm_m_147 : MjSm := ([(0, 53, 53, 0, 0), (0, 2, 2, 0, 0)], [], [((0, 1, 1, 0, 0), [], [])], [], 1)
set_option maxRecDepth 100000 in
theorem mjC_m_147 {J : MjW → Prop} (hJ : mjUok m4S m4U J) (H : mjHm J) : mjCtr m4S J 191 mjSm_m_147 := aiOk_ctr hJ (env := []) (fun e he => (by cases he)) (pr := []) (sp := 255) (cuts := []) (n := 13) (by decide +kernel)
def mjSm_m_149 : MjSm := ([(3, 240, 240, 0, 0), (0, 0, 5, 0, 0), (0, 0, 4, 0, 0), (0, -2147483648, 2147483647, 0, 0)], [(240, 42, (0, 0, 0, 0, 0)), (251, 0, (0, 53, 53, 0, 0))], [((0, 0, 0, 0, 0), [], []), ((0, 1, 1, 0, 0), [], [])], [(241, 49), (241, 50), (241, 51), (274, 255)], 5)
set_option maxRecDepth 100000 in
theorem mjC_m_149 {J : MjW → Prop} (hJ : mjUok m4S m4U J) (H : mjHm J) : mjCtr m4S J 225 mjSm_m_149 := aiOk_ctr hJ (env := [(230, mjSm_m_148), (191, mjSm_m_147), (226, mjSm_m_15), (223, mjSm_m_9)]) (mjEnvC (mjC_m_148 hJ H) (mjEnvC (mjC_m_147 hJ H) (mjEnvC (mjC_m_15 hJ H) (mjEnvC (mjC_m_9 hJ H) (fun e he => (by cases he)))))) (pr := []) (sp := 255) (cuts := []) (n := 36) (by decide +kernel)
def mjSm_m_150 : MjSm := ([(0, 54, 54, 0, 0), (0, 2, 2, 0, 0)], [], [((0, 1, 1, 0, 0), [], [])], [], 1)
set_option maxRecDepth 100000 in
theorem mjC_m_150 {J : MjW → Prop} (hJ : mjUok m4S m4U J) (H : mjHm J) : mjCtr m4S J 191 mjSm_m_150 := aiOk_ctr hJ (env := []) (fun e he => (by cases he)) (pr := []) (sp := 255) (cuts := []) (n := 13) (by decide +kernel)
def mjSm_m_152 : MjSm := ([(3, 240, 240, 0, 0), (0, 0, 5, 0, 0), (0, 0, 4, 0, 0), (0, -2147483648, 2147483647, 0, 0)], [(240, 42, (0, 0, 0, 0, 0)), (251, 0, (0, 54, 54, 0, 0))], [((0, 0, 0, 0, 0), [], []), ((0, 1, 1, 0, 0), [], [])], [(241, 49), (241, 50), (241, 51), (274, 255)], 5)
set_option maxRecDepth 100000 in
theorem mjC_m_152 {J : MjW → Prop} (hJ : mjUok m4S m4U J) (H : mjHm J) : mjCtr m4S J 225 mjSm_m_152 := aiOk_ctr hJ (env := [(230, mjSm_m_151), (191, mjSm_m_150), (226, mjSm_m_15), (223, mjSm_m_9)]) (mjEnvC (mjC_m_151 hJ H) (mjEnvC (mjC_m_150 hJ H) (mjEnvC (mjC_m_15 hJ H) (mjEnvC (mjC_m_9 hJ H) (fun e he => (by cases he)))))) (pr := []) (sp := 255) (cuts := []) (n := 36) (by decide +kernel)
def mjSm_m_153 : MjSm := ([(0, 55, 55, 0, 0), (0, 2, 2, 0, 0)], [], [((0, 1, 1, 0, 0), [], [])], [], 1)
set_option maxRecDepth 100000 in
theorem mjC_m_153 {J : MjW → Prop} (hJ : mjUok m4S m4U J) (H : mjHm J) : mjCtr m4S J 191 mjSm_m_153 := aiOk_ctr hJ (env := []) (fun e he => (by cases he)) (pr := []) (sp := 255) (cuts := []) (n := 13) (by decide +kernel)
def mjSm_m_155 : MjSm := ([(3, 240, 240, 0, 0), (0, 0, 5, 0, 0), (0, 0, 4, 0, 0), (0, -2147483648, 2147483647, 0, 0)], [(240, 42, (0, 0, 0, 0, 0)), (251, 0, (0, 55, 55, 0, 0))], [((0, 0, 0, 0, 0), [], []), ((0, 1, 1, 0, 0), [], [])], [(241, 49), (241, 50), (241, 51), (274, 255)], 5)
set_option maxRecDepth 100000 in
theorem mjC_m_155 {J : MjW → Prop} (hJ : mjUok m4S m4U J) (H : mjHm J) : mjCtr m4S J 225 mjSm_m_155 := aiOk_ctr hJ (env := [(230, mjSm_m_154), (191, mjSm_m_153), (226, mjSm_m_15), (223, mjSm_m_9)]) (mjEnvC (mjC_m_154 hJ H) (mjEnvC (mjC_m_153 hJ H) (mjEnvC (mjC_m_15 hJ H) (mjEnvC (mjC_m_9 hJ H) (fun e he => (by cases he)))))) (pr := []) (sp := 255) (cuts := []) (n := 36) (by decide +kernel)
def mjSm_m_156 : MjSm := ([(0, 56, 56, 0, 0), (0, 2, 2, 0, 0)], [], [((0, 0, 0, 0, 0), [], [])], [], 1)
set_option maxRecDepth 100000 in
theorem mjC_m_156 {J : MjW → Prop} (hJ : mjUok m4S m4U J) (H : mjHm J) : mjCtr m4S J 191 mjSm_m_156 := aiOk_ctr hJ (env := []) (fun e he => (by cases he)) (pr := []) (sp := 255) (cuts := []) (n := 12) (by decide +kernel)
def mjSm_m_157 : MjSm := ([(3, 240, 240, 0, 0), (0, 0, 5, 0, 0), (0, 0, 4, 0, 0), (0, -2147483648, 2147483647, 0, 0)], [(240, 42, (0, 0, 0, 0, 0)), (251, 0, (0, 56, 56, 0, 0))], [((0, 0, 0, 0, 0), [], []), ((0, 1, 1, 0, 0), [], [])], [(241, 49), (241, 50), (241, 51)], 5)
set_option maxRecDepth 100000 in
theorem mjC_m_157 {J : MjW → Prop} (hJ : mjUok m4S m4U J) (H : mjHm J) : mjCtr m4S J 225 mjSm_m_157 := aiOk_ctr hJ (env := [(191, mjSm_m_156), (226, mjSm_m_15), (223, mjSm_m_9)]) (mjEnvC (mjC_m_156 hJ H) (mjEnvC (mjC_m_15 hJ H) (mjEnvC (mjC_m_9 hJ H) (fun e he => (by cases he))))) (pr := []) (sp := 255) (cuts := []) (n := 52) (by decide +kernel)
def mjSm_m_158 : MjSm := ([(0, 57, 57, 0, 0), (0, 2, 2, 0, 0)], [], [((0, 0, 0, 0, 0), [], [])], [], 1)
set_option maxRecDepth 100000 in
theorem mjC_m_158 {J : MjW → Prop} (hJ : mjUok m4S m4U J) (H : mjHm J) : mjCtr m4S J 191 mjSm_m_158 := aiOk_ctr hJ (env := []) (fun e he => (by cases he)) (pr := []) (sp := 255) (cuts := []) (n := 12) (by decide +kernel)
def mjSm_m_159 : MjSm := ([(3, 240, 240, 0, 0), (0, 0, 5, 0, 0), (0, 0, 4, 0, 0), (0, -2147483648, 2147483647, 0, 0)], [(240, 42, (0, 0, 0, 0, 0)), (251, 0, (0, 57, 57, 0, 0))], [((0, 0, 0, 0, 0), [], []), ((0, 1, 1, 0, 0), [], [])], [(241, 49), (241, 50), (241, 51)], 5)
set_option maxRecDepth 100000 in
theorem mjC_m_159 {J : MjW → Prop} (hJ : mjUok m4S m4U J) (H : mjHm J) : mjCtr m4S J 225 mjSm_m_159 := aiOk_ctr hJ (env := [(191, mjSm_m_158), (226, mjSm_m_15), (223, mjSm_m_9)]) (mjEnvC (mjC_m_158 hJ H) (mjEnvC (mjC_m_15 hJ H) (mjEnvC (mjC_m_9 hJ H) (fun e he => (by cases he))))) (pr := []) (sp := 255) (cuts := []) (n := 52) (by decide +kernel)
def mjSm_m_160 : MjSm := ([(0, 58, 58, 0, 0), (0, 2, 2, 0, 0)], [], [((0, 0, 0, 0, 0), [], [])], [], 1)
set_option maxRecDepth 100000 in
theorem mjC_m_160 {J : MjW → Prop} (hJ : mjUok m4S m4U J) (H : mjHm J) : mjCtr m4S J 191 mjSm_m_160 := aiOk_ctr hJ (env := []) (fun e he => (by cases he)) (pr := []) (sp := 255) (cuts := []) (n := 12) (by decide +kernel)
def mjSm_m_161 : MjSm := ([(3, 240, 240, 0, 0), (0, 0, 5, 0, 0), (0, 0, 4, 0, 0), (0, -2147483648, 2147483647, 0, 0)], [(240, 42, (0, 0, 0, 0, 0)), (251, 0, (0, 58, 58, 0, 0))], [((0, 0, 0, 0, 0), [], []), ((0, 1, 1, 0, 0), [], [])], [(241, 49), (241, 50), (241, 51)], 5)
set_option maxRecDepth 100000 in
theorem mjC_m_161 {J : MjW → Prop} (hJ : mjUok m4S m4U J) (H : mjHm J) : mjCtr m4S J 225 mjSm_m_161 := aiOk_ctr hJ (env := [(191, mjSm_m_160), (226, mjSm_m_15), (223, mjSm_m_9)]) (mjEnvC (mjC_m_160 hJ H) (mjEnvC (mjC_m_15 hJ H) (mjEnvC (mjC_m_9 hJ H) (fun e he => (by cases he))))) (pr := []) (sp := 255) (cuts := []) (n := 52) (by decide +kernel)
def mjSm_m_162 : MjSm := ([(0, 59, 59, 0, 0), (0, 2, 2, 0, 0)], [], [((0, 0, 0, 0, 0), [], [])], [], 1)
set_option maxRecDepth 100000 in
theorem mjC_m_162 {J : MjW → Prop} (hJ : mjUok m4S m4U J) (H : mjHm J) : mjCtr m4S J 191 mjSm_m_162 := aiOk_ctr hJ (env := []) (fun e he => (by cases he)) (pr := []) (sp := 255) (cuts := []) (n := 12) (by decide +kernel)
def mjSm_m_163 : MjSm := ([(3, 240, 240, 0, 0), (0, 0, 5, 0, 0), (0, 0, 4, 0, 0), (0, -2147483648, 2147483647, 0, 0)], [(240, 42, (0, 0, 0, 0, 0)), (251, 0, (0, 59, 59, 0, 0))], [((0, 0, 0, 0, 0), [], []), ((0, 1, 1, 0, 0), [], [])], [(241, 49), (241, 50), (241, 51)], 5)
set_option maxRecDepth 100000 in
theorem mjC_m_163 {J : MjW → Prop} (hJ : mjUok m4S m4U J) (H : mjHm J) : mjCtr m4S J 225 mjSm_m_163 := aiOk_ctr hJ (env := [(191, mjSm_m_162), (226, mjSm_m_15), (223, mjSm_m_9)]) (mjEnvC (mjC_m_162 hJ H) (mjEnvC (mjC_m_15 hJ H) (mjEnvC (mjC_m_9 hJ H) (fun e he => (by cases he))))) (pr := []) (sp := 255) (cuts := []) (n := 52) (by decide +kernel)
def mjSm_m_164 : MjSm := ([(0, 60, 60, 0, 0), (0, 2, 2, 0, 0)], [], [((0, 1, 1, 0, 0), [], [])], [], 1)
set_option maxRecDepth 100000 in
theorem mjC_m_164 {J : MjW → Prop} (hJ : mjUok m4S m4U J) (H : mjHm J) : mjCtr m4S J 191 mjSm_m_164 := aiOk_ctr hJ (env := []) (fun e he => (by cases he)) (pr := []) (sp := 255) (cuts := []) (n := 13) (by decide +kernel)
def mjSm_m_166 : MjSm := ([(3, 240, 240, 0, 0), (0, 0, 5, 0, 0), (0, 0, 4, 0, 0), (0, -2147483648, 2147483647, 0, 0)], [(240, 42, (0, 0, 0, 0, 0)), (251, 0, (0, 60, 60, 0, 0))], [((0, 0, 0, 0, 0), [], []), ((0, 1, 1, 0, 0), [], [])], [(241, 49), (241, 50), (241, 51), (274, 255)], 5)
set_option maxRecDepth 100000 in
theorem mjC_m_166 {J : MjW → Prop} (hJ : mjUok m4S m4U J) (H : mjHm J) : mjCtr m4S J 225 mjSm_m_166 := aiOk_ctr hJ (env := [(230, mjSm_m_165), (191, mjSm_m_164), (226, mjSm_m_15), (223, mjSm_m_9)]) (mjEnvC (mjC_m_165 hJ H) (mjEnvC (mjC_m_164 hJ H) (mjEnvC (mjC_m_15 hJ H) (mjEnvC (mjC_m_9 hJ H) (fun e he => (by cases he)))))) (pr := []) (sp := 255) (cuts := []) (n := 36) (by decide +kernel)
def mjSm_m_167 : MjSm := ([(0, 61, 61, 0, 0), (0, 2, 2, 0, 0)], [], [((0, 1, 1, 0, 0), [], [])], [], 1)
set_option maxRecDepth 100000 in
theorem mjC_m_167 {J : MjW → Prop} (hJ : mjUok m4S m4U J) (H : mjHm J) : mjCtr m4S J 191 mjSm_m_167 := aiOk_ctr hJ (env := []) (fun e he => (by cases he)) (pr := []) (sp := 255) (cuts := []) (n := 13) (by decide +kernel)
def mjSm_m_169 : MjSm := ([(3, 240, 240, 0, 0), (0, 0, 5, 0, 0), (0, 0, 4, 0, 0), (0, -2147483648, 2147483647, 0, 0)], [(240, 42, (0, 0, 0, 0, 0)), (251, 0, (0, 61, 61, 0, 0))], [((0, 0, 0, 0, 0), [], []), ((0, 1, 1, 0, 0), [], [])], [(241, 49), (241, 50), (241, 51), (274, 255)], 5)
set_option maxRecDepth 100000 in
theorem mjC_m_169 {J : MjW → Prop} (hJ : mjUok m4S m4U J) (H : mjHm J) : mjCtr m4S J 225 mjSm_m_169 := aiOk_ctr hJ (env := [(230, mjSm_m_168), (191, mjSm_m_167), (226, mjSm_m_15), (223, mjSm_m_9)]) (mjEnvC (mjC_m_168 hJ H) (mjEnvC (mjC_m_167 hJ H) (mjEnvC (mjC_m_15 hJ H) (mjEnvC (mjC_m_9 hJ H) (fun e he => (by cases he)))))) (pr := []) (sp := 255) (cuts := []) (n := 36) (by decide +kernel)
def mjSm_m_170 : MjSm := ([(0, 62, 62, 0, 0), (0, 2, 2, 0, 0)], [], [((0, 1, 1, 0, 0), [], [])], [], 1)
set_option maxRecDepth 100000 in
theorem mjC_m_170 {J : MjW → Prop} (hJ : mjUok m4S m4U J) (H : mjHm J) : mjCtr m4S J 191 mjSm_m_170 := aiOk_ctr hJ (env := []) (fun e he => (by cases he)) (pr := []) (sp := 255) (cuts := []) (n := 13) (by decide +kernel)
def mjSm_m_172 : MjSm := ([(3, 240, 240, 0, 0), (0, 0, 5, 0, 0), (0, 0, 4, 0, 0), (0, -2147483648, 2147483647, 0, 0)], [(240, 42, (0, 0, 0, 0, 0)), (251, 0, (0, 62, 62, 0, 0))], [((0, 0, 0, 0, 0), [], []), ((0, 1, 1, 0, 0), [], [])], [(241, 49), (241, 50), (241, 51), (274, 255)], 5)
set_option maxRecDepth 100000 in
theorem mjC_m_172 {J : MjW → Prop} (hJ : mjUok m4S m4U J) (H : mjHm J) : mjCtr m4S J 225 mjSm_m_172 := aiOk_ctr hJ (env := [(230, mjSm_m_171), (191, mjSm_m_170), (226, mjSm_m_15), (223, mjSm_m_9)]) (mjEnvC (mjC_m_171 hJ H) (mjEnvC (mjC_m_170 hJ H) (mjEnvC (mjC_m_15 hJ H) (mjEnvC (mjC_m_9 hJ H) (fun e he => (by cases he)))))) (pr := []) (sp := 255) (cuts := []) (n := 36) (by decide +kernel)
def mjSm_m_173 : MjSm := ([(0, 63, 63, 0, 0), (0, 2, 2, 0, 0)], [], [((0, 1, 1, 0, 0), [], [])], [], 1)
set_option maxRecDepth 100000 in
theorem mjC_m_173 {J : MjW → Prop} (hJ : mjUok m4S m4U J) (H : mjHm J) : mjCtr m4S J 191 mjSm_m_173 := aiOk_ctr hJ (env := []) (fun e he => (by cases he)) (pr := []) (sp := 255) (cuts := []) (n := 13) (by decide +kernel)
def mjSm_m_175 : MjSm := ([(3, 240, 240, 0, 0), (0, 0, 5, 0, 0), (0, 0, 4, 0, 0), (0, -2147483648, 2147483647, 0, 0)], [(240, 42, (0, 0, 0, 0, 0)), (251, 0, (0, 63, 63, 0, 0))], [((0, 0, 0, 0, 0), [], []), ((0, 1, 1, 0, 0), [], [])], [(241, 49), (241, 50), (241, 51), (274, 255)], 5)
set_option maxRecDepth 100000 in
theorem mjC_m_175 {J : MjW → Prop} (hJ : mjUok m4S m4U J) (H : mjHm J) : mjCtr m4S J 225 mjSm_m_175 := aiOk_ctr hJ (env := [(230, mjSm_m_174), (191, mjSm_m_173), (226, mjSm_m_15), (223, mjSm_m_9)]) (mjEnvC (mjC_m_174 hJ H) (mjEnvC (mjC_m_173 hJ H) (mjEnvC (mjC_m_15 hJ H) (mjEnvC (mjC_m_9 hJ H) (fun e he => (by cases he)))))) (pr := []) (sp := 255) (cuts := []) (n := 36) (by decide +kernel)
def mjSm_m_176 : MjSm := ([(3, 240, 240, 0, 0), (0, 0, 5, 0, 0), (0, 0, 4, 0, 0), (0, -2147483648, 2147483647, 0, 0)], [(240, 42, (0, 1, 1, 0, 0)), (251, 1, (0, 0, 0, 0, 0))], [((0, 0, 0, 0, 0), [], []), ((0, 1, 1, 0, 0), [], [])], [(241, 49), (241, 50), (241, 51)], 5)
set_option maxRecDepth 100000 in
theorem mjC_m_176 {J : MjW → Prop} (hJ : mjUok m4S m4U J) (H : mjHm J) : mjCtr m4S J 225 mjSm_m_176 := aiOk_ctr hJ (env := [(191, mjSm_m_16), (226, mjSm_m_15), (223, mjSm_m_9)]) (mjEnvC (mjC_m_16 hJ H) (mjEnvC (mjC_m_15 hJ H) (mjEnvC (mjC_m_9 hJ H) (fun e he => (by cases he))))) (pr := []) (sp := 255) (cuts := []) (n := 52) (by decide +kernel)
def mjSm_m_177 : MjSm := ([(3, 240, 240, 0, 0), (0, 0, 5, 0, 0), (0, 0, 4, 0, 0), (0, -2147483648, 2147483647, 0, 0)], [(240, 42, (0, 1, 1, 0, 0)), (251, 1, (0, 1, 1, 0, 0))], [((0, 0, 0, 0, 0), [], []), ((0, 1, 1, 0, 0), [], [])], [(241, 49), (241, 50), (241, 51)], 5)
set_option maxRecDepth 100000 in
theorem mjC_m_177 {J : MjW → Prop} (hJ : mjUok m4S m4U J) (H : mjHm J) : mjCtr m4S J 225 mjSm_m_177 := aiOk_ctr hJ (env := [(191, mjSm_m_18), (226, mjSm_m_15), (223, mjSm_m_9)]) (mjEnvC (mjC_m_18 hJ H) (mjEnvC (mjC_m_15 hJ H) (mjEnvC (mjC_m_9 hJ H) (fun e he => (by cases he))))) (pr := []) (sp := 255) (cuts := []) (n := 52) (by decide +kernel)
def mjSm_m_178 : MjSm := ([(3, 240, 240, 0, 0), (0, 0, 5, 0, 0), (0, 0, 4, 0, 0), (0, -2147483648, 2147483647, 0, 0)], [(240, 42, (0, 1, 1, 0, 0)), (251, 1, (0, 2, 2, 0, 0))], [((0, 0, 0, 0, 0), [], []), ((0, 1, 1, 0, 0), [], [])], [(241, 49), (241, 50), (241, 51)], 5)
set_option maxRecDepth 100000 in
theorem mjC_m_178 {J : MjW → Prop} (hJ : mjUok m4S m4U J) (H : mjHm J) : mjCtr m4S J 225 mjSm_m_178 := aiOk_ctr hJ (env := [(191, mjSm_m_20), (226, mjSm_m_15), (223, mjSm_m_9)]) (mjEnvC (mjC_m_20 hJ H) (mjEnvC (mjC_m_15 hJ H) (mjEnvC (mjC_m_9 hJ H) (fun e he => (by cases he))))) (pr := []) (sp := 255) (cuts := []) (n := 52) (by decide +kernel)
def mjSm_m_179 : MjSm := ([(3, 240, 240, 0, 0), (0, 0, 5, 0, 0), (0, 0, 4, 0, 0), (0, -2147483648, 2147483647, 0, 0)], [(240, 42, (0, 1, 1, 0, 0)), (251, 1, (0, 3, 3, 0, 0))], [((0, 0, 0, 0, 0), [], []), ((0, 1, 1, 0, 0), [], [])], [(241, 49), (241, 50), (241, 51)], 5)
set_option maxRecDepth 100000 in
theorem mjC_m_179 {J : MjW → Prop} (hJ : mjUok m4S m4U J) (H : mjHm J) : mjCtr m4S J 225 mjSm_m_179 := aiOk_ctr hJ (env := [(191, mjSm_m_22), (226, mjSm_m_15), (223, mjSm_m_9)]) (mjEnvC (mjC_m_22 hJ H) (mjEnvC (mjC_m_15 hJ H) (mjEnvC (mjC_m_9 hJ H) (fun e he => (by cases he))))) (pr := []) (sp := 255) (cuts := []) (n := 52) (by decide +kernel)
def mjSm_m_181 : MjSm := ([(3, 240, 240, 0, 0), (0, 0, 5, 0, 0), (0, 0, 4, 0, 0), (0, -2147483648, 2147483647, 0, 0)], [(240, 42, (0, 1, 1, 0, 0)), (251, 1, (0, 4, 4, 0, 0))], [((0, 0, 0, 0, 0), [], []), ((0, 1, 1, 0, 0), [], [])], [(241, 49), (241, 50), (241, 51), (274, 255)], 5)
set_option maxRecDepth 100000 in
theorem mjC_m_181 {J : MjW → Prop} (hJ : mjUok m4S m4U J) (H : mjHm J) : mjCtr m4S J 225 mjSm_m_181 := aiOk_ctr hJ (env := [(230, mjSm_m_180), (191, mjSm_m_24), (226, mjSm_m_15), (223, mjSm_m_9)]) (mjEnvC (mjC_m_180 hJ H) (mjEnvC (mjC_m_24 hJ H) (mjEnvC (mjC_m_15 hJ H) (mjEnvC (mjC_m_9 hJ H) (fun e he => (by cases he)))))) (pr := []) (sp := 255) (cuts := []) (n := 36) (by decide +kernel)
def mjSm_m_183 : MjSm := ([(3, 240, 240, 0, 0), (0, 0, 5, 0, 0), (0, 0, 4, 0, 0), (0, -2147483648, 2147483647, 0, 0)], [(240, 42, (0, 1, 1, 0, 0)), (251, 1, (0, 5, 5, 0, 0))], [((0, 0, 0, 0, 0), [], []), ((0, 1, 1, 0, 0), [], [])], [(241, 49), (241, 50), (241, 51), (274, 255)], 5)
set_option maxRecDepth 100000 in
theorem mjC_m_183 {J : MjW → Prop} (hJ : mjUok m4S m4U J) (H : mjHm J) : mjCtr m4S J 225 mjSm_m_183 := aiOk_ctr hJ (env := [(230, mjSm_m_182), (191, mjSm_m_27), (226, mjSm_m_15), (223, mjSm_m_9)]) (mjEnvC (mjC_m_182 hJ H) (mjEnvC (mjC_m_27 hJ H) (mjEnvC (mjC_m_15 hJ H) (mjEnvC (mjC_m_9 hJ H) (fun e he => (by cases he)))))) (pr := []) (sp := 255) (cuts := []) (n := 36) (by decide +kernel)
def mjSm_m_185 : MjSm := ([(3, 240, 240, 0, 0), (0, 0, 5, 0, 0), (0, 0, 4, 0, 0), (0, -2147483648, 2147483647, 0, 0)], [(240, 42, (0, 1, 1, 0, 0)), (251, 1, (0, 6, 6, 0, 0))], [((0, 0, 0, 0, 0), [], []), ((0, 1, 1, 0, 0), [], [])], [(241, 49), (241, 50), (241, 51), (274, 255)], 5)
set_option maxRecDepth 100000 in
theorem mjC_m_185 {J : MjW → Prop} (hJ : mjUok m4S m4U J) (H : mjHm J) : mjCtr m4S J 225 mjSm_m_185 := aiOk_ctr hJ (env := [(230, mjSm_m_184), (191, mjSm_m_30), (226, mjSm_m_15), (223, mjSm_m_9)]) (mjEnvC (mjC_m_184 hJ H) (mjEnvC (mjC_m_30 hJ H) (mjEnvC (mjC_m_15 hJ H) (mjEnvC (mjC_m_9 hJ H) (fun e he => (by cases he)))))) (pr := []) (sp := 255) (cuts := []) (n := 36) (by decide +kernel)
def mjSm_m_187 : MjSm := ([(3, 240, 240, 0, 0), (0, 0, 5, 0, 0), (0, 0, 4, 0, 0), (0, -2147483648, 2147483647, 0, 0)], [(240, 42, (0, 1, 1, 0, 0)), (251, 1, (0, 7, 7, 0, 0))], [((0, 0, 0, 0, 0), [], []), ((0, 1, 1, 0, 0), [], [])], [(241, 49), (241, 50), (241, 51), (274, 255)], 5)
set_option maxRecDepth 100000 in
theorem mjC_m_187 {J : MjW → Prop} (hJ : mjUok m4S m4U J) (H : mjHm J) : mjCtr m4S J 225 mjSm_m_187 := aiOk_ctr hJ (env := [(230, mjSm_m_186), (191, mjSm_m_33), (226, mjSm_m_15), (223, mjSm_m_9)]) (mjEnvC (mjC_m_186 hJ H) (mjEnvC (mjC_m_33 hJ H) (mjEnvC (mjC_m_15 hJ H) (mjEnvC (mjC_m_9 hJ H) (fun e he => (by cases he)))))) (pr := []) (sp := 255) (cuts := []) (n := 36) (by decide +kernel)
def mjSm_m_188 : MjSm := ([(3, 240, 240, 0, 0), (0, 0, 5, 0, 0), (0, 0, 4, 0, 0), (0, -2147483648, 2147483647, 0, 0)], [(240, 42, (0, 1, 1, 0, 0)), (251, 1, (0, 8, 8, 0, 0))], [((0, 0, 0, 0, 0), [], []), ((0, 1, 1, 0, 0), [], [])], [(241, 49), (241, 50), (241, 51)], 5)
set_option maxRecDepth 100000 in
theorem mjC_m_188 {J : MjW → Prop} (hJ : mjUok m4S m4U J) (H : mjHm J) : mjCtr m4S J 225 mjSm_m_188 := aiOk_ctr hJ (env := [(191, mjSm_m_36), (226, mjSm_m_15), (223, mjSm_m_9)]) (mjEnvC (mjC_m_36 hJ H) (mjEnvC (mjC_m_15 hJ H) (mjEnvC (mjC_m_9 hJ H) (fun e he => (by cases he))))) (pr := []) (sp := 255) (cuts := []) (n := 52) (by decide +kernel)
def mjSm_m_189 : MjSm := ([(3, 240, 240, 0, 0), (0, 0, 5, 0, 0), (0, 0, 4, 0, 0), (0, -2147483648, 2147483647, 0, 0)], [(240, 42, (0, 1, 1, 0, 0)), (251, 1, (0, 9, 9, 0, 0))], [((0, 0, 0, 0, 0), [], []), ((0, 1, 1, 0, 0), [], [])], [(241, 49), (241, 50), (241, 51)], 5)
set_option maxRecDepth 100000 in
theorem mjC_m_189 {J : MjW → Prop} (hJ : mjUok m4S m4U J) (H : mjHm J) : mjCtr m4S J 225 mjSm_m_189 := aiOk_ctr hJ (env := [(191, mjSm_m_38), (226, mjSm_m_15), (223, mjSm_m_9)]) (mjEnvC (mjC_m_38 hJ H) (mjEnvC (mjC_m_15 hJ H) (mjEnvC (mjC_m_9 hJ H) (fun e he => (by cases he))))) (pr := []) (sp := 255) (cuts := []) (n := 52) (by decide +kernel)
def mjSm_m_190 : MjSm := ([(3, 240, 240, 0, 0), (0, 0, 5, 0, 0), (0, 0, 4, 0, 0), (0, -2147483648, 2147483647, 0, 0)], [(240, 42, (0, 1, 1, 0, 0)), (251, 1, (0, 10, 10, 0, 0))], [((0, 0, 0, 0, 0), [], []), ((0, 1, 1, 0, 0), [], [])], [(241, 49), (241, 50), (241, 51)], 5)
set_option maxRecDepth 100000 in
theorem mjC_m_190 {J : MjW → Prop} (hJ : mjUok m4S m4U J) (H : mjHm J) : mjCtr m4S J 225 mjSm_m_190 := aiOk_ctr hJ (env := [(191, mjSm_m_40), (226, mjSm_m_15), (223, mjSm_m_9)]) (mjEnvC (mjC_m_40 hJ H) (mjEnvC (mjC_m_15 hJ H) (mjEnvC (mjC_m_9 hJ H) (fun e he => (by cases he))))) (pr := []) (sp := 255) (cuts := []) (n := 52) (by decide +kernel)
def mjSm_m_191 : MjSm := ([(3, 240, 240, 0, 0), (0, 0, 5, 0, 0), (0, 0, 4, 0, 0), (0, -2147483648, 2147483647, 0, 0)], [(240, 42, (0, 1, 1, 0, 0)), (251, 1, (0, 11, 11, 0, 0))], [((0, 0, 0, 0, 0), [], []), ((0, 1, 1, 0, 0), [], [])], [(241, 49), (241, 50), (241, 51)], 5)
set_option maxRecDepth 100000 in
theorem mjC_m_191 {J : MjW → Prop} (hJ : mjUok m4S m4U J) (H : mjHm J) : mjCtr m4S J 225 mjSm_m_191 := aiOk_ctr hJ (env := [(191, mjSm_m_42), (226, mjSm_m_15), (223, mjSm_m_9)]) (mjEnvC (mjC_m_42 hJ H) (mjEnvC (mjC_m_15 hJ H) (mjEnvC (mjC_m_9 hJ H) (fun e he => (by cases he))))) (pr := []) (sp := 255) (cuts := []) (n := 52) (by decide +kernel)
def mjSm_m_193 : MjSm := ([(3, 240, 240, 0, 0), (0, 0, 5, 0, 0), (0, 0, 4, 0, 0), (0, -2147483648, 2147483647, 0, 0)], [(240, 42, (0, 1, 1, 0, 0)), (251, 1, (0, 12, 12, 0, 0))], [((0, 0, 0, 0, 0), [], []), ((0, 1, 1, 0, 0), [], [])], [(241, 49), (241, 50), (241, 51), (274, 255)], 5)
set_option maxRecDepth 100000 in
theorem mjC_m_193 {J : MjW → Prop} (hJ : mjUok m4S m4U J) (H : mjHm J) : mjCtr m4S J 225 mjSm_m_193 := aiOk_ctr hJ (env := [(230, mjSm_m_192), (191, mjSm_m_44), (226, mjSm_m_15), (223, mjSm_m_9)]) (mjEnvC (mjC_m_192 hJ H) (mjEnvC (mjC_m_44 hJ H) (mjEnvC (mjC_m_15 hJ H) (mjEnvC (mjC_m_9 hJ H) (fun e he => (by cases he)))))) (pr := []) (sp := 255) (cuts := []) (n := 36) (by decide +kernel)
def mjSm_m_195 : MjSm := ([(3, 240, 240, 0, 0), (0, 0, 5, 0, 0), (0, 0, 4, 0, 0), (0, -2147483648, 2147483647, 0, 0)], [(240, 42, (0, 1, 1, 0, 0)), (251, 1, (0, 13, 13, 0, 0))], [((0, 0, 0, 0, 0), [], []), ((0, 1, 1, 0, 0), [], [])], [(241, 49), (241, 50), (241, 51), (274, 255)], 5)
set_option maxRecDepth 100000 in
theorem mjC_m_195 {J : MjW → Prop} (hJ : mjUok m4S m4U J) (H : mjHm J) : mjCtr m4S J 225 mjSm_m_195 := aiOk_ctr hJ (env := [(230, mjSm_m_194), (191, mjSm_m_47), (226, mjSm_m_15), (223, mjSm_m_9)]) (mjEnvC (mjC_m_194 hJ H) (mjEnvC (mjC_m_47 hJ H) (mjEnvC (mjC_m_15 hJ H) (mjEnvC (mjC_m_9 hJ H) (fun e he => (by cases he)))))) (pr := []) (sp := 255) (cuts := []) (n := 36) (by decide +kernel)
def mjSm_m_197 : MjSm := ([(3, 240, 240, 0, 0), (0, 0, 5, 0, 0), (0, 0, 4, 0, 0), (0, -2147483648, 2147483647, 0, 0)], [(240, 42, (0, 1, 1, 0, 0)), (251, 1, (0, 14, 14, 0, 0))], [((0, 0, 0, 0, 0), [], []), ((0, 1, 1, 0, 0), [], [])], [(241, 49), (241, 50), (241, 51), (274, 255)], 5)
set_option maxRecDepth 100000 in
theorem mjC_m_197 {J : MjW → Prop} (hJ : mjUok m4S m4U J) (H : mjHm J) : mjCtr m4S J 225 mjSm_m_197 := aiOk_ctr hJ (env := [(230, mjSm_m_196), (191, mjSm_m_50), (226, mjSm_m_15), (223, mjSm_m_9)]) (mjEnvC (mjC_m_196 hJ H) (mjEnvC (mjC_m_50 hJ H) (mjEnvC (mjC_m_15 hJ H) (mjEnvC (mjC_m_9 hJ H) (fun e he => (by cases he)))))) (pr := []) (sp := 255) (cuts := []) (n := 36) (by decide +kernel)
def mjSm_m_199 : MjSm := ([(3, 240, 240, 0, 0), (0, 0, 5, 0, 0), (0, 0, 4, 0, 0), (0, -2147483648, 2147483647, 0, 0)], [(240, 42, (0, 1, 1, 0, 0)), (251, 1, (0, 15, 15, 0, 0))], [((0, 0, 0, 0, 0), [], []), ((0, 1, 1, 0, 0), [], [])], [(241, 49), (241, 50), (241, 51), (274, 255)], 5)
set_option maxRecDepth 100000 in
theorem mjC_m_199 {J : MjW → Prop} (hJ : mjUok m4S m4U J) (H : mjHm J) : mjCtr m4S J 225 mjSm_m_199 := aiOk_ctr hJ (env := [(230, mjSm_m_198), (191, mjSm_m_53), (226, mjSm_m_15), (223, mjSm_m_9)]) (mjEnvC (mjC_m_198 hJ H) (mjEnvC (mjC_m_53 hJ H) (mjEnvC (mjC_m_15 hJ H) (mjEnvC (mjC_m_9 hJ H) (fun e he => (by cases he)))))) (pr := []) (sp := 255) (cuts := []) (n := 36) (by decide +kernel)
def mjSm_m_200 : MjSm := ([(3, 240, 240, 0, 0), (0, 0, 5, 0, 0), (0, 0, 4, 0, 0), (0, -2147483648, 2147483647, 0, 0)], [(240, 42, (0, 1, 1, 0, 0)), (251, 1, (0, 16, 16, 0, 0))], [((0, 0, 0, 0, 0), [], []), ((0, 1, 1, 0, 0), [], [])], [(241, 49), (241, 50), (241, 51)], 5)
set_option maxRecDepth 100000 in
theorem mjC_m_200 {J : MjW → Prop} (hJ : mjUok m4S m4U J) (H : mjHm J) : mjCtr m4S J 225 mjSm_m_200 := aiOk_ctr hJ (env := [(191, mjSm_m_56), (226, mjSm_m_15), (223, mjSm_m_9)]) (mjEnvC (mjC_m_56 hJ H) (mjEnvC (mjC_m_15 hJ H) (mjEnvC (mjC_m_9 hJ H) (fun e he => (by cases he))))) (pr := []) (sp := 255) (cuts := []) (n := 52) (by decide +kernel)
def mjSm_m_201 : MjSm := ([(3, 240, 240, 0, 0), (0, 0, 5, 0, 0), (0, 0, 4, 0, 0), (0, -2147483648, 2147483647, 0, 0)], [(240, 42, (0, 1, 1, 0, 0)), (251, 1, (0, 17, 17, 0, 0))], [((0, 0, 0, 0, 0), [], []), ((0, 1, 1, 0, 0), [], [])], [(241, 49), (241, 50), (241, 51)], 5)
set_option maxRecDepth 100000 in
theorem mjC_m_201 {J : MjW → Prop} (hJ : mjUok m4S m4U J) (H : mjHm J) : mjCtr m4S J 225 mjSm_m_201 := aiOk_ctr hJ (env := [(191, mjSm_m_58), (226, mjSm_m_15), (223, mjSm_m_9)]) (mjEnvC (mjC_m_58 hJ H) (mjEnvC (mjC_m_15 hJ H) (mjEnvC (mjC_m_9 hJ H) (fun e he => (by cases he))))) (pr := []) (sp := 255) (cuts := []) (n := 52) (by decide +kernel)
def mjSm_m_202 : MjSm := ([(3, 240, 240, 0, 0), (0, 0, 5, 0, 0), (0, 0, 4, 0, 0), (0, -2147483648, 2147483647, 0, 0)], [(240, 42, (0, 1, 1, 0, 0)), (251, 1, (0, 18, 18, 0, 0))], [((0, 0, 0, 0, 0), [], []), ((0, 1, 1, 0, 0), [], [])], [(241, 49), (241, 50), (241, 51)], 5)
set_option maxRecDepth 100000 in
theorem mjC_m_202 {J : MjW → Prop} (hJ : mjUok m4S m4U J) (H : mjHm J) : mjCtr m4S J 225 mjSm_m_202 := aiOk_ctr hJ (env := [(191, mjSm_m_60), (226, mjSm_m_15), (223, mjSm_m_9)]) (mjEnvC (mjC_m_60 hJ H) (mjEnvC (mjC_m_15 hJ H) (mjEnvC (mjC_m_9 hJ H) (fun e he => (by cases he))))) (pr := []) (sp := 255) (cuts := []) (n := 52) (by decide +kernel)
def mjSm_m_203 : MjSm := ([(3, 240, 240, 0, 0), (0, 0, 5, 0, 0), (0, 0, 4, 0, 0), (0, -2147483648, 2147483647, 0, 0)], [(240, 42, (0, 1, 1, 0, 0)), (251, 1, (0, 19, 19, 0, 0))], [((0, 0, 0, 0, 0), [], []), ((0, 1, 1, 0, 0), [], [])], [(241, 49), (241, 50), (241, 51)], 5)
set_option maxRecDepth 100000 in
theorem mjC_m_203 {J : MjW → Prop} (hJ : mjUok m4S m4U J) (H : mjHm J) : mjCtr m4S J 225 mjSm_m_203 := aiOk_ctr hJ (env := [(191, mjSm_m_62), (226, mjSm_m_15), (223, mjSm_m_9)]) (mjEnvC (mjC_m_62 hJ H) (mjEnvC (mjC_m_15 hJ H) (mjEnvC (mjC_m_9 hJ H) (fun e he => (by cases he))))) (pr := []) (sp := 255) (cuts := []) (n := 52) (by decide +kernel)
def mjSm_m_205 : MjSm := ([(3, 240, 240, 0, 0), (0, 0, 5, 0, 0), (0, 0, 4, 0, 0), (0, -2147483648, 2147483647, 0, 0)], [(240, 42, (0, 1, 1, 0, 0)), (251, 1, (0, 20, 20, 0, 0))], [((0, 0, 0, 0, 0), [], []), ((0, 1, 1, 0, 0), [], [])], [(241, 49), (241, 50), (241, 51), (274, 255)], 5)
set_option maxRecDepth 100000 in
theorem mjC_m_205 {J : MjW → Prop} (hJ : mjUok m4S m4U J) (H : mjHm J) : mjCtr m4S J 225 mjSm_m_205 := aiOk_ctr hJ (env := [(230, mjSm_m_204), (191, mjSm_m_64), (226, mjSm_m_15), (223, mjSm_m_9)]) (mjEnvC (mjC_m_204 hJ H) (mjEnvC (mjC_m_64 hJ H) (mjEnvC (mjC_m_15 hJ H) (mjEnvC (mjC_m_9 hJ H) (fun e he => (by cases he)))))) (pr := []) (sp := 255) (cuts := []) (n := 36) (by decide +kernel)
def mjSm_m_207 : MjSm := ([(3, 240, 240, 0, 0), (0, 0, 5, 0, 0), (0, 0, 4, 0, 0), (0, -2147483648, 2147483647, 0, 0)], [(240, 42, (0, 1, 1, 0, 0)), (251, 1, (0, 21, 21, 0, 0))], [((0, 0, 0, 0, 0), [], []), ((0, 1, 1, 0, 0), [], [])], [(241, 49), (241, 50), (241, 51), (274, 255)], 5)
set_option maxRecDepth 100000 in
theorem mjC_m_207 {J : MjW → Prop} (hJ : mjUok m4S m4U J) (H : mjHm J) : mjCtr m4S J 225 mjSm_m_207 := aiOk_ctr hJ (env := [(230, mjSm_m_206), (191, mjSm_m_67), (226, mjSm_m_15), (223, mjSm_m_9)]) (mjEnvC (mjC_m_206 hJ H) (mjEnvC (mjC_m_67 hJ H) (mjEnvC (mjC_m_15 hJ H) (mjEnvC (mjC_m_9 hJ H) (fun e he => (by cases he)))))) (pr := []) (sp := 255) (cuts := []) (n := 36) (by decide +kernel)
def mjSm_m_209 : MjSm := ([(3, 240, 240, 0, 0), (0, 0, 5, 0, 0), (0, 0, 4, 0, 0), (0, -2147483648, 2147483647, 0, 0)], [(240, 42, (0, 1, 1, 0, 0)), (251, 1, (0, 22, 22, 0, 0))], [((0, 0, 0, 0, 0), [], []), ((0, 1, 1, 0, 0), [], [])], [(241, 49), (241, 50), (241, 51), (274, 255)], 5)
set_option maxRecDepth 100000 in
theorem mjC_m_209 {J : MjW → Prop} (hJ : mjUok m4S m4U J) (H : mjHm J) : mjCtr m4S J 225 mjSm_m_209 := aiOk_ctr hJ (env := [(230, mjSm_m_208), (191, mjSm_m_70), (226, mjSm_m_15), (223, mjSm_m_9)]) (mjEnvC (mjC_m_208 hJ H) (mjEnvC (mjC_m_70 hJ H) (mjEnvC (mjC_m_15 hJ H) (mjEnvC (mjC_m_9 hJ H) (fun e he => (by cases he)))))) (pr := []) (sp := 255) (cuts := []) (n := 36) (by decide +kernel)
def mjSm_m_211 : MjSm := ([(3, 240, 240, 0, 0), (0, 0, 5, 0, 0), (0, 0, 4, 0, 0), (0, -2147483648, 2147483647, 0, 0)], [(240, 42, (0, 1, 1, 0, 0)), (251, 1, (0, 23, 23, 0, 0))], [((0, 0, 0, 0, 0), [], []), ((0, 1, 1, 0, 0), [], [])], [(241, 49), (241, 50), (241, 51), (274, 255)], 5)
set_option maxRecDepth 100000 in
theorem mjC_m_211 {J : MjW → Prop} (hJ : mjUok m4S m4U J) (H : mjHm J) : mjCtr m4S J 225 mjSm_m_211 := aiOk_ctr hJ (env := [(230, mjSm_m_210), (191, mjSm_m_73), (226, mjSm_m_15), (223, mjSm_m_9)]) (mjEnvC (mjC_m_210 hJ H) (mjEnvC (mjC_m_73 hJ H) (mjEnvC (mjC_m_15 hJ H) (mjEnvC (mjC_m_9 hJ H) (fun e he => (by cases he)))))) (pr := []) (sp := 255) (cuts := []) (n := 36) (by decide +kernel)
def mjSm_m_212 : MjSm := ([(3, 240, 240, 0, 0), (0, 0, 5, 0, 0), (0, 0, 4, 0, 0), (0, -2147483648, 2147483647, 0, 0)], [(240, 42, (0, 1, 1, 0, 0)), (251, 1, (0, 24, 24, 0, 0))], [((0, 0, 0, 0, 0), [], []), ((0, 1, 1, 0, 0), [], [])], [(241, 49), (241, 50), (241, 51)], 5)
set_option maxRecDepth 100000 in
theorem mjC_m_212 {J : MjW → Prop} (hJ : mjUok m4S m4U J) (H : mjHm J) : mjCtr m4S J 225 mjSm_m_212 := aiOk_ctr hJ (env := [(191, mjSm_m_76), (226, mjSm_m_15), (223, mjSm_m_9)]) (mjEnvC (mjC_m_76 hJ H) (mjEnvC (mjC_m_15 hJ H) (mjEnvC (mjC_m_9 hJ H) (fun e he => (by cases he))))) (pr := []) (sp := 255) (cuts := []) (n := 52) (by decide +kernel)
def mjSm_m_213 : MjSm := ([(3, 240, 240, 0, 0), (0, 0, 5, 0, 0), (0, 0, 4, 0, 0), (0, -2147483648, 2147483647, 0, 0)], [(240, 42, (0, 1, 1, 0, 0)), (251, 1, (0, 25, 25, 0, 0))], [((0, 0, 0, 0, 0), [], []), ((0, 1, 1, 0, 0), [], [])], [(241, 49), (241, 50), (241, 51)], 5)
set_option maxRecDepth 100000 in
theorem mjC_m_213 {J : MjW → Prop} (hJ : mjUok m4S m4U J) (H : mjHm J) : mjCtr m4S J 225 mjSm_m_213 := aiOk_ctr hJ (env := [(191, mjSm_m_78), (226, mjSm_m_15), (223, mjSm_m_9)]) (mjEnvC (mjC_m_78 hJ H) (mjEnvC (mjC_m_15 hJ H) (mjEnvC (mjC_m_9 hJ H) (fun e he => (by cases he))))) (pr := []) (sp := 255) (cuts := []) (n := 52) (by decide +kernel)
def mjSm_m_214 : MjSm := ([(3, 240, 240, 0, 0), (0, 0, 5, 0, 0), (0, 0, 4, 0, 0), (0, -2147483648, 2147483647, 0, 0)], [(240, 42, (0, 1, 1, 0, 0)), (251, 1, (0, 26, 26, 0, 0))], [((0, 0, 0, 0, 0), [], []), ((0, 1, 1, 0, 0), [], [])], [(241, 49), (241, 50), (241, 51)], 5)
set_option maxRecDepth 100000 in
theorem mjC_m_214 {J : MjW → Prop} (hJ : mjUok m4S m4U J) (H : mjHm J) : mjCtr m4S J 225 mjSm_m_214 := aiOk_ctr hJ (env := [(191, mjSm_m_80), (226, mjSm_m_15), (223, mjSm_m_9)]) (mjEnvC (mjC_m_80 hJ H) (mjEnvC (mjC_m_15 hJ H) (mjEnvC (mjC_m_9 hJ H) (fun e he => (by cases he))))) (pr := []) (sp := 255) (cuts := []) (n := 52) (by decide +kernel)
def mjSm_m_215 : MjSm := ([(3, 240, 240, 0, 0), (0, 0, 5, 0, 0), (0, 0, 4, 0, 0), (0, -2147483648, 2147483647, 0, 0)], [(240, 42, (0, 1, 1, 0, 0)), (251, 1, (0, 27, 27, 0, 0))], [((0, 0, 0, 0, 0), [], []), ((0, 1, 1, 0, 0), [], [])], [(241, 49), (241, 50), (241, 51)], 5)
set_option maxRecDepth 100000 in
theorem mjC_m_215 {J : MjW → Prop} (hJ : mjUok m4S m4U J) (H : mjHm J) : mjCtr m4S J 225 mjSm_m_215 := aiOk_ctr hJ (env := [(191, mjSm_m_82), (226, mjSm_m_15), (223, mjSm_m_9)]) (mjEnvC (mjC_m_82 hJ H) (mjEnvC (mjC_m_15 hJ H) (mjEnvC (mjC_m_9 hJ H) (fun e he => (by cases he))))) (pr := []) (sp := 255) (cuts := []) (n := 52) (by decide +kernel)
def mjSm_m_217 : MjSm := ([(3, 240, 240, 0, 0), (0, 0, 5, 0, 0), (0, 0, 4, 0, 0), (0, -2147483648, 2147483647, 0, 0)], [(240, 42, (0, 1, 1, 0, 0)), (251, 1, (0, 28, 28, 0, 0))], [((0, 0, 0, 0, 0), [], []), ((0, 1, 1, 0, 0), [], [])], [(241, 49), (241, 50), (241, 51), (274, 255)], 5)
set_option maxRecDepth 100000 in
theorem mjC_m_217 {J : MjW → Prop} (hJ : mjUok m4S m4U J) (H : mjHm J) : mjCtr m4S J 225 mjSm_m_217 := aiOk_ctr hJ (env := [(230, mjSm_m_216), (191, mjSm_m_84), (226, mjSm_m_15), (223, mjSm_m_9)]) (mjEnvC (mjC_m_216 hJ H) (mjEnvC (mjC_m_84 hJ H) (mjEnvC (mjC_m_15 hJ H) (mjEnvC (mjC_m_9 hJ H) (fun e he => (by cases he)))))) (pr := []) (sp := 255) (cuts := []) (n := 36) (by decide +kernel)
def mjSm_m_219 : MjSm := ([(3, 240, 240, 0, 0), (0, 0, 5, 0, 0), (0, 0, 4, 0, 0), (0, -2147483648, 2147483647, 0, 0)], [(240, 42, (0, 1, 1, 0, 0)), (251, 1, (0, 29, 29, 0, 0))], [((0, 0, 0, 0, 0), [], []), ((0, 1, 1, 0, 0), [], [])], [(241, 49), (241, 50), (241, 51), (274, 255)], 5)
set_option maxRecDepth 100000 in
theorem mjC_m_219 {J : MjW → Prop} (hJ : mjUok m4S m4U J) (H : mjHm J) : mjCtr m4S J 225 mjSm_m_219 := aiOk_ctr hJ (env := [(230, mjSm_m_218), (191, mjSm_m_87), (226, mjSm_m_15), (223, mjSm_m_9)]) (mjEnvC (mjC_m_218 hJ H) (mjEnvC (mjC_m_87 hJ H) (mjEnvC (mjC_m_15 hJ H) (mjEnvC (mjC_m_9 hJ H) (fun e he => (by cases he)))))) (pr := []) (sp := 255) (cuts := []) (n := 36) (by decide +kernel)
def mjSm_m_221 : MjSm := ([(3, 240, 240, 0, 0), (0, 0, 5, 0, 0), (0, 0, 4, 0, 0), (0, -2147483648, 2147483647, 0, 0)], [(240, 42, (0, 1, 1, 0, 0)), (251, 1, (0, 30, 30, 0, 0))], [((0, 0, 0, 0, 0), [], []), ((0, 1, 1, 0, 0), [], [])], [(241, 49), (241, 50), (241, 51), (274, 255)], 5)
set_option maxRecDepth 100000 in
theorem mjC_m_221 {J : MjW → Prop} (hJ : mjUok m4S m4U J) (H : mjHm J) : mjCtr m4S J 225 mjSm_m_221 := aiOk_ctr hJ (env := [(230, mjSm_m_220), (191, mjSm_m_90), (226, mjSm_m_15), (223, mjSm_m_9)]) (mjEnvC (mjC_m_220 hJ H) (mjEnvC (mjC_m_90 hJ H) (mjEnvC (mjC_m_15 hJ H) (mjEnvC (mjC_m_9 hJ H) (fun e he => (by cases he)))))) (pr := []) (sp := 255) (cuts := []) (n := 36) (by decide +kernel)
def mjSm_m_223 : MjSm := ([(3, 240, 240, 0, 0), (0, 0, 5, 0, 0), (0, 0, 4, 0, 0), (0, -2147483648, 2147483647, 0, 0)], [(240, 42, (0, 1, 1, 0, 0)), (251, 1, (0, 31, 31, 0, 0))], [((0, 0, 0, 0, 0), [], []), ((0, 1, 1, 0, 0), [], [])], [(241, 49), (241, 50), (241, 51), (274, 255)], 5)
set_option maxRecDepth 100000 in
theorem mjC_m_223 {J : MjW → Prop} (hJ : mjUok m4S m4U J) (H : mjHm J) : mjCtr m4S J 225 mjSm_m_223 := aiOk_ctr hJ (env := [(230, mjSm_m_222), (191, mjSm_m_93), (226, mjSm_m_15), (223, mjSm_m_9)]) (mjEnvC (mjC_m_222 hJ H) (mjEnvC (mjC_m_93 hJ H) (mjEnvC (mjC_m_15 hJ H) (mjEnvC (mjC_m_9 hJ H) (fun e he => (by cases he)))))) (pr := []) (sp := 255) (cuts := []) (n := 36) (by decide +kernel)
def mjSm_m_224 : MjSm := ([(3, 240, 240, 0, 0), (0, 0, 5, 0, 0), (0, 0, 4, 0, 0), (0, -2147483648, 2147483647, 0, 0)], [(240, 42, (0, 1, 1, 0, 0)), (251, 1, (0, 32, 32, 0, 0))], [((0, 0, 0, 0, 0), [], []), ((0, 1, 1, 0, 0), [], [])], [(241, 49), (241, 50), (241, 51)], 5)
set_option maxRecDepth 100000 in
theorem mjC_m_224 {J : MjW → Prop} (hJ : mjUok m4S m4U J) (H : mjHm J) : mjCtr m4S J 225 mjSm_m_224 := aiOk_ctr hJ (env := [(191, mjSm_m_96), (226, mjSm_m_15), (223, mjSm_m_9)]) (mjEnvC (mjC_m_96 hJ H) (mjEnvC (mjC_m_15 hJ H) (mjEnvC (mjC_m_9 hJ H) (fun e he => (by cases he))))) (pr := []) (sp := 255) (cuts := []) (n := 52) (by decide +kernel)
def mjSm_m_225 : MjSm := ([(3, 240, 240, 0, 0), (0, 0, 5, 0, 0), (0, 0, 4, 0, 0), (0, -2147483648, 2147483647, 0, 0)], [(240, 42, (0, 1, 1, 0, 0)), (251, 1, (0, 33, 33, 0, 0))], [((0, 0, 0, 0, 0), [], []), ((0, 1, 1, 0, 0), [], [])], [(241, 49), (241, 50), (241, 51)], 5)
set_option maxRecDepth 100000 in
theorem mjC_m_225 {J : MjW → Prop} (hJ : mjUok m4S m4U J) (H : mjHm J) : mjCtr m4S J 225 mjSm_m_225 := aiOk_ctr hJ (env := [(191, mjSm_m_98), (226, mjSm_m_15), (223, mjSm_m_9)]) (mjEnvC (mjC_m_98 hJ H) (mjEnvC (mjC_m_15 hJ H) (mjEnvC (mjC_m_9 hJ H) (fun e he => (by cases he))))) (pr := []) (sp := 255) (cuts := []) (n := 52) (by decide +kernel)
def mjSm_m_226 : MjSm := ([(3, 240, 240, 0, 0), (0, 0, 5, 0, 0), (0, 0, 4, 0, 0), (0, -2147483648, 2147483647, 0, 0)], [(240, 42, (0, 1, 1, 0, 0)), (251, 1, (0, 34, 34, 0, 0))], [((0, 0, 0, 0, 0), [], []), ((0, 1, 1, 0, 0), [], [])], [(241, 49), (241, 50), (241, 51)], 5)
set_option maxRecDepth 100000 in
theorem mjC_m_226 {J : MjW → Prop} (hJ : mjUok m4S m4U J) (H : mjHm J) : mjCtr m4S J 225 mjSm_m_226 := aiOk_ctr hJ (env := [(191, mjSm_m_100), (226, mjSm_m_15), (223, mjSm_m_9)]) (mjEnvC (mjC_m_100 hJ H) (mjEnvC (mjC_m_15 hJ H) (mjEnvC (mjC_m_9 hJ H) (fun e he => (by cases he))))) (pr := []) (sp := 255) (cuts := []) (n := 52) (by decide +kernel)
def mjSm_m_227 : MjSm := ([(3, 240, 240, 0, 0), (0, 0, 5, 0, 0), (0, 0, 4, 0, 0), (0, -2147483648, 2147483647, 0, 0)], [(240, 42, (0, 1, 1, 0, 0)), (251, 1, (0, 35, 35, 0, 0))], [((0, 0, 0, 0, 0), [], []), ((0, 1, 1, 0, 0), [], [])], [(241, 49), (241, 50), (241, 51)], 5)
set_option maxRecDepth 100000 in
theorem mjC_m_227 {J : MjW → Prop} (hJ : mjUok m4S m4U J) (H : mjHm J) : mjCtr m4S J 225 mjSm_m_227 := aiOk_ctr hJ (env := [(191, mjSm_m_102), (226, mjSm_m_15), (223, mjSm_m_9)]) (mjEnvC (mjC_m_102 hJ H) (mjEnvC (mjC_m_15 hJ H) (mjEnvC (mjC_m_9 hJ H) (fun e he => (by cases he))))) (pr := []) (sp := 255) (cuts := []) (n := 52) (by decide +kernel)
def mjSm_m_229 : MjSm := ([(3, 240, 240, 0, 0), (0, 0, 5, 0, 0), (0, 0, 4, 0, 0), (0, -2147483648, 2147483647, 0, 0)], [(240, 42, (0, 1, 1, 0, 0)), (251, 1, (0, 36, 36, 0, 0))], [((0, 0, 0, 0, 0), [], []), ((0, 1, 1, 0, 0), [], [])], [(241, 49), (241, 50), (241, 51), (274, 255)], 5)
set_option maxRecDepth 100000 in
theorem mjC_m_229 {J : MjW → Prop} (hJ : mjUok m4S m4U J) (H : mjHm J) : mjCtr m4S J 225 mjSm_m_229 := aiOk_ctr hJ (env := [(230, mjSm_m_228), (191, mjSm_m_104), (226, mjSm_m_15), (223, mjSm_m_9)]) (mjEnvC (mjC_m_228 hJ H) (mjEnvC (mjC_m_104 hJ H) (mjEnvC (mjC_m_15 hJ H) (mjEnvC (mjC_m_9 hJ H) (fun e he => (by cases he)))))) (pr := []) (sp := 255) (cuts := []) (n := 36) (by decide +kernel)
def mjSm_m_231 : MjSm := ([(3, 240, 240, 0, 0), (0, 0, 5, 0, 0), (0, 0, 4, 0, 0), (0, -2147483648, 2147483647, 0, 0)], [(240, 42, (0, 1, 1, 0, 0)), (251, 1, (0, 37, 37, 0, 0))], [((0, 0, 0, 0, 0), [], []), ((0, 1, 1, 0, 0), [], [])], [(241, 49), (241, 50), (241, 51), (274, 255)], 5)
set_option maxRecDepth 100000 in
theorem mjC_m_231 {J : MjW → Prop} (hJ : mjUok m4S m4U J) (H : mjHm J) : mjCtr m4S J 225 mjSm_m_231 := aiOk_ctr hJ (env := [(230, mjSm_m_230), (191, mjSm_m_107), (226, mjSm_m_15), (223, mjSm_m_9)]) (mjEnvC (mjC_m_230 hJ H) (mjEnvC (mjC_m_107 hJ H) (mjEnvC (mjC_m_15 hJ H) (mjEnvC (mjC_m_9 hJ H) (fun e he => (by cases he)))))) (pr := []) (sp := 255) (cuts := []) (n := 36) (by decide +kernel)
def mjSm_m_233 : MjSm := ([(3, 240, 240, 0, 0), (0, 0, 5, 0, 0), (0, 0, 4, 0, 0), (0, -2147483648, 2147483647, 0, 0)], [(240, 42, (0, 1, 1, 0, 0)), (251, 1, (0, 38, 38, 0, 0))], [((0, 0, 0, 0, 0), [], []), ((0, 1, 1, 0, 0), [], [])], [(241, 49), (241, 50), (241, 51), (274, 255)], 5)
set_option maxRecDepth 100000 in
theorem mjC_m_233 {J : MjW → Prop} (hJ : mjUok m4S m4U J) (H : mjHm J) : mjCtr m4S J 225 mjSm_m_233 := aiOk_ctr hJ (env := [(230, mjSm_m_232), (191, mjSm_m_110), (226, mjSm_m_15), (223, mjSm_m_9)]) (mjEnvC (mjC_m_232 hJ H) (mjEnvC (mjC_m_110 hJ H) (mjEnvC (mjC_m_15 hJ H) (mjEnvC (mjC_m_9 hJ H) (fun e he => (by cases he)))))) (pr := []) (sp := 255) (cuts := []) (n := 36) (by decide +kernel)
def mjSm_m_235 : MjSm := ([(3, 240, 240, 0, 0), (0, 0, 5, 0, 0), (0, 0, 4, 0, 0), (0, -2147483648, 2147483647, 0, 0)], [(240, 42, (0, 1, 1, 0, 0)), (251, 1, (0, 39, 39, 0, 0))], [((0, 0, 0, 0, 0), [], []), ((0, 1, 1, 0, 0), [], [])], [(241, 49), (241, 50), (241, 51), (274, 255)], 5)
set_option maxRecDepth 100000 in
theorem mjC_m_235 {J : MjW → Prop} (hJ : mjUok m4S m4U J) (H : mjHm J) : mjCtr m4S J 225 mjSm_m_235 := aiOk_ctr hJ (env := [(230, mjSm_m_234), (191, mjSm_m_113), (226, mjSm_m_15), (223, mjSm_m_9)]) (mjEnvC (mjC_m_234 hJ H) (mjEnvC (mjC_m_113 hJ H) (mjEnvC (mjC_m_15 hJ H) (mjEnvC (mjC_m_9 hJ H) (fun e he => (by cases he)))))) (pr := []) (sp := 255) (cuts := []) (n := 36) (by decide +kernel)
def mjSm_m_236 : MjSm := ([(3, 240, 240, 0, 0), (0, 0, 5, 0, 0), (0, 0, 4, 0, 0), (0, -2147483648, 2147483647, 0, 0)], [(240, 42, (0, 1, 1, 0, 0)), (251, 1, (0, 40, 40, 0, 0))], [((0, 0, 0, 0, 0), [], []), ((0, 1, 1, 0, 0), [], [])], [(241, 49), (241, 50), (241, 51)], 5)
set_option maxRecDepth 100000 in
theorem mjC_m_236 {J : MjW → Prop} (hJ : mjUok m4S m4U J) (H : mjHm J) : mjCtr m4S J 225 mjSm_m_236 := aiOk_ctr hJ (env := [(191, mjSm_m_116), (226, mjSm_m_15), (223, mjSm_m_9)]) (mjEnvC (mjC_m_116 hJ H) (mjEnvC (mjC_m_15 hJ H) (mjEnvC (mjC_m_9 hJ H) (fun e he => (by cases he))))) (pr := []) (sp := 255) (cuts := []) (n := 52) (by decide +kernel)
def mjSm_m_237 : MjSm := ([(3, 240, 240, 0, 0), (0, 0, 5, 0, 0), (0, 0, 4, 0, 0), (0, -2147483648, 2147483647, 0, 0)], [(240, 42, (0, 1, 1, 0, 0)), (251, 1, (0, 41, 41, 0, 0))], [((0, 0, 0, 0, 0), [], []), ((0, 1, 1, 0, 0), [], [])], [(241, 49), (241, 50), (241, 51)], 5)
set_option maxRecDepth 100000 in
theorem mjC_m_237 {J : MjW → Prop} (hJ : mjUok m4S m4U J) (H : mjHm J) : mjCtr m4S J 225 mjSm_m_237 := aiOk_ctr hJ (env := [(191, mjSm_m_118), (226, mjSm_m_15), (223, mjSm_m_9)]) (mjEnvC (mjC_m_118 hJ H) (mjEnvC (mjC_m_15 hJ H) (mjEnvC (mjC_m_9 hJ H) (fun e he => (by cases he))))) (pr := []) (sp := 255) (cuts := []) (n := 52) (by decide +kernel)
def mjSm_m_238 : MjSm := ([(3, 240, 240, 0, 0), (0, 0, 5, 0, 0), (0, 0, 4, 0, 0), (0, -2147483648, 2147483647, 0, 0)], [(240, 42, (0, 1, 1, 0, 0)), (251, 1, (0, 42, 42, 0, 0))], [((0, 0, 0, 0, 0), [], []), ((0, 1, 1, 0, 0), [], [])], [(241, 49), (241, 50), (241, 51)], 5)
set_option maxRecDepth 100000 in
theorem mjC_m_238 {J : MjW → Prop} (hJ : mjUok m4S m4U J) (H : mjHm J) : mjCtr m4S J 225 mjSm_m_238 := aiOk_ctr hJ (env := [(191, mjSm_m_120), (226, mjSm_m_15), (223, mjSm_m_9)]) (mjEnvC (mjC_m_120 hJ H) (mjEnvC (mjC_m_15 hJ H) (mjEnvC (mjC_m_9 hJ H) (fun e he => (by cases he))))) (pr := []) (sp := 255) (cuts := []) (n := 52) (by decide +kernel)
def mjSm_m_239 : MjSm := ([(3, 240, 240, 0, 0), (0, 0, 5, 0, 0), (0, 0, 4, 0, 0), (0, -2147483648, 2147483647, 0, 0)], [(240, 42, (0, 1, 1, 0, 0)), (251, 1, (0, 43, 43, 0, 0))], [((0, 0, 0, 0, 0), [], []), ((0, 1, 1, 0, 0), [], [])], [(241, 49), (241, 50), (241, 51)], 5)
set_option maxRecDepth 100000 in
theorem mjC_m_239 {J : MjW → Prop} (hJ : mjUok m4S m4U J) (H : mjHm J) : mjCtr m4S J 225 mjSm_m_239 := aiOk_ctr hJ (env := [(191, mjSm_m_122), (226, mjSm_m_15), (223, mjSm_m_9)]) (mjEnvC (mjC_m_122 hJ H) (mjEnvC (mjC_m_15 hJ H) (mjEnvC (mjC_m_9 hJ H) (fun e he => (by cases he))))) (pr := []) (sp := 255) (cuts := []) (n := 52) (by decide +kernel)
def mjSm_m_241 : MjSm := ([(3, 240, 240, 0, 0), (0, 0, 5, 0, 0), (0, 0, 4, 0, 0), (0, -2147483648, 2147483647, 0, 0)], [(240, 42, (0, 1, 1, 0, 0)), (251, 1, (0, 44, 44, 0, 0))], [((0, 0, 0, 0, 0), [], []), ((0, 1, 1, 0, 0), [], [])], [(241, 49), (241, 50), (241, 51), (274, 255)], 5)
set_option maxRecDepth 100000 in
theorem mjC_m_241 {J : MjW → Prop} (hJ : mjUok m4S m4U J) (H : mjHm J) : mjCtr m4S J 225 mjSm_m_241 := aiOk_ctr hJ (env := [(230, mjSm_m_240), (191, mjSm_m_124), (226, mjSm_m_15), (223, mjSm_m_9)]) (mjEnvC (mjC_m_240 hJ H) (mjEnvC (mjC_m_124 hJ H) (mjEnvC (mjC_m_15 hJ H) (mjEnvC (mjC_m_9 hJ H) (fun e he => (by cases he)))))) (pr := []) (sp := 255) (cuts := []) (n := 36) (by decide +kernel)
def mjSm_m_243 : MjSm := ([(3, 240, 240, 0, 0), (0, 0, 5, 0, 0), (0, 0, 4, 0, 0), (0, -2147483648, 2147483647, 0, 0)], [(240, 42, (0, 1, 1, 0, 0)), (251, 1, (0, 45, 45, 0, 0))], [((0, 0, 0, 0, 0), [], []), ((0, 1, 1, 0, 0), [], [])], [(241, 49), (241, 50), (241, 51), (274, 255)], 5)
set_option maxRecDepth 100000 in
theorem mjC_m_243 {J : MjW → Prop} (hJ : mjUok m4S m4U J) (H : mjHm J) : mjCtr m4S J 225 mjSm_m_243 := aiOk_ctr hJ (env := [(230, mjSm_m_242), (191, mjSm_m_127), (226, mjSm_m_15), (223, mjSm_m_9)]) (mjEnvC (mjC_m_242 hJ H) (mjEnvC (mjC_m_127 hJ H) (mjEnvC (mjC_m_15 hJ H) (mjEnvC (mjC_m_9 hJ H) (fun e he => (by cases he)))))) (pr := []) (sp := 255) (cuts := []) (n := 36) (by decide +kernel)
def mjSm_m_245 : MjSm := ([(3, 240, 240, 0, 0), (0, 0, 5, 0, 0), (0, 0, 4, 0, 0), (0, -2147483648, 2147483647, 0, 0)], [(240, 42, (0, 1, 1, 0, 0)), (251, 1, (0, 46, 46, 0, 0))], [((0, 0, 0, 0, 0), [], []), ((0, 1, 1, 0, 0), [], [])], [(241, 49), (241, 50), (241, 51), (274, 255)], 5)
set_option maxRecDepth 100000 in
theorem mjC_m_245 {J : MjW → Prop} (hJ : mjUok m4S m4U J) (H : mjHm J) : mjCtr m4S J 225 mjSm_m_245 := aiOk_ctr hJ (env := [(230, mjSm_m_244), (191, mjSm_m_130), (226, mjSm_m_15), (223, mjSm_m_9)]) (mjEnvC (mjC_m_244 hJ H) (mjEnvC (mjC_m_130 hJ H) (mjEnvC (mjC_m_15 hJ H) (mjEnvC (mjC_m_9 hJ H) (fun e he => (by cases he)))))) (pr := []) (sp := 255) (cuts := []) (n := 36) (by decide +kernel)
