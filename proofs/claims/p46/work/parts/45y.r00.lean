def mjSm_r_0 : MjSm := ([(3, 240, 240, 0, 0)], [], [((0, 1, 1, 0, 0), [], [(240, 4, (0, 0, 0, 0, 0))]), ((0, 0, 0, 0, 0), [], [(240, 4, (0, 1, 5, 0, 0))])], [], 1)
set_option maxRecDepth 100000 in
theorem mjC_r_0 {J : MjW → Prop} (hJ : mjUok m4S m4P J) (H : mjHr J) : mjCtr m4S J 187 mjSm_r_0 := aiOk_ctr hJ (env := []) (fun e he => (by cases he)) (pr := []) (sp := 255) (cuts := []) (n := 9) (by decide +kernel)
def mjSm_r_2 : MjSm := ([(3, 240, 240, 0, 0), (0, 1, 1, 0, 0), (0, 0, 1600, 0, 0)], [(240, 4, (0, 0, 0, 0, 0))], [((7, 0, 0, 0, 0), [], [(240, 4, (0, 1, 1, 0, 0))])], [(241, 4), (241, 5)], 1)
set_option maxRecDepth 100000 in
theorem mjC_r_2 {J : MjW → Prop} (hJ : mjUok m4S m4P J) (H : mjHr J) : mjCtr m4S J 193 mjSm_r_2 := aiOk_ctr hJ (env := []) (fun e he => (by cases he)) (pr := []) (sp := 255) (cuts := []) (n := 13) (by decide +kernel)
def mjSm_r_3 : MjSm := ([(3, 240, 240, 0, 0), (0, 2, 2, 0, 0), (0, 0, 1600, 0, 0)], [(240, 4, (0, 0, 0, 0, 0))], [((7, 0, 0, 0, 0), [], [(240, 4, (0, 2, 2, 0, 0))])], [(241, 4), (241, 5)], 1)
set_option maxRecDepth 100000 in
theorem mjC_r_3 {J : MjW → Prop} (hJ : mjUok m4S m4P J) (H : mjHr J) : mjCtr m4S J 193 mjSm_r_3 := aiOk_ctr hJ (env := []) (fun e he => (by cases he)) (pr := []) (sp := 255) (cuts := []) (n := 13) (by decide +kernel)
def mjSm_r_4 : MjSm := ([(3, 240, 240, 0, 0)], [(240, 4, (0, 0, 0, 0, 0))], [((7, 0, 0, 0, 0), [], [(240, 4, (0, 1, 2, 0, 0))])], [(241, 4), (241, 5)], 2)
set_option maxRecDepth 100000 in
theorem mjC_r_4 {J : MjW → Prop} (hJ : mjUok m4S m4P J) (H : mjHr J) : mjCtr m4S J 192 mjSm_r_4 := aiOk_ctr hJ (env := [(193, mjSm_r_3), (193, mjSm_r_2)]) (mjEnvC (mjC_r_3 hJ H) (mjEnvC (mjC_r_2 hJ H) (fun e he => (by cases he)))) (pr := []) (sp := 255) (cuts := []) (n := 14) (by decide +kernel)
def mjSm_r_5 : MjSm := ([(3, 240, 240, 0, 0), (0, 0, 1, 0, 0)], [], [((7, 0, 0, 0, 0), [], [])], [(241, 4), (241, 5), (241, 6), (241, 7), (241, 8), (241, 9), (241, 10)], 4)
set_option maxRecDepth 100000 in
theorem mjC_r_5 {J : MjW → Prop} (hJ : mjUok m4S m4P J) (H : mjHr J) : mjCtr m4S J 198 mjSm_r_5 := aiOk_ctr hJ (env := [(192, mjSm_r_4), (187, mjSm_r_0), (181, mjSm_r_1)]) (mjEnvC (mjC_r_4 hJ H) (mjEnvC (mjC_r_0 hJ H) (mjEnvC (mjC_r_1 hJ H) (fun e he => (by cases he))))) (pr := []) (sp := 255) (cuts := []) (n := 12) (by decide +kernel)
def mjSm_r_6 : MjSm := ([(3, 240, 240, 0, 0), (0, 1, 1, 0, 0), (0, 0, 1600, 0, 0)], [], [((7, 0, 0, 0, 0), [], [(240, 4, (0, 1, 5, 0, 0))]), ((7, 0, 0, 0, 0), [], [(240, 4, (0, 1, 1, 0, 0))])], [(241, 4), (241, 5)], 1)
set_option maxRecDepth 100000 in
theorem mjC_r_6 {J : MjW → Prop} (hJ : mjUok m4S m4P J) (H : mjHr J) : mjCtr m4S J 193 mjSm_r_6 := aiOk_ctr hJ (env := []) (fun e he => (by cases he)) (pr := []) (sp := 255) (cuts := []) (n := 13) (by decide +kernel)
def mjSm_r_7 : MjSm := ([(3, 240, 240, 0, 0), (0, 2, 2, 0, 0), (0, 0, 1600, 0, 0)], [], [((7, 0, 0, 0, 0), [], [(240, 4, (0, 1, 5, 0, 0))]), ((7, 0, 0, 0, 0), [], [(240, 4, (0, 2, 2, 0, 0))])], [(241, 4), (241, 5)], 1)
set_option maxRecDepth 100000 in
theorem mjC_r_7 {J : MjW → Prop} (hJ : mjUok m4S m4P J) (H : mjHr J) : mjCtr m4S J 193 mjSm_r_7 := aiOk_ctr hJ (env := []) (fun e he => (by cases he)) (pr := []) (sp := 255) (cuts := []) (n := 13) (by decide +kernel)
def mjSm_r_8 : MjSm := ([(3, 240, 240, 0, 0)], [], [((7, 0, 0, 0, 0), [], [(240, 4, (0, 1, 5, 0, 0))])], [(241, 4), (241, 5)], 2)
set_option maxRecDepth 100000 in
theorem mjC_r_8 {J : MjW → Prop} (hJ : mjUok m4S m4P J) (H : mjHr J) : mjCtr m4S J 192 mjSm_r_8 := aiOk_ctr hJ (env := [(193, mjSm_r_7), (193, mjSm_r_6)]) (mjEnvC (mjC_r_7 hJ H) (mjEnvC (mjC_r_6 hJ H) (fun e he => (by cases he)))) (pr := []) (sp := 255) (cuts := []) (n := 14) (by decide +kernel)
def mjSm_r_9 : MjSm := ([(3, 240, 240, 0, 0), (1, 0, 0, 0, 0)], [], [((0, 0, 1, 0, 0), [], [])], [], 1)
set_option maxRecDepth 100000 in
theorem mjC_r_9 {J : MjW → Prop} (hJ : mjUok m4S m4P J) (H : mjHr J) : mjCtr m4S J 190 mjSm_r_9 := aiOk_ctr hJ (env := []) (fun e he => (by cases he)) (pr := []) (sp := 255) (cuts := []) (n := 15) (by decide +kernel)
def mjSm_r_10 : MjSm := ([(3, 240, 240, 0, 0), (0, 0, 1600, 0, 0)], [], [((0, 0, 255, 0, 0), [(1, 0, 1599)], []), ((0, 0, 0, 0, 0), [], [])], [], 1)
set_option maxRecDepth 100000 in
theorem mjC_r_10 {J : MjW → Prop} (hJ : mjUok m4S m4P J) (H : mjHr J) : mjCtr m4S J 182 mjSm_r_10 := aiOk_ctr hJ (env := []) (fun e he => (by cases he)) (pr := [1]) (sp := 255) (cuts := []) (n := 15) (by decide +kernel)
def mjSm_r_11 : MjSm := ([(3, 240, 240, 0, 0), (0, -2147483648, 2147483647, 0, 0)], [], [((0, 0, 1, 0, 0), [], [])], [], 2)
set_option maxRecDepth 100000 in
theorem mjC_r_11 {J : MjW → Prop} (hJ : mjUok m4S m4P J) (H : mjHr J) : mjCtr m4S J 210 mjSm_r_11 := aiOk_ctr hJ (env := [(182, mjSm_r_10)]) (mjEnvC (mjC_r_10 hJ H) (fun e he => (by cases he))) (pr := []) (sp := 255) (cuts := []) (n := 16) (by decide +kernel)
def mjSm_r_12 : MjSm := ([(3, 240, 240, 0, 0)], [], [((0, 0, 116, 0, 0), [], [])], [], 2)
set_option maxRecDepth 100000 in
theorem mjC_r_12 {J : MjW → Prop} (hJ : mjUok m4S m4P J) (H : mjHr J) : mjCtr m4S J 211 mjSm_r_12 := aiOk_ctr hJ (env := [(190, mjSm_r_9)]) (mjEnvC (mjC_r_9 hJ H) (fun e he => (by cases he))) (pr := []) (sp := 255) (cuts := []) (n := 30) (by decide +kernel)
def mjSm_r_13 : MjSm := ([(0, -2147483648, 2147483647, 0, 0), (0, -2147483648, 2147483647, 0, 0)], [], [((0, 0, 1, 0, 0), [], [])], [], 1)
set_option maxRecDepth 100000 in
theorem mjC_r_13 {J : MjW → Prop} (hJ : mjUok m4S m4P J) (H : mjHr J) : mjCtr m4S J 191 mjSm_r_13 := aiOk_ctr hJ (env := []) (fun e he => (by cases he)) (pr := []) (sp := 255) (cuts := []) (n := 13) (by decide +kernel)
def mjSm_r_14 : MjSm := ([(1, 0, 0, 0, 0)], [], [((0, 0, 1, 0, 0), [], [])], [], 1)
set_option maxRecDepth 100000 in
theorem mjC_r_14 {J : MjW → Prop} (hJ : mjUok m4S m4P J) (H : mjHr J) : mjCtr m4S J 184 mjSm_r_14 := aiOk_ctr hJ (env := []) (fun e he => (by cases he)) (pr := []) (sp := 255) (cuts := []) (n := 118) (by decide +kernel)
def mjSm_r_15 : MjSm := ([(0, -2147483648, 2147483647, 0, 0)], [], [((0, 0, 1, 0, 0), [], [])], [], 1)
set_option maxRecDepth 100000 in
theorem mjC_r_15 {J : MjW → Prop} (hJ : mjUok m4S m4P J) (H : mjHr J) : mjCtr m4S J 186 mjSm_r_15 := aiOk_ctr hJ (env := []) (fun e he => (by cases he)) (pr := [0]) (sp := 255) (cuts := []) (n := 39) (by decide +kernel)
def mjSm_r_16 : MjSm := ([(3, 240, 240, 0, 0)], [(240, 4, (0, 1, 2, 0, 0))], [((0, 0, 0, 0, 0), [], [(240, 4, (0, 1, 2, 0, 0))])], [], 1)
set_option maxRecDepth 100000 in
theorem mjC_r_16 {J : MjW → Prop} (hJ : mjUok m4S m4P J) (H : mjHr J) : mjCtr m4S J 187 mjSm_r_16 := aiOk_ctr hJ (env := []) (fun e he => (by cases he)) (pr := []) (sp := 255) (cuts := []) (n := 8) (by decide +kernel)
def mjSm_r_17 : MjSm := ([(3, 240, 240, 0, 0)], [(240, 4, (0, 0, 0, 0, 0))], [((0, 1, 1, 0, 0), [], [(240, 4, (0, 0, 0, 0, 0))])], [], 1)
set_option maxRecDepth 100000 in
theorem mjC_r_17 {J : MjW → Prop} (hJ : mjUok m4S m4P J) (H : mjHr J) : mjCtr m4S J 187 mjSm_r_17 := aiOk_ctr hJ (env := []) (fun e he => (by cases he)) (pr := []) (sp := 255) (cuts := []) (n := 9) (by decide +kernel)
def mjSm_r_18 : MjSm := ([(3, 240, 240, 0, 0), (0, 4, 4, 0, 0), (0, 0, 1600, 0, 0)], [(240, 4, (0, 0, 0, 0, 0))], [((7, 0, 0, 0, 0), [], [(240, 4, (0, 4, 4, 0, 0))])], [(241, 4), (241, 5)], 1)
set_option maxRecDepth 100000 in
theorem mjC_r_18 {J : MjW → Prop} (hJ : mjUok m4S m4P J) (H : mjHr J) : mjCtr m4S J 193 mjSm_r_18 := aiOk_ctr hJ (env := []) (fun e he => (by cases he)) (pr := []) (sp := 255) (cuts := []) (n := 13) (by decide +kernel)
def mjSm_r_19 : MjSm := ([(3, 240, 240, 0, 0)], [(240, 4, (0, 4, 4, 0, 0))], [((0, 0, 0, 0, 0), [], [(240, 4, (0, 4, 4, 0, 0))])], [], 1)
set_option maxRecDepth 100000 in
theorem mjC_r_19 {J : MjW → Prop} (hJ : mjUok m4S m4P J) (H : mjHr J) : mjCtr m4S J 187 mjSm_r_19 := aiOk_ctr hJ (env := []) (fun e he => (by cases he)) (pr := []) (sp := 255) (cuts := []) (n := 8) (by decide +kernel)
def mjSm_r_20 : MjSm := ([(0, 0, 0, 0, 0), (0, 1, 6, 0, 0)], [], [((0, 0, 0, 0, 0), [], [])], [], 1)
set_option maxRecDepth 100000 in
theorem mjC_r_20 {J : MjW → Prop} (hJ : mjUok m4S m4P J) (H : mjHr J) : mjCtr m4S J 191 mjSm_r_20 := aiOk_ctr hJ (env := []) (fun e he => (by cases he)) (pr := []) (sp := 255) (cuts := []) (n := 12) (by decide +kernel)
def mjSm_r_21 : MjSm := ([(3, 240, 240, 0, 0), (0, 1, 1, 0, 0), (0, 6, 6, 0, 0), (0, 0, 0, 0, 0)], [], [((0, 1, 6, 0, 0), [], [])], [(241, 4), (241, 5), (241, 6), (241, 7), (241, 8), (241, 9), (241, 10)], 4)
set_option maxRecDepth 100000 in
theorem mjC_r_21 {J : MjW → Prop} (hJ : mjUok m4S m4P J) (H : mjHr J) : mjCtr m4S J 195 mjSm_r_21 := aiOk_ctr hJ (env := [(192, mjSm_r_4), (187, mjSm_r_17), (187, mjSm_r_19), (193, mjSm_r_18), (187, mjSm_r_16), (187, mjSm_r_0), (181, mjSm_r_1), (191, mjSm_r_20)]) (mjEnvC (mjC_r_4 hJ H) (mjEnvC (mjC_r_17 hJ H) (mjEnvC (mjC_r_19 hJ H) (mjEnvC (mjC_r_18 hJ H) (mjEnvC (mjC_r_16 hJ H) (mjEnvC (mjC_r_0 hJ H) (mjEnvC (mjC_r_1 hJ H) (mjEnvC (mjC_r_20 hJ H) (fun e he => (by cases he)))))))))) (pr := []) (sp := 255) (cuts := []) (n := 47) (by decide +kernel)
def mjSm_r_22 : MjSm := ([(0, 0, 0, 0, 0), (0, 1, 5, 0, 0)], [], [((0, 0, 0, 0, 0), [], [])], [], 1)
set_option maxRecDepth 100000 in
theorem mjC_r_22 {J : MjW → Prop} (hJ : mjUok m4S m4P J) (H : mjHr J) : mjCtr m4S J 191 mjSm_r_22 := aiOk_ctr hJ (env := []) (fun e he => (by cases he)) (pr := []) (sp := 255) (cuts := []) (n := 12) (by decide +kernel)
def mjSm_r_23 : MjSm := ([(3, 240, 240, 0, 0), (0, 1, 1, 0, 0), (0, 5, 5, 0, 0), (0, 0, 0, 0, 0)], [], [((0, 1, 5, 0, 0), [], [])], [(241, 4), (241, 5), (241, 6), (241, 7), (241, 8), (241, 9), (241, 10)], 4)
set_option maxRecDepth 100000 in
theorem mjC_r_23 {J : MjW → Prop} (hJ : mjUok m4S m4P J) (H : mjHr J) : mjCtr m4S J 195 mjSm_r_23 := aiOk_ctr hJ (env := [(192, mjSm_r_4), (187, mjSm_r_17), (187, mjSm_r_19), (193, mjSm_r_18), (187, mjSm_r_16), (187, mjSm_r_0), (181, mjSm_r_1), (191, mjSm_r_22)]) (mjEnvC (mjC_r_4 hJ H) (mjEnvC (mjC_r_17 hJ H) (mjEnvC (mjC_r_19 hJ H) (mjEnvC (mjC_r_18 hJ H) (mjEnvC (mjC_r_16 hJ H) (mjEnvC (mjC_r_0 hJ H) (mjEnvC (mjC_r_1 hJ H) (mjEnvC (mjC_r_22 hJ H) (fun e he => (by cases he)))))))))) (pr := []) (sp := 255) (cuts := []) (n := 47) (by decide +kernel)
def mjSm_r_24 : MjSm := ([(0, 0, 0, 0, 0), (0, 0, 9, 0, 0)], [], [((0, 0, 0, 0, 0), [], [])], [], 1)
set_option maxRecDepth 100000 in
theorem mjC_r_24 {J : MjW → Prop} (hJ : mjUok m4S m4P J) (H : mjHr J) : mjCtr m4S J 191 mjSm_r_24 := aiOk_ctr hJ (env := []) (fun e he => (by cases he)) (pr := []) (sp := 255) (cuts := []) (n := 12) (by decide +kernel)
def mjSm_r_25 : MjSm := ([(3, 240, 240, 0, 0), (0, 0, 0, 0, 0), (0, 9, 9, 0, 0), (0, 0, 0, 0, 0)], [], [((0, 0, 9, 0, 0), [], [])], [(241, 4), (241, 5), (241, 6), (241, 7), (241, 8), (241, 9), (241, 10)], 4)
set_option maxRecDepth 100000 in
theorem mjC_r_25 {J : MjW → Prop} (hJ : mjUok m4S m4P J) (H : mjHr J) : mjCtr m4S J 195 mjSm_r_25 := aiOk_ctr hJ (env := [(192, mjSm_r_4), (187, mjSm_r_17), (187, mjSm_r_19), (193, mjSm_r_18), (187, mjSm_r_16), (187, mjSm_r_0), (181, mjSm_r_1), (191, mjSm_r_24)]) (mjEnvC (mjC_r_4 hJ H) (mjEnvC (mjC_r_17 hJ H) (mjEnvC (mjC_r_19 hJ H) (mjEnvC (mjC_r_18 hJ H) (mjEnvC (mjC_r_16 hJ H) (mjEnvC (mjC_r_0 hJ H) (mjEnvC (mjC_r_1 hJ H) (mjEnvC (mjC_r_24 hJ H) (fun e he => (by cases he)))))))))) (pr := []) (sp := 255) (cuts := []) (n := 47) (by decide +kernel)
def mjSm_r_26 : MjSm := ([(0, 0, 0, 0, 0), (0, 0, 29, 0, 0)], [], [((0, 0, 0, 0, 0), [], [])], [], 1)
set_option maxRecDepth 100000 in
theorem mjC_r_26 {J : MjW → Prop} (hJ : mjUok m4S m4P J) (H : mjHr J) : mjCtr m4S J 191 mjSm_r_26 := aiOk_ctr hJ (env := []) (fun e he => (by cases he)) (pr := []) (sp := 255) (cuts := []) (n := 12) (by decide +kernel)
def mjSm_r_27 : MjSm := ([(3, 240, 240, 0, 0), (0, 0, 0, 0, 0), (0, 100, 100, 0, 0), (0, 0, 0, 0, 0)], [], [((0, 0, 100, 0, 0), [], [])], [(241, 4), (241, 5), (241, 6), (241, 7), (241, 8), (241, 9), (241, 10)], 4)
set_option maxRecDepth 100000 in
theorem mjC_r_27 {J : MjW → Prop} (hJ : mjUok m4S m4P J) (H : mjHr J) : mjCtr m4S J 195 mjSm_r_27 := aiOk_ctr hJ (env := [(192, mjSm_r_4), (187, mjSm_r_17), (187, mjSm_r_19), (193, mjSm_r_18), (187, mjSm_r_16), (187, mjSm_r_0), (181, mjSm_r_1), (191, mjSm_r_26)]) (mjEnvC (mjC_r_4 hJ H) (mjEnvC (mjC_r_17 hJ H) (mjEnvC (mjC_r_19 hJ H) (mjEnvC (mjC_r_18 hJ H) (mjEnvC (mjC_r_16 hJ H) (mjEnvC (mjC_r_0 hJ H) (mjEnvC (mjC_r_1 hJ H) (mjEnvC (mjC_r_26 hJ H) (fun e he => (by cases he)))))))))) (pr := []) (sp := 255) (cuts := []) (n := 47) (by decide +kernel)
def mjSm_r_28 : MjSm := ([(3, 240, 240, 0, 0), (0, 0, 0, 0, 0), (0, 999, 999, 0, 0), (0, 0, 0, 0, 0)], [], [((0, 0, 999, 0, 0), [], [])], [(241, 4), (241, 5), (241, 6), (241, 7), (241, 8), (241, 9), (241, 10)], 4)
set_option maxRecDepth 100000 in
theorem mjC_r_28 {J : MjW → Prop} (hJ : mjUok m4S m4P J) (H : mjHr J) : mjCtr m4S J 195 mjSm_r_28 := aiOk_ctr hJ (env := [(192, mjSm_r_4), (187, mjSm_r_17), (187, mjSm_r_19), (193, mjSm_r_18), (187, mjSm_r_16), (187, mjSm_r_0), (181, mjSm_r_1), (191, mjSm_r_26)]) (mjEnvC (mjC_r_4 hJ H) (mjEnvC (mjC_r_17 hJ H) (mjEnvC (mjC_r_19 hJ H) (mjEnvC (mjC_r_18 hJ H) (mjEnvC (mjC_r_16 hJ H) (mjEnvC (mjC_r_0 hJ H) (mjEnvC (mjC_r_1 hJ H) (mjEnvC (mjC_r_26 hJ H) (fun e he => (by cases he)))))))))) (pr := []) (sp := 255) (cuts := []) (n := 47) (by decide +kernel)
def mjSm_r_29 : MjSm := ([(0, 0, 31, 0, 0), (0, 0, 4, 0, 0)], [], [((0, 0, 1, 0, 0), [], [])], [], 1)
set_option maxRecDepth 100000 in
theorem mjC_r_29 {J : MjW → Prop} (hJ : mjUok m4S m4P J) (H : mjHr J) : mjCtr m4S J 191 mjSm_r_29 := aiOk_ctr hJ (env := []) (fun e he => (by cases he)) (pr := []) (sp := 255) (cuts := []) (n := 13) (by decide +kernel)
def mjSm_r_30 : MjSm := ([(3, 240, 240, 0, 0), (0, 3, 3, 0, 0), (0, 0, 1600, 0, 0)], [(240, 4, (0, 0, 0, 0, 0))], [((7, 0, 0, 0, 0), [], [(240, 4, (0, 3, 3, 0, 0))])], [(241, 4), (241, 5)], 1)
set_option maxRecDepth 100000 in
theorem mjC_r_30 {J : MjW → Prop} (hJ : mjUok m4S m4P J) (H : mjHr J) : mjCtr m4S J 193 mjSm_r_30 := aiOk_ctr hJ (env := []) (fun e he => (by cases he)) (pr := []) (sp := 255) (cuts := []) (n := 13) (by decide +kernel)
def mjSm_r_31 : MjSm := ([(3, 240, 240, 0, 0)], [(240, 4, (0, 3, 3, 0, 0))], [((0, 0, 0, 0, 0), [], [(240, 4, (0, 3, 3, 0, 0))])], [], 1)
set_option maxRecDepth 100000 in
theorem mjC_r_31 {J : MjW → Prop} (hJ : mjUok m4S m4P J) (H : mjHr J) : mjCtr m4S J 187 mjSm_r_31 := aiOk_ctr hJ (env := []) (fun e he => (by cases he)) (pr := []) (sp := 255) (cuts := []) (n := 8) (by decide +kernel)
def mjSm_r_32 : MjSm := ([(3, 240, 240, 0, 0), (0, 0, 0, 0, 0), (0, -1, 4, 0, 0), (0, 0, 31, 0, 0)], [], [((0, 0, 4, 0, 0), [], [])], [(241, 4), (241, 5), (241, 6), (241, 7), (241, 8), (241, 9), (241, 10)], 4)
set_option maxRecDepth 100000 in
theorem mjC_r_32 {J : MjW → Prop} (hJ : mjUok m4S m4P J) (H : mjHr J) : mjCtr m4S J 195 mjSm_r_32 := aiOk_ctr hJ (env := [(192, mjSm_r_4), (187, mjSm_r_17), (187, mjSm_r_31), (187, mjSm_r_19), (193, mjSm_r_18), (193, mjSm_r_30), (187, mjSm_r_16), (187, mjSm_r_0), (181, mjSm_r_1), (191, mjSm_r_29)]) (mjEnvC (mjC_r_4 hJ H) (mjEnvC (mjC_r_17 hJ H) (mjEnvC (mjC_r_31 hJ H) (mjEnvC (mjC_r_19 hJ H) (mjEnvC (mjC_r_18 hJ H) (mjEnvC (mjC_r_30 hJ H) (mjEnvC (mjC_r_16 hJ H) (mjEnvC (mjC_r_0 hJ H) (mjEnvC (mjC_r_1 hJ H) (mjEnvC (mjC_r_29 hJ H) (fun e he => (by cases he)))))))))))) (pr := []) (sp := 255) (cuts := []) (n := 49) (by decide +kernel)
def mjSm_r_33 : MjSm := ([(3, 240, 240, 0, 0), (1, 0, 0, 0, 0), (0, 0, 0, 0, 0), (0, 9, 9, 0, 0)], [], [((0, 0, 9, 0, 0), [], [])], [(241, 4), (241, 5), (241, 6), (241, 7), (241, 8), (241, 9), (241, 10)], 5)
set_option maxRecDepth 100000 in
theorem mjC_r_33 {J : MjW → Prop} (hJ : mjUok m4S m4P J) (H : mjHr J) : mjCtr m4S J 197 mjSm_r_33 := aiOk_ctr hJ (env := [(195, mjSm_r_25), (190, mjSm_r_9), (198, mjSm_r_5)]) (mjEnvC (mjC_r_25 hJ H) (mjEnvC (mjC_r_9 hJ H) (mjEnvC (mjC_r_5 hJ H) (fun e he => (by cases he))))) (pr := []) (sp := 255) (cuts := []) (n := 14) (by decide +kernel)
def mjSm_r_34 : MjSm := ([(3, 240, 240, 0, 0)], [(240, 43, (0, 0, 0, 0, 0))], [((7, 0, 0, 0, 0), [], [])], [(241, 4), (241, 5), (241, 6), (241, 7), (241, 8), (241, 9), (241, 10), (253, 0), (256, 0), (256, 1), (256, 2), (256, 3), (256, 4)], 6)
set_option maxRecDepth 100000 in
theorem mjC_r_34 {J : MjW → Prop} (hJ : mjUok m4S m4P J) (H : mjHr J) : mjCtr m4S J 196 mjSm_r_34 := aiOk_ctr hJ (env := [(197, mjSm_r_33), (195, mjSm_r_32)]) (mjEnvC (mjC_r_33 hJ H) (mjEnvC (mjC_r_32 hJ H) (fun e he => (by cases he)))) (pr := []) (sp := 255) (cuts := []) (n := 45) (by decide +kernel)
def mjSm_r_35 : MjSm := ([(0, 0, 0, 0, 0), (0, 0, 5, 0, 0)], [], [((0, 0, 0, 0, 0), [], [])], [], 1)
set_option maxRecDepth 100000 in
theorem mjC_r_35 {J : MjW → Prop} (hJ : mjUok m4S m4P J) (H : mjHr J) : mjCtr m4S J 191 mjSm_r_35 := aiOk_ctr hJ (env := []) (fun e he => (by cases he)) (pr := []) (sp := 255) (cuts := []) (n := 12) (by decide +kernel)
def mjSm_r_36 : MjSm := ([(3, 240, 240, 0, 0), (0, 0, 0, 0, 0), (0, -1, 5, 0, 0), (0, 0, 0, 0, 0)], [], [((0, 0, 5, 0, 0), [], [])], [(241, 4), (241, 5), (241, 6), (241, 7), (241, 8), (241, 9), (241, 10)], 4)
set_option maxRecDepth 100000 in
theorem mjC_r_36 {J : MjW → Prop} (hJ : mjUok m4S m4P J) (H : mjHr J) : mjCtr m4S J 195 mjSm_r_36 := aiOk_ctr hJ (env := [(192, mjSm_r_4), (187, mjSm_r_17), (187, mjSm_r_19), (193, mjSm_r_18), (187, mjSm_r_16), (187, mjSm_r_0), (181, mjSm_r_1), (191, mjSm_r_35)]) (mjEnvC (mjC_r_4 hJ H) (mjEnvC (mjC_r_17 hJ H) (mjEnvC (mjC_r_19 hJ H) (mjEnvC (mjC_r_18 hJ H) (mjEnvC (mjC_r_16 hJ H) (mjEnvC (mjC_r_0 hJ H) (mjEnvC (mjC_r_1 hJ H) (mjEnvC (mjC_r_35 hJ H) (fun e he => (by cases he)))))))))) (pr := []) (sp := 255) (cuts := []) (n := 47) (by decide +kernel)
def mjSm_r_37 : MjSm := ([(3, 240, 240, 0, 0), (0, 0, 5, 0, 0), (0, 0, 4, 0, 0)], [(240, 43, (0, 0, 0, 0, 0))], [((0, 0, 29, 0, 0), [], [])], [], 1)
set_option maxRecDepth 100000 in
theorem mjC_r_37 {J : MjW → Prop} (hJ : mjUok m4S m4P J) (H : mjHr J) : mjCtr m4S J 200 mjSm_r_37 := aiOk_ctr hJ (env := []) (fun e he => (by cases he)) (pr := []) (sp := 255) (cuts := []) (n := 14) (by decide +kernel)
def mjSm_r_38 : MjSm := ([(3, 240, 240, 0, 0), (0, 0, 0, 0, 0), (0, 30, 30, 0, 0), (0, 0, 0, 0, 0)], [], [((0, 0, 30, 0, 0), [], [])], [(241, 4), (241, 5), (241, 6), (241, 7), (241, 8), (241, 9), (241, 10)], 4)
set_option maxRecDepth 100000 in
theorem mjC_r_38 {J : MjW → Prop} (hJ : mjUok m4S m4P J) (H : mjHr J) : mjCtr m4S J 195 mjSm_r_38 := aiOk_ctr hJ (env := [(192, mjSm_r_4), (187, mjSm_r_17), (187, mjSm_r_19), (193, mjSm_r_18), (187, mjSm_r_16), (187, mjSm_r_0), (181, mjSm_r_1), (191, mjSm_r_26)]) (mjEnvC (mjC_r_4 hJ H) (mjEnvC (mjC_r_17 hJ H) (mjEnvC (mjC_r_19 hJ H) (mjEnvC (mjC_r_18 hJ H) (mjEnvC (mjC_r_16 hJ H) (mjEnvC (mjC_r_0 hJ H) (mjEnvC (mjC_r_1 hJ H) (mjEnvC (mjC_r_26 hJ H) (fun e he => (by cases he)))))))))) (pr := []) (sp := 255) (cuts := []) (n := 47) (by decide +kernel)
def mjSm_r_39 : MjSm := ([(3, 240, 240, 0, 0), (1, 0, 0, 0, 0), (0, 0, 0, 0, 0), (0, 30, 30, 0, 0)], [], [((0, 0, 30, 0, 0), [], [])], [(241, 4), (241, 5), (241, 6), (241, 7), (241, 8), (241, 9), (241, 10)], 5)
set_option maxRecDepth 100000 in
theorem mjC_r_39 {J : MjW → Prop} (hJ : mjUok m4S m4P J) (H : mjHr J) : mjCtr m4S J 197 mjSm_r_39 := aiOk_ctr hJ (env := [(190, mjSm_r_9), (195, mjSm_r_38), (198, mjSm_r_5)]) (mjEnvC (mjC_r_9 hJ H) (mjEnvC (mjC_r_38 hJ H) (mjEnvC (mjC_r_5 hJ H) (fun e he => (by cases he))))) (pr := []) (sp := 255) (cuts := []) (n := 14) (by decide +kernel)
def mjSm_r_40 : MjSm := ([(3, 240, 240, 0, 0)], [(240, 43, (0, 0, 0, 0, 0))], [((7, 0, 0, 0, 0), [], [])], [(241, 4), (241, 5), (241, 6), (241, 7), (241, 8), (241, 9), (241, 10), (254, 0), (254, 1), (254, 2), (254, 3), (254, 4), (254, 5), (257, 255)], 6)
set_option maxRecDepth 100000 in
theorem mjC_r_40 {J : MjW → Prop} (hJ : mjUok m4S m4P J) (H : mjHr J) : mjCtr m4S J 199 mjSm_r_40 := aiOk_ctr hJ (env := [(200, mjSm_r_37), (197, mjSm_r_39), (195, mjSm_r_36), (195, mjSm_r_32)]) (mjEnvC (mjC_r_37 hJ H) (mjEnvC (mjC_r_39 hJ H) (mjEnvC (mjC_r_36 hJ H) (mjEnvC (mjC_r_32 hJ H) (fun e he => (by cases he)))))) (pr := []) (sp := 255) (cuts := []) (n := 63) (by decide +kernel)
def mjSm_r_41 : MjSm := ([(3, 240, 240, 0, 0), (0, 1, 1, 0, 0)], [], [((7, 0, 0, 0, 0), [], [])], [(241, 6), (241, 7), (241, 8), (241, 9), (241, 10)], 4)
set_option maxRecDepth 100000 in
theorem mjC_r_41 {J : MjW → Prop} (hJ : mjUok m4S m4P J) (H : mjHr J) : mjCtr m4S J 198 mjSm_r_41 := aiOk_ctr hJ (env := [(187, mjSm_r_0), (181, mjSm_r_1)]) (mjEnvC (mjC_r_0 hJ H) (mjEnvC (mjC_r_1 hJ H) (fun e he => (by cases he)))) (pr := []) (sp := 255) (cuts := []) (n := 12) (by decide +kernel)
def mjSm_r_42 : MjSm := ([(3, 240, 240, 0, 0), (0, 0, 0, 0, 0)], [], [((7, 0, 0, 0, 0), [], [(240, 4, (0, 1, 5, 0, 0))])], [(241, 4), (241, 5)], 3)
set_option maxRecDepth 100000 in
theorem mjC_r_42 {J : MjW → Prop} (hJ : mjUok m4S m4P J) (H : mjHr J) : mjCtr m4S J 198 mjSm_r_42 := aiOk_ctr hJ (env := [(192, mjSm_r_4), (187, mjSm_r_0)]) (mjEnvC (mjC_r_4 hJ H) (mjEnvC (mjC_r_0 hJ H) (fun e he => (by cases he)))) (pr := []) (sp := 255) (cuts := []) (n := 11) (by decide +kernel)
def mjSm_r_43 : MjSm := ([(3, 240, 240, 0, 0)], [(240, 43, (0, 0, 0, 0, 0))], [((7, 0, 0, 0, 0), [], [])], [(241, 4), (241, 5), (241, 6), (241, 7), (241, 8), (241, 9), (241, 10), (255, 0), (255, 1), (255, 2), (255, 3), (255, 4), (255, 5), (258, 255)], 5)
set_option maxRecDepth 100000 in
theorem mjC_r_43 {J : MjW → Prop} (hJ : mjUok m4S m4P J) (H : mjHr J) : mjCtr m4S J 201 mjSm_r_43 := aiOk_ctr hJ (env := [(200, mjSm_r_37), (190, mjSm_r_9), (198, mjSm_r_41), (198, mjSm_r_42), (195, mjSm_r_36), (195, mjSm_r_32)]) (mjEnvC (mjC_r_37 hJ H) (mjEnvC (mjC_r_9 hJ H) (mjEnvC (mjC_r_41 hJ H) (mjEnvC (mjC_r_42 hJ H) (mjEnvC (mjC_r_36 hJ H) (mjEnvC (mjC_r_32 hJ H) (fun e he => (by cases he)))))))) (pr := []) (sp := 255) (cuts := []) (n := 76) (by decide +kernel)
def mjSm_r_44 : MjSm := ([(3, 240, 240, 0, 0), (3, 267, 267, 0, 0), (0, 0, 0, 0, 0), (0, 0, 4, 0, 0)], [], [((0, 0, 0, 0, 0), [(3, 1, 4)], []), ((0, 1, 1, 0, 0), [(3, 2, 4)], []), ((0, 2, 2, 0, 0), [(3, 3, 4)], []), ((0, 3, 3, 0, 0), [(3, 4, 4)], []), ((0, -1, -1, 0, 0), [], [])], [], 1)
set_option maxRecDepth 100000 in
theorem mjC_r_44 {J : MjW → Prop} (hJ : mjUok m4S m4P J) (H : mjHr J) : mjCtr m4S J 203 mjSm_r_44 := aiOk_ctr hJ (env := []) (fun e he => (by cases he)) (pr := [3]) (sp := 255) (cuts := []) (n := 82) (by decide +kernel)
def mjSm_r_45 : MjSm := ([(3, 240, 240, 0, 0)], [(240, 4, (0, 1, 5, 0, 0))], [((0, 0, 0, 0, 0), [], [(240, 4, (0, 1, 5, 0, 0))])], [], 1)
set_option maxRecDepth 100000 in
theorem mjC_r_45 {J : MjW → Prop} (hJ : mjUok m4S m4P J) (H : mjHr J) : mjCtr m4S J 187 mjSm_r_45 := aiOk_ctr hJ (env := []) (fun e he => (by cases he)) (pr := []) (sp := 255) (cuts := []) (n := 8) (by decide +kernel)
def mjSm_r_46 : MjSm := ([(3, 240, 240, 0, 0), (0, 1, 1, 0, 0)], [(240, 4, (0, 1, 5, 0, 0))], [((7, 0, 0, 0, 0), [], [])], [], 2)
set_option maxRecDepth 100000 in
theorem mjC_r_46 {J : MjW → Prop} (hJ : mjUok m4S m4P J) (H : mjHr J) : mjCtr m4S J 198 mjSm_r_46 := aiOk_ctr hJ (env := [(187, mjSm_r_45)]) (mjEnvC (mjC_r_45 hJ H) (fun e he => (by cases he))) (pr := []) (sp := 255) (cuts := []) (n := 7) (by decide +kernel)
def mjSm_r_47 : MjSm := ([(3, 240, 240, 0, 0), (0, 0, 0, 0, 0)], [(240, 4, (0, 1, 5, 0, 0))], [((7, 0, 0, 0, 0), [], [])], [], 2)
set_option maxRecDepth 100000 in
theorem mjC_r_47 {J : MjW → Prop} (hJ : mjUok m4S m4P J) (H : mjHr J) : mjCtr m4S J 198 mjSm_r_47 := aiOk_ctr hJ (env := [(187, mjSm_r_45)]) (mjEnvC (mjC_r_45 hJ H) (fun e he => (by cases he))) (pr := []) (sp := 255) (cuts := []) (n := 7) (by decide +kernel)
def mjSm_r_48 : MjSm := ([(3, 240, 240, 0, 0), (0, 1, 1, 0, 0)], [(240, 4, (0, 0, 0, 0, 0))], [((7, 0, 0, 0, 0), [], [])], [(241, 6), (241, 7), (241, 8), (241, 9), (241, 10)], 4)
set_option maxRecDepth 100000 in
theorem mjC_r_48 {J : MjW → Prop} (hJ : mjUok m4S m4P J) (H : mjHr J) : mjCtr m4S J 198 mjSm_r_48 := aiOk_ctr hJ (env := [(187, mjSm_r_17), (181, mjSm_r_1)]) (mjEnvC (mjC_r_17 hJ H) (mjEnvC (mjC_r_1 hJ H) (fun e he => (by cases he)))) (pr := []) (sp := 255) (cuts := []) (n := 12) (by decide +kernel)
def mjSm_r_49 : MjSm := ([(3, 240, 240, 0, 0), (0, 0, 0, 0, 0)], [(240, 4, (0, 0, 0, 0, 0))], [((7, 0, 0, 0, 0), [], [(240, 4, (0, 1, 2, 0, 0))])], [(241, 4), (241, 5)], 3)
set_option maxRecDepth 100000 in
theorem mjC_r_49 {J : MjW → Prop} (hJ : mjUok m4S m4P J) (H : mjHr J) : mjCtr m4S J 198 mjSm_r_49 := aiOk_ctr hJ (env := [(192, mjSm_r_4), (187, mjSm_r_17)]) (mjEnvC (mjC_r_4 hJ H) (mjEnvC (mjC_r_17 hJ H) (fun e he => (by cases he)))) (pr := []) (sp := 255) (cuts := []) (n := 11) (by decide +kernel)
def mjSm_r_50 : MjSm := ([(3, 240, 240, 0, 0), (0, -1, -1, 0, 0)], [], [((1, 0, 0, 0, 0), [], [(240, 4, (0, 1, 5, 0, 0))]), ((1, 0, 0, 0, 0), [], [(240, 4, (0, 0, 0, 0, 0))]), ((1, 0, 0, 0, 0), [], [(240, 4, (0, 1, 2, 0, 0))])], [(241, 4), (241, 5), (241, 6), (241, 7), (241, 8), (241, 9), (241, 10)], 5)
set_option maxRecDepth 100000 in
theorem mjC_r_50 {J : MjW → Prop} (hJ : mjUok m4S m4P J) (H : mjHr J) : mjCtr m4S J 204 mjSm_r_50 := aiOk_ctr hJ (env := [(198, mjSm_r_48), (198, mjSm_r_49), (198, mjSm_r_46), (198, mjSm_r_47), (187, mjSm_r_0)]) (mjEnvC (mjC_r_48 hJ H) (mjEnvC (mjC_r_49 hJ H) (mjEnvC (mjC_r_46 hJ H) (mjEnvC (mjC_r_47 hJ H) (mjEnvC (mjC_r_0 hJ H) (fun e he => (by cases he))))))) (pr := []) (sp := 255) (cuts := []) (n := 21) (by decide +kernel)
def mjSm_r_51 : MjSm := ([(3, 240, 240, 0, 0), (0, 0, 1, 0, 0)], [(240, 4, (0, 1, 2, 0, 0))], [((7, 0, 0, 0, 0), [], [])], [], 2)
set_option maxRecDepth 100000 in
theorem mjC_r_51 {J : MjW → Prop} (hJ : mjUok m4S m4P J) (H : mjHr J) : mjCtr m4S J 198 mjSm_r_51 := aiOk_ctr hJ (env := [(187, mjSm_r_16)]) (mjEnvC (mjC_r_16 hJ H) (fun e he => (by cases he))) (pr := []) (sp := 255) (cuts := []) (n := 7) (by decide +kernel)
def mjSm_r_52 : MjSm := ([(3, 240, 240, 0, 0), (0, 0, 0, 0, 0), (0, -1, 5, 0, 0), (0, 0, 0, 0, 0)], [(240, 4, (0, 1, 2, 0, 0))], [((0, 0, 0, 0, 0), [], [])], [], 2)
set_option maxRecDepth 100000 in
theorem mjC_r_52 {J : MjW → Prop} (hJ : mjUok m4S m4P J) (H : mjHr J) : mjCtr m4S J 195 mjSm_r_52 := aiOk_ctr hJ (env := [(187, mjSm_r_16)]) (mjEnvC (mjC_r_16 hJ H) (fun e he => (by cases he))) (pr := []) (sp := 255) (cuts := []) (n := 8) (by decide +kernel)
def mjSm_r_53 : MjSm := ([(3, 240, 240, 0, 0), (1, 0, 0, 0, 0), (0, 0, 0, 0, 0), (0, -1, 5, 0, 0)], [(240, 4, (0, 1, 2, 0, 0))], [((0, 0, 0, 0, 0), [], [])], [], 3)
set_option maxRecDepth 100000 in
theorem mjC_r_53 {J : MjW → Prop} (hJ : mjUok m4S m4P J) (H : mjHr J) : mjCtr m4S J 197 mjSm_r_53 := aiOk_ctr hJ (env := [(198, mjSm_r_51), (195, mjSm_r_52), (190, mjSm_r_9)]) (mjEnvC (mjC_r_51 hJ H) (mjEnvC (mjC_r_52 hJ H) (mjEnvC (mjC_r_9 hJ H) (fun e he => (by cases he))))) (pr := []) (sp := 255) (cuts := []) (n := 14) (by decide +kernel)
def mjSm_r_54 : MjSm := ([(3, 240, 240, 0, 0), (0, 0, 0, 0, 0), (0, 99, 99, 0, 0), (0, 0, 0, 0, 0)], [(240, 4, (0, 1, 2, 0, 0))], [((0, 0, 0, 0, 0), [], [])], [], 2)
set_option maxRecDepth 100000 in
theorem mjC_r_54 {J : MjW → Prop} (hJ : mjUok m4S m4P J) (H : mjHr J) : mjCtr m4S J 195 mjSm_r_54 := aiOk_ctr hJ (env := [(187, mjSm_r_16)]) (mjEnvC (mjC_r_16 hJ H) (fun e he => (by cases he))) (pr := []) (sp := 255) (cuts := []) (n := 8) (by decide +kernel)
def mjSm_r_55 : MjSm := ([(3, 240, 240, 0, 0), (1, 0, 0, 0, 0), (0, 0, 0, 0, 0), (0, 99, 99, 0, 0)], [(240, 4, (0, 1, 2, 0, 0))], [((0, 0, 0, 0, 0), [], [])], [], 3)
set_option maxRecDepth 100000 in
theorem mjC_r_55 {J : MjW → Prop} (hJ : mjUok m4S m4P J) (H : mjHr J) : mjCtr m4S J 197 mjSm_r_55 := aiOk_ctr hJ (env := [(195, mjSm_r_54), (198, mjSm_r_51), (190, mjSm_r_9)]) (mjEnvC (mjC_r_54 hJ H) (mjEnvC (mjC_r_51 hJ H) (mjEnvC (mjC_r_9 hJ H) (fun e he => (by cases he))))) (pr := []) (sp := 255) (cuts := []) (n := 14) (by decide +kernel)
def mjSm_r_56 : MjSm := ([(3, 240, 240, 0, 0), (0, 0, 1, 0, 0)], [(240, 4, (0, 0, 0, 0, 0))], [((7, 0, 0, 0, 0), [], [(240, 4, (0, 0, 2, 0, 0))])], [(241, 4), (241, 5), (241, 6), (241, 7), (241, 8), (241, 9), (241, 10)], 4)
set_option maxRecDepth 100000 in
theorem mjC_r_56 {J : MjW → Prop} (hJ : mjUok m4S m4P J) (H : mjHr J) : mjCtr m4S J 198 mjSm_r_56 := aiOk_ctr hJ (env := [(192, mjSm_r_4), (187, mjSm_r_17), (181, mjSm_r_1)]) (mjEnvC (mjC_r_4 hJ H) (mjEnvC (mjC_r_17 hJ H) (mjEnvC (mjC_r_1 hJ H) (fun e he => (by cases he))))) (pr := [1]) (sp := 255) (cuts := []) (n := 12) (by decide +kernel)
def mjSm_r_57 : MjSm := ([(3, 240, 240, 0, 0)], [(240, 4, (0, 0, 2, 0, 0))], [((0, 1, 1, 0, 0), [], [(240, 4, (0, 0, 0, 0, 0))]), ((0, 0, 0, 0, 0), [], [(240, 4, (0, 1, 2, 0, 0))])], [], 1)
set_option maxRecDepth 100000 in
theorem mjC_r_57 {J : MjW → Prop} (hJ : mjUok m4S m4P J) (H : mjHr J) : mjCtr m4S J 187 mjSm_r_57 := aiOk_ctr hJ (env := []) (fun e he => (by cases he)) (pr := []) (sp := 255) (cuts := []) (n := 9) (by decide +kernel)
def mjSm_r_58 : MjSm := ([(3, 240, 240, 0, 0), (0, 0, 0, 0, 0), (0, -1, 5, 0, 0), (0, 0, 0, 0, 0)], [(240, 4, (0, 0, 2, 0, 0))], [((0, 0, 5, 0, 0), [], [(240, 4, (0, 0, 4, 0, 0))])], [(241, 4), (241, 5), (241, 6), (241, 7), (241, 8), (241, 9), (241, 10)], 4)
set_option maxRecDepth 100000 in
theorem mjC_r_58 {J : MjW → Prop} (hJ : mjUok m4S m4P J) (H : mjHr J) : mjCtr m4S J 195 mjSm_r_58 := aiOk_ctr hJ (env := [(192, mjSm_r_4), (187, mjSm_r_17), (187, mjSm_r_19), (193, mjSm_r_18), (187, mjSm_r_16), (187, mjSm_r_57), (181, mjSm_r_1), (191, mjSm_r_35)]) (mjEnvC (mjC_r_4 hJ H) (mjEnvC (mjC_r_17 hJ H) (mjEnvC (mjC_r_19 hJ H) (mjEnvC (mjC_r_18 hJ H) (mjEnvC (mjC_r_16 hJ H) (mjEnvC (mjC_r_57 hJ H) (mjEnvC (mjC_r_1 hJ H) (mjEnvC (mjC_r_35 hJ H) (fun e he => (by cases he)))))))))) (pr := []) (sp := 255) (cuts := []) (n := 47) (by decide +kernel)
def mjSm_r_59 : MjSm := ([(3, 240, 240, 0, 0), (1, 0, 0, 0, 0), (0, 0, 0, 0, 0), (0, -1, 5, 0, 0)], [(240, 4, (0, 0, 0, 0, 0))], [((0, 0, 5, 0, 0), [], [(240, 4, (0, 0, 4, 0, 0))])], [(241, 4), (241, 5), (241, 6), (241, 7), (241, 8), (241, 9), (241, 10)], 5)
set_option maxRecDepth 100000 in
theorem mjC_r_59 {J : MjW → Prop} (hJ : mjUok m4S m4P J) (H : mjHr J) : mjCtr m4S J 197 mjSm_r_59 := aiOk_ctr hJ (env := [(198, mjSm_r_56), (195, mjSm_r_58), (190, mjSm_r_9)]) (mjEnvC (mjC_r_56 hJ H) (mjEnvC (mjC_r_58 hJ H) (mjEnvC (mjC_r_9 hJ H) (fun e he => (by cases he))))) (pr := []) (sp := 255) (cuts := []) (n := 14) (by decide +kernel)
def mjSm_r_60 : MjSm := ([(3, 240, 240, 0, 0)], [(240, 4, (0, 0, 4, 0, 0))], [((0, 1, 1, 0, 0), [], [(240, 4, (0, 0, 0, 0, 0))]), ((0, 0, 0, 0, 0), [], [(240, 4, (0, 1, 4, 0, 0))])], [], 1)
set_option maxRecDepth 100000 in
theorem mjC_r_60 {J : MjW → Prop} (hJ : mjUok m4S m4P J) (H : mjHr J) : mjCtr m4S J 187 mjSm_r_60 := aiOk_ctr hJ (env := []) (fun e he => (by cases he)) (pr := []) (sp := 255) (cuts := []) (n := 9) (by decide +kernel)
def mjSm_r_61 : MjSm := ([(3, 240, 240, 0, 0), (0, 0, 1, 0, 0)], [(240, 4, (0, 0, 4, 0, 0))], [((7, 0, 0, 0, 0), [], [(240, 4, (0, 0, 4, 0, 0))])], [(241, 4), (241, 5), (241, 6), (241, 7), (241, 8), (241, 9), (241, 10)], 4)
set_option maxRecDepth 100000 in
theorem mjC_r_61 {J : MjW → Prop} (hJ : mjUok m4S m4P J) (H : mjHr J) : mjCtr m4S J 198 mjSm_r_61 := aiOk_ctr hJ (env := [(192, mjSm_r_4), (187, mjSm_r_60), (181, mjSm_r_1)]) (mjEnvC (mjC_r_4 hJ H) (mjEnvC (mjC_r_60 hJ H) (mjEnvC (mjC_r_1 hJ H) (fun e he => (by cases he))))) (pr := []) (sp := 255) (cuts := []) (n := 12) (by decide +kernel)
def mjSm_r_62 : MjSm := ([(3, 240, 240, 0, 0), (0, 0, 0, 0, 0), (0, 99, 99, 0, 0), (0, 0, 0, 0, 0)], [(240, 4, (0, 0, 4, 0, 0))], [((0, 0, 99, 0, 0), [], [(240, 4, (0, 0, 4, 0, 0))])], [(241, 4), (241, 5), (241, 6), (241, 7), (241, 8), (241, 9), (241, 10)], 4)
set_option maxRecDepth 100000 in
theorem mjC_r_62 {J : MjW → Prop} (hJ : mjUok m4S m4P J) (H : mjHr J) : mjCtr m4S J 195 mjSm_r_62 := aiOk_ctr hJ (env := [(192, mjSm_r_4), (187, mjSm_r_17), (187, mjSm_r_19), (193, mjSm_r_18), (187, mjSm_r_16), (187, mjSm_r_60), (181, mjSm_r_1), (191, mjSm_r_26)]) (mjEnvC (mjC_r_4 hJ H) (mjEnvC (mjC_r_17 hJ H) (mjEnvC (mjC_r_19 hJ H) (mjEnvC (mjC_r_18 hJ H) (mjEnvC (mjC_r_16 hJ H) (mjEnvC (mjC_r_60 hJ H) (mjEnvC (mjC_r_1 hJ H) (mjEnvC (mjC_r_26 hJ H) (fun e he => (by cases he)))))))))) (pr := []) (sp := 255) (cuts := []) (n := 47) (by decide +kernel)
def mjSm_r_63 : MjSm := ([(3, 240, 240, 0, 0), (1, 0, 0, 0, 0), (0, 0, 0, 0, 0), (0, 99, 99, 0, 0)], [(240, 4, (0, 0, 4, 0, 0))], [((0, 0, 99, 0, 0), [], [(240, 4, (0, 0, 4, 0, 0))])], [(241, 4), (241, 5), (241, 6), (241, 7), (241, 8), (241, 9), (241, 10)], 5)
set_option maxRecDepth 100000 in
theorem mjC_r_63 {J : MjW → Prop} (hJ : mjUok m4S m4P J) (H : mjHr J) : mjCtr m4S J 197 mjSm_r_63 := aiOk_ctr hJ (env := [(195, mjSm_r_62), (198, mjSm_r_61), (190, mjSm_r_9)]) (mjEnvC (mjC_r_62 hJ H) (mjEnvC (mjC_r_61 hJ H) (mjEnvC (mjC_r_9 hJ H) (fun e he => (by cases he))))) (pr := []) (sp := 255) (cuts := []) (n := 14) (by decide +kernel)
def mjSm_r_64 : MjSm := ([(0, 0, 0, 0, 0), (0, 0, 20, 0, 0)], [], [((0, 0, 0, 0, 0), [], [])], [], 1)
set_option maxRecDepth 100000 in
theorem mjC_r_64 {J : MjW → Prop} (hJ : mjUok m4S m4P J) (H : mjHr J) : mjCtr m4S J 191 mjSm_r_64 := aiOk_ctr hJ (env := []) (fun e he => (by cases he)) (pr := []) (sp := 255) (cuts := []) (n := 12) (by decide +kernel)
def mjSm_r_65 : MjSm := ([(3, 240, 240, 0, 0), (0, 0, 0, 0, 0), (0, 20, 20, 0, 0), (0, 0, 0, 0, 0)], [(240, 4, (0, 0, 2, 0, 0))], [((0, 0, 20, 0, 0), [], [(240, 4, (0, 0, 4, 0, 0))])], [(241, 4), (241, 5), (241, 6), (241, 7), (241, 8), (241, 9), (241, 10)], 4)
set_option maxRecDepth 100000 in
theorem mjC_r_65 {J : MjW → Prop} (hJ : mjUok m4S m4P J) (H : mjHr J) : mjCtr m4S J 195 mjSm_r_65 := aiOk_ctr hJ (env := [(192, mjSm_r_4), (187, mjSm_r_17), (187, mjSm_r_19), (193, mjSm_r_18), (187, mjSm_r_16), (187, mjSm_r_57), (181, mjSm_r_1), (191, mjSm_r_64)]) (mjEnvC (mjC_r_4 hJ H) (mjEnvC (mjC_r_17 hJ H) (mjEnvC (mjC_r_19 hJ H) (mjEnvC (mjC_r_18 hJ H) (mjEnvC (mjC_r_16 hJ H) (mjEnvC (mjC_r_57 hJ H) (mjEnvC (mjC_r_1 hJ H) (mjEnvC (mjC_r_64 hJ H) (fun e he => (by cases he)))))))))) (pr := []) (sp := 255) (cuts := []) (n := 47) (by decide +kernel)
def mjSm_r_66 : MjSm := ([(3, 240, 240, 0, 0), (1, 0, 0, 0, 0), (0, 0, 0, 0, 0), (0, 20, 20, 0, 0)], [(240, 4, (0, 0, 0, 0, 0))], [((0, 0, 20, 0, 0), [], [(240, 4, (0, 0, 4, 0, 0))])], [(241, 4), (241, 5), (241, 6), (241, 7), (241, 8), (241, 9), (241, 10)], 5)
set_option maxRecDepth 100000 in
theorem mjC_r_66 {J : MjW → Prop} (hJ : mjUok m4S m4P J) (H : mjHr J) : mjCtr m4S J 197 mjSm_r_66 := aiOk_ctr hJ (env := [(198, mjSm_r_56), (195, mjSm_r_65), (190, mjSm_r_9)]) (mjEnvC (mjC_r_56 hJ H) (mjEnvC (mjC_r_65 hJ H) (mjEnvC (mjC_r_9 hJ H) (fun e he => (by cases he))))) (pr := []) (sp := 255) (cuts := []) (n := 14) (by decide +kernel)
def mjSm_r_67 : MjSm := ([(3, 240, 240, 0, 0), (0, 0, 1, 0, 0)], [(240, 4, (0, 1, 5, 0, 0))], [((7, 0, 0, 0, 0), [], [])], [], 2)
set_option maxRecDepth 100000 in
theorem mjC_r_67 {J : MjW → Prop} (hJ : mjUok m4S m4P J) (H : mjHr J) : mjCtr m4S J 198 mjSm_r_67 := aiOk_ctr hJ (env := [(187, mjSm_r_45)]) (mjEnvC (mjC_r_45 hJ H) (fun e he => (by cases he))) (pr := []) (sp := 255) (cuts := []) (n := 7) (by decide +kernel)
def mjSm_r_68 : MjSm := ([(3, 240, 240, 0, 0), (0, 0, 0, 0, 0), (0, -1, 5, 0, 0), (0, 0, 0, 0, 0)], [(240, 4, (0, 1, 5, 0, 0))], [((0, 0, 0, 0, 0), [], [])], [], 2)
set_option maxRecDepth 100000 in
theorem mjC_r_68 {J : MjW → Prop} (hJ : mjUok m4S m4P J) (H : mjHr J) : mjCtr m4S J 195 mjSm_r_68 := aiOk_ctr hJ (env := [(187, mjSm_r_45)]) (mjEnvC (mjC_r_45 hJ H) (fun e he => (by cases he))) (pr := []) (sp := 255) (cuts := []) (n := 8) (by decide +kernel)
def mjSm_r_69 : MjSm := ([(3, 240, 240, 0, 0), (1, 0, 0, 0, 0), (0, 0, 0, 0, 0), (0, -1, 5, 0, 0)], [(240, 4, (0, 1, 5, 0, 0))], [((0, 0, 0, 0, 0), [], [])], [], 3)
set_option maxRecDepth 100000 in
theorem mjC_r_69 {J : MjW → Prop} (hJ : mjUok m4S m4P J) (H : mjHr J) : mjCtr m4S J 197 mjSm_r_69 := aiOk_ctr hJ (env := [(198, mjSm_r_67), (195, mjSm_r_68), (190, mjSm_r_9)]) (mjEnvC (mjC_r_67 hJ H) (mjEnvC (mjC_r_68 hJ H) (mjEnvC (mjC_r_9 hJ H) (fun e he => (by cases he))))) (pr := []) (sp := 255) (cuts := []) (n := 14) (by decide +kernel)
def mjSm_r_70 : MjSm := ([(3, 240, 240, 0, 0), (0, 0, 0, 0, 0), (0, 99, 99, 0, 0), (0, 0, 0, 0, 0)], [(240, 4, (0, 1, 5, 0, 0))], [((0, 0, 0, 0, 0), [], [])], [], 2)
set_option maxRecDepth 100000 in
theorem mjC_r_70 {J : MjW → Prop} (hJ : mjUok m4S m4P J) (H : mjHr J) : mjCtr m4S J 195 mjSm_r_70 := aiOk_ctr hJ (env := [(187, mjSm_r_45)]) (mjEnvC (mjC_r_45 hJ H) (fun e he => (by cases he))) (pr := []) (sp := 255) (cuts := []) (n := 8) (by decide +kernel)
def mjSm_r_71 : MjSm := ([(3, 240, 240, 0, 0), (1, 0, 0, 0, 0), (0, 0, 0, 0, 0), (0, 99, 99, 0, 0)], [(240, 4, (0, 1, 5, 0, 0))], [((0, 0, 0, 0, 0), [], [])], [], 3)
set_option maxRecDepth 100000 in
theorem mjC_r_71 {J : MjW → Prop} (hJ : mjUok m4S m4P J) (H : mjHr J) : mjCtr m4S J 197 mjSm_r_71 := aiOk_ctr hJ (env := [(195, mjSm_r_70), (198, mjSm_r_67), (190, mjSm_r_9)]) (mjEnvC (mjC_r_70 hJ H) (mjEnvC (mjC_r_67 hJ H) (mjEnvC (mjC_r_9 hJ H) (fun e he => (by cases he))))) (pr := []) (sp := 255) (cuts := []) (n := 14) (by decide +kernel)
def mjSm_r_72 : MjSm := ([(3, 240, 240, 0, 0), (0, 1, 1, 0, 0)], [(240, 4, (0, 3, 3, 0, 0))], [((7, 0, 0, 0, 0), [], [])], [], 2)
set_option maxRecDepth 100000 in
theorem mjC_r_72 {J : MjW → Prop} (hJ : mjUok m4S m4P J) (H : mjHr J) : mjCtr m4S J 198 mjSm_r_72 := aiOk_ctr hJ (env := [(187, mjSm_r_31)]) (mjEnvC (mjC_r_31 hJ H) (fun e he => (by cases he))) (pr := []) (sp := 255) (cuts := []) (n := 7) (by decide +kernel)
def mjSm_r_73 : MjSm := ([(3, 240, 240, 0, 0), (0, 0, 0, 0, 0)], [(240, 4, (0, 3, 3, 0, 0))], [((7, 0, 0, 0, 0), [], [])], [], 2)
set_option maxRecDepth 100000 in
theorem mjC_r_73 {J : MjW → Prop} (hJ : mjUok m4S m4P J) (H : mjHr J) : mjCtr m4S J 198 mjSm_r_73 := aiOk_ctr hJ (env := [(187, mjSm_r_31)]) (mjEnvC (mjC_r_31 hJ H) (fun e he => (by cases he))) (pr := []) (sp := 255) (cuts := []) (n := 7) (by decide +kernel)
def mjSm_r_74 : MjSm := ([(3, 240, 240, 0, 0), (0, 3, 3, 0, 0)], [], [((1, 0, 0, 0, 0), [], [(240, 4, (0, 1, 5, 0, 0))]), ((1, 0, 0, 0, 0), [], [(240, 4, (0, 3, 3, 0, 0))])], [(241, 4), (241, 5)], 3)
set_option maxRecDepth 100000 in
theorem mjC_r_74 {J : MjW → Prop} (hJ : mjUok m4S m4P J) (H : mjHr J) : mjCtr m4S J 204 mjSm_r_74 := aiOk_ctr hJ (env := [(198, mjSm_r_73), (198, mjSm_r_72), (193, mjSm_r_30), (198, mjSm_r_46), (198, mjSm_r_47), (187, mjSm_r_0)]) (mjEnvC (mjC_r_73 hJ H) (mjEnvC (mjC_r_72 hJ H) (mjEnvC (mjC_r_30 hJ H) (mjEnvC (mjC_r_46 hJ H) (mjEnvC (mjC_r_47 hJ H) (mjEnvC (mjC_r_0 hJ H) (fun e he => (by cases he)))))))) (pr := []) (sp := 255) (cuts := []) (n := 26) (by decide +kernel)
def mjSm_r_75 : MjSm := ([(3, 240, 240, 0, 0), (0, 0, 1, 0, 0)], [(240, 4, (0, 3, 3, 0, 0))], [((7, 0, 0, 0, 0), [], [])], [], 2)
set_option maxRecDepth 100000 in
theorem mjC_r_75 {J : MjW → Prop} (hJ : mjUok m4S m4P J) (H : mjHr J) : mjCtr m4S J 198 mjSm_r_75 := aiOk_ctr hJ (env := [(187, mjSm_r_31)]) (mjEnvC (mjC_r_31 hJ H) (fun e he => (by cases he))) (pr := []) (sp := 255) (cuts := []) (n := 7) (by decide +kernel)
def mjSm_r_76 : MjSm := ([(3, 240, 240, 0, 0), (0, 0, 0, 0, 0), (0, -1, 5, 0, 0), (0, 0, 0, 0, 0)], [(240, 4, (0, 3, 3, 0, 0))], [((0, 0, 0, 0, 0), [], [])], [], 2)
set_option maxRecDepth 100000 in
theorem mjC_r_76 {J : MjW → Prop} (hJ : mjUok m4S m4P J) (H : mjHr J) : mjCtr m4S J 195 mjSm_r_76 := aiOk_ctr hJ (env := [(187, mjSm_r_31)]) (mjEnvC (mjC_r_31 hJ H) (fun e he => (by cases he))) (pr := []) (sp := 255) (cuts := []) (n := 8) (by decide +kernel)
def mjSm_r_77 : MjSm := ([(3, 240, 240, 0, 0), (1, 0, 0, 0, 0), (0, 0, 0, 0, 0), (0, -1, 5, 0, 0)], [(240, 4, (0, 3, 3, 0, 0))], [((0, 0, 0, 0, 0), [], [])], [], 3)
set_option maxRecDepth 100000 in
theorem mjC_r_77 {J : MjW → Prop} (hJ : mjUok m4S m4P J) (H : mjHr J) : mjCtr m4S J 197 mjSm_r_77 := aiOk_ctr hJ (env := [(198, mjSm_r_75), (195, mjSm_r_76), (190, mjSm_r_9)]) (mjEnvC (mjC_r_75 hJ H) (mjEnvC (mjC_r_76 hJ H) (mjEnvC (mjC_r_9 hJ H) (fun e he => (by cases he))))) (pr := []) (sp := 255) (cuts := []) (n := 14) (by decide +kernel)
def mjSm_r_78 : MjSm := ([(3, 240, 240, 0, 0), (0, 0, 0, 0, 0), (0, 99, 99, 0, 0), (0, 0, 0, 0, 0)], [(240, 4, (0, 3, 3, 0, 0))], [((0, 0, 0, 0, 0), [], [])], [], 2)
set_option maxRecDepth 100000 in
theorem mjC_r_78 {J : MjW → Prop} (hJ : mjUok m4S m4P J) (H : mjHr J) : mjCtr m4S J 195 mjSm_r_78 := aiOk_ctr hJ (env := [(187, mjSm_r_31)]) (mjEnvC (mjC_r_31 hJ H) (fun e he => (by cases he))) (pr := []) (sp := 255) (cuts := []) (n := 8) (by decide +kernel)
def mjSm_r_79 : MjSm := ([(3, 240, 240, 0, 0), (1, 0, 0, 0, 0), (0, 0, 0, 0, 0), (0, 99, 99, 0, 0)], [(240, 4, (0, 3, 3, 0, 0))], [((0, 0, 0, 0, 0), [], [])], [], 3)
set_option maxRecDepth 100000 in
theorem mjC_r_79 {J : MjW → Prop} (hJ : mjUok m4S m4P J) (H : mjHr J) : mjCtr m4S J 197 mjSm_r_79 := aiOk_ctr hJ (env := [(195, mjSm_r_78), (198, mjSm_r_75), (190, mjSm_r_9)]) (mjEnvC (mjC_r_78 hJ H) (mjEnvC (mjC_r_75 hJ H) (mjEnvC (mjC_r_9 hJ H) (fun e he => (by cases he))))) (pr := []) (sp := 255) (cuts := []) (n := 14) (by decide +kernel)
def mjSm_r_80 : MjSm := ([(3, 240, 240, 0, 0), (0, 2, 2, 0, 0)], [], [((1, 0, 0, 0, 0), [], [(240, 4, (0, 1, 5, 0, 0))]), ((1, 0, 0, 0, 0), [], [(240, 4, (0, 3, 3, 0, 0))])], [(241, 4), (241, 5)], 3)
set_option maxRecDepth 100000 in
theorem mjC_r_80 {J : MjW → Prop} (hJ : mjUok m4S m4P J) (H : mjHr J) : mjCtr m4S J 204 mjSm_r_80 := aiOk_ctr hJ (env := [(198, mjSm_r_73), (198, mjSm_r_72), (193, mjSm_r_30), (198, mjSm_r_46), (198, mjSm_r_47), (187, mjSm_r_0)]) (mjEnvC (mjC_r_73 hJ H) (mjEnvC (mjC_r_72 hJ H) (mjEnvC (mjC_r_30 hJ H) (mjEnvC (mjC_r_46 hJ H) (mjEnvC (mjC_r_47 hJ H) (mjEnvC (mjC_r_0 hJ H) (fun e he => (by cases he)))))))) (pr := []) (sp := 255) (cuts := []) (n := 26) (by decide +kernel)
def mjSm_r_81 : MjSm := ([(3, 240, 240, 0, 0), (0, 1, 1, 0, 0)], [], [((1, 0, 0, 0, 0), [], [(240, 4, (0, 1, 5, 0, 0))]), ((1, 0, 0, 0, 0), [], [(240, 4, (0, 3, 3, 0, 0))])], [(241, 4), (241, 5)], 3)
set_option maxRecDepth 100000 in
theorem mjC_r_81 {J : MjW → Prop} (hJ : mjUok m4S m4P J) (H : mjHr J) : mjCtr m4S J 204 mjSm_r_81 := aiOk_ctr hJ (env := [(198, mjSm_r_73), (198, mjSm_r_72), (193, mjSm_r_30), (198, mjSm_r_46), (198, mjSm_r_47), (187, mjSm_r_0)]) (mjEnvC (mjC_r_73 hJ H) (mjEnvC (mjC_r_72 hJ H) (mjEnvC (mjC_r_30 hJ H) (mjEnvC (mjC_r_46 hJ H) (mjEnvC (mjC_r_47 hJ H) (mjEnvC (mjC_r_0 hJ H) (fun e he => (by cases he)))))))) (pr := []) (sp := 255) (cuts := []) (n := 26) (by decide +kernel)
def mjSm_r_82 : MjSm := ([(3, 240, 240, 0, 0), (0, 0, 0, 0, 0)], [], [((1, 0, 0, 0, 0), [], [(240, 4, (0, 1, 5, 0, 0))]), ((1, 0, 0, 0, 0), [], [(240, 4, (0, 3, 3, 0, 0))])], [(241, 4), (241, 5)], 3)
set_option maxRecDepth 100000 in
theorem mjC_r_82 {J : MjW → Prop} (hJ : mjUok m4S m4P J) (H : mjHr J) : mjCtr m4S J 204 mjSm_r_82 := aiOk_ctr hJ (env := [(198, mjSm_r_73), (198, mjSm_r_72), (193, mjSm_r_30), (198, mjSm_r_46), (198, mjSm_r_47), (187, mjSm_r_0)]) (mjEnvC (mjC_r_73 hJ H) (mjEnvC (mjC_r_72 hJ H) (mjEnvC (mjC_r_30 hJ H) (mjEnvC (mjC_r_46 hJ H) (mjEnvC (mjC_r_47 hJ H) (mjEnvC (mjC_r_0 hJ H) (fun e he => (by cases he)))))))) (pr := []) (sp := 255) (cuts := []) (n := 26) (by decide +kernel)
def mjSm_r_83 : MjSm := ([(3, 240, 240, 0, 0)], [(240, 43, (0, 0, 0, 0, 0)), (245, 0, (0, 0, 4, 0, 0))], [((7, 0, 0, 0, 0), [], [(245, 0, (0, 1, 5, 0, 0))])], [(241, 4), (241, 5), (241, 6), (241, 7), (241, 8), (241, 9), (241, 10), (246, 0), (259, 0), (259, 1), (259, 2), (259, 3), (259, 4), (260, 0), (260, 1), (260, 2), (260, 3), (260, 4), (261, 0), (261, 1), (261, 2), (261, 3), (261, 4), (268, 255)], 6)
set_option maxRecDepth 100000 in
theorem mjC_r_83 {J : MjW → Prop} (hJ : mjUok m4S m4P J) (H : mjHr J) : mjCtr m4S J 202 mjSm_r_83 := aiOk_ctr hJ (env := [(197, mjSm_r_66), (197, mjSm_r_79), (187, mjSm_r_31), (197, mjSm_r_59), (197, mjSm_r_77), (197, mjSm_r_55), (187, mjSm_r_16), (197, mjSm_r_53), (187, mjSm_r_60), (197, mjSm_r_63), (187, mjSm_r_45), (197, mjSm_r_71), (197, mjSm_r_69), (204, mjSm_r_80), (204, mjSm_r_81), (204, mjSm_r_82), (190, mjSm_r_9), (204, mjSm_r_50), (204, mjSm_r_74), (203, mjSm_r_44)]) (mjEnvC (mjC_r_66 hJ H) (mjEnvC (mjC_r_79 hJ H) (mjEnvC (mjC_r_31 hJ H) (mjEnvC (mjC_r_59 hJ H) (mjEnvC (mjC_r_77 hJ H) (mjEnvC (mjC_r_55 hJ H) (mjEnvC (mjC_r_16 hJ H) (mjEnvC (mjC_r_53 hJ H) (mjEnvC (mjC_r_60 hJ H) (mjEnvC (mjC_r_63 hJ H) (mjEnvC (mjC_r_45 hJ H) (mjEnvC (mjC_r_71 hJ H) (mjEnvC (mjC_r_69 hJ H) (mjEnvC (mjC_r_80 hJ H) (mjEnvC (mjC_r_81 hJ H) (mjEnvC (mjC_r_82 hJ H) (mjEnvC (mjC_r_9 hJ H) (mjEnvC (mjC_r_50 hJ H) (mjEnvC (mjC_r_74 hJ H) (mjEnvC (mjC_r_44 hJ H) (fun e he => (by cases he)))))))))))))))))))))) (pr := []) (sp := 255) (cuts := []) (n := 88) (by decide +kernel)
def mjSm_r_84 : MjSm := ([(3, 240, 240, 0, 0), (3, 268, 268, 0, 0), (0, 0, 0, 0, 0), (0, 0, 5, 0, 0)], [], [((0, 0, 0, 0, 0), [(3, 1, 5)], []), ((0, 1, 1, 0, 0), [(3, 2, 5)], []), ((0, 2, 2, 0, 0), [(3, 3, 5)], []), ((0, 3, 3, 0, 0), [(3, 4, 5)], []), ((0, 4, 4, 0, 0), [(3, 5, 5)], []), ((0, -1, -1, 0, 0), [], [])], [], 1)
set_option maxRecDepth 100000 in
theorem mjC_r_84 {J : MjW → Prop} (hJ : mjUok m4S m4P J) (H : mjHr J) : mjCtr m4S J 203 mjSm_r_84 := aiOk_ctr hJ (env := []) (fun e he => (by cases he)) (pr := [3]) (sp := 255) (cuts := []) (n := 100) (by decide +kernel)
def mjSm_r_85 : MjSm := ([(3, 240, 240, 0, 0), (3, 267, 267, 0, 0), (0, 0, 0, 0, 0), (0, 0, 5, 0, 0)], [], [((0, 0, 0, 0, 0), [(3, 1, 5)], []), ((0, 1, 1, 0, 0), [(3, 2, 5)], []), ((0, 2, 2, 0, 0), [(3, 3, 5)], []), ((0, 3, 3, 0, 0), [(3, 4, 5)], []), ((0, 4, 4, 0, 0), [(3, 5, 5)], []), ((0, -1, -1, 0, 0), [], [])], [], 1)
set_option maxRecDepth 100000 in
theorem mjC_r_85 {J : MjW → Prop} (hJ : mjUok m4S m4P J) (H : mjHr J) : mjCtr m4S J 203 mjSm_r_85 := aiOk_ctr hJ (env := []) (fun e he => (by cases he)) (pr := [3]) (sp := 255) (cuts := []) (n := 100) (by decide +kernel)
def mjSm_r_86 : MjSm := ([(3, 240, 240, 0, 0), (0, 5, 5, 0, 0), (0, 0, 1600, 0, 0)], [(240, 4, (0, 0, 0, 0, 0))], [((7, 0, 0, 0, 0), [], [(240, 4, (0, 5, 5, 0, 0))])], [(241, 4), (241, 5)], 1)
set_option maxRecDepth 100000 in
theorem mjC_r_86 {J : MjW → Prop} (hJ : mjUok m4S m4P J) (H : mjHr J) : mjCtr m4S J 193 mjSm_r_86 := aiOk_ctr hJ (env := []) (fun e he => (by cases he)) (pr := []) (sp := 255) (cuts := []) (n := 13) (by decide +kernel)
def mjSm_r_87 : MjSm := ([(3, 240, 240, 0, 0), (0, 4, 4, 0, 0)], [], [((1, 0, 0, 0, 0), [], [(240, 4, (0, 1, 5, 0, 0))]), ((1, 0, 0, 0, 0), [], [(240, 4, (0, 3, 3, 0, 0))])], [(241, 4), (241, 5)], 3)
set_option maxRecDepth 100000 in
theorem mjC_r_87 {J : MjW → Prop} (hJ : mjUok m4S m4P J) (H : mjHr J) : mjCtr m4S J 204 mjSm_r_87 := aiOk_ctr hJ (env := [(198, mjSm_r_73), (198, mjSm_r_72), (193, mjSm_r_30), (198, mjSm_r_46), (198, mjSm_r_47), (187, mjSm_r_0)]) (mjEnvC (mjC_r_73 hJ H) (mjEnvC (mjC_r_72 hJ H) (mjEnvC (mjC_r_30 hJ H) (mjEnvC (mjC_r_46 hJ H) (mjEnvC (mjC_r_47 hJ H) (mjEnvC (mjC_r_0 hJ H) (fun e he => (by cases he)))))))) (pr := []) (sp := 255) (cuts := []) (n := 26) (by decide +kernel)
def mjSm_r_88 : MjSm := ([(3, 240, 240, 0, 0), (0, 0, 0, 0, 0), (0, 47, 47, 0, 0), (0, 0, 0, 0, 0)], [], [((0, 0, 47, 0, 0), [], [])], [(241, 4), (241, 5), (241, 6), (241, 7), (241, 8), (241, 9), (241, 10)], 4)
set_option maxRecDepth 100000 in
theorem mjC_r_88 {J : MjW → Prop} (hJ : mjUok m4S m4P J) (H : mjHr J) : mjCtr m4S J 195 mjSm_r_88 := aiOk_ctr hJ (env := [(192, mjSm_r_4), (187, mjSm_r_17), (187, mjSm_r_19), (193, mjSm_r_18), (187, mjSm_r_16), (187, mjSm_r_0), (181, mjSm_r_1), (191, mjSm_r_26)]) (mjEnvC (mjC_r_4 hJ H) (mjEnvC (mjC_r_17 hJ H) (mjEnvC (mjC_r_19 hJ H) (mjEnvC (mjC_r_18 hJ H) (mjEnvC (mjC_r_16 hJ H) (mjEnvC (mjC_r_0 hJ H) (mjEnvC (mjC_r_1 hJ H) (mjEnvC (mjC_r_26 hJ H) (fun e he => (by cases he)))))))))) (pr := []) (sp := 255) (cuts := []) (n := 47) (by decide +kernel)
def mjSm_r_89 : MjSm := ([(3, 240, 240, 0, 0), (1, 0, 0, 0, 0), (0, 0, 0, 0, 0), (0, 47, 47, 0, 0)], [], [((0, 0, 47, 0, 0), [], [])], [(241, 4), (241, 5), (241, 6), (241, 7), (241, 8), (241, 9), (241, 10)], 5)
set_option maxRecDepth 100000 in
theorem mjC_r_89 {J : MjW → Prop} (hJ : mjUok m4S m4P J) (H : mjHr J) : mjCtr m4S J 197 mjSm_r_89 := aiOk_ctr hJ (env := [(195, mjSm_r_88), (190, mjSm_r_9), (198, mjSm_r_5)]) (mjEnvC (mjC_r_88 hJ H) (mjEnvC (mjC_r_9 hJ H) (mjEnvC (mjC_r_5 hJ H) (fun e he => (by cases he))))) (pr := []) (sp := 255) (cuts := []) (n := 14) (by decide +kernel)
def mjSm_r_90 : MjSm := ([(3, 240, 240, 0, 0), (0, 0, 47, 0, 0), (0, 47, 47, 0, 0), (0, 0, 0, 0, 0)], [], [((0, 0, 47, 0, 0), [], [])], [(241, 4), (241, 5), (241, 6), (241, 7), (241, 8), (241, 9), (241, 10)], 4)
set_option maxRecDepth 100000 in
theorem mjC_r_90 {J : MjW → Prop} (hJ : mjUok m4S m4P J) (H : mjHr J) : mjCtr m4S J 195 mjSm_r_90 := aiOk_ctr hJ (env := [(192, mjSm_r_4), (187, mjSm_r_17), (187, mjSm_r_19), (193, mjSm_r_18), (187, mjSm_r_16), (187, mjSm_r_0), (181, mjSm_r_1), (191, mjSm_r_26)]) (mjEnvC (mjC_r_4 hJ H) (mjEnvC (mjC_r_17 hJ H) (mjEnvC (mjC_r_19 hJ H) (mjEnvC (mjC_r_18 hJ H) (mjEnvC (mjC_r_16 hJ H) (mjEnvC (mjC_r_0 hJ H) (mjEnvC (mjC_r_1 hJ H) (mjEnvC (mjC_r_26 hJ H) (fun e he => (by cases he)))))))))) (pr := []) (sp := 255) (cuts := []) (n := 47) (by decide +kernel)
def mjSm_r_91 : MjSm := ([(3, 240, 240, 0, 0), (1, 0, 0, 0, 0), (0, 0, 47, 0, 0), (0, 47, 47, 0, 0)], [], [((0, 0, 47, 0, 0), [], [])], [(241, 4), (241, 5), (241, 6), (241, 7), (241, 8), (241, 9), (241, 10)], 5)
set_option maxRecDepth 100000 in
theorem mjC_r_91 {J : MjW → Prop} (hJ : mjUok m4S m4P J) (H : mjHr J) : mjCtr m4S J 197 mjSm_r_91 := aiOk_ctr hJ (env := [(190, mjSm_r_9), (198, mjSm_r_5), (195, mjSm_r_90)]) (mjEnvC (mjC_r_9 hJ H) (mjEnvC (mjC_r_5 hJ H) (mjEnvC (mjC_r_90 hJ H) (fun e he => (by cases he))))) (pr := []) (sp := 255) (cuts := []) (n := 14) (by decide +kernel)
def mjSm_r_92 : MjSm := ([(3, 240, 240, 0, 0)], [(240, 43, (0, 0, 0, 0, 0)), (246, 0, (0, 0, 5, 0, 0))], [((7, 0, 0, 0, 0), [], [(246, 0, (0, 1, 6, 0, 0))])], [(241, 4), (241, 5), (241, 6), (241, 7), (241, 8), (241, 9), (241, 10), (247, 0), (262, 0), (262, 1), (262, 2), (262, 3), (262, 4), (262, 5), (263, 0), (263, 1), (263, 2), (263, 3), (263, 4), (263, 5), (264, 0), (264, 1), (264, 2), (264, 3), (264, 4), (264, 5), (265, 0), (265, 1), (265, 2), (265, 3), (265, 4), (265, 5), (269, 255)], 6)
set_option maxRecDepth 100000 in
theorem mjC_r_92 {J : MjW → Prop} (hJ : mjUok m4S m4P J) (H : mjHr J) : mjCtr m4S J 205 mjSm_r_92 := aiOk_ctr hJ (env := [(187, mjSm_r_31), (198, mjSm_r_56), (198, mjSm_r_75), (193, mjSm_r_86), (187, mjSm_r_16), (198, mjSm_r_51), (187, mjSm_r_57), (187, mjSm_r_45), (198, mjSm_r_67), (204, mjSm_r_80), (204, mjSm_r_81), (204, mjSm_r_82), (190, mjSm_r_9), (197, mjSm_r_39), (197, mjSm_r_89), (204, mjSm_r_50), (204, mjSm_r_74), (204, mjSm_r_87), (198, mjSm_r_5), (203, mjSm_r_85), (203, mjSm_r_84), (197, mjSm_r_91)]) (mjEnvC (mjC_r_31 hJ H) (mjEnvC (mjC_r_56 hJ H) (mjEnvC (mjC_r_75 hJ H) (mjEnvC (mjC_r_86 hJ H) (mjEnvC (mjC_r_16 hJ H) (mjEnvC (mjC_r_51 hJ H) (mjEnvC (mjC_r_57 hJ H) (mjEnvC (mjC_r_45 hJ H) (mjEnvC (mjC_r_67 hJ H) (mjEnvC (mjC_r_80 hJ H) (mjEnvC (mjC_r_81 hJ H) (mjEnvC (mjC_r_82 hJ H) (mjEnvC (mjC_r_9 hJ H) (mjEnvC (mjC_r_39 hJ H) (mjEnvC (mjC_r_89 hJ H) (mjEnvC (mjC_r_50 hJ H) (mjEnvC (mjC_r_74 hJ H) (mjEnvC (mjC_r_87 hJ H) (mjEnvC (mjC_r_5 hJ H) (mjEnvC (mjC_r_85 hJ H) (mjEnvC (mjC_r_84 hJ H) (mjEnvC (mjC_r_91 hJ H) (fun e he => (by cases he)))))))))))))))))))))))) (pr := []) (sp := 255) (cuts := [(125, ([(3, 240, 240, 0, 0), (0, 0, 5, 0, 0)], [], [(246, 0, (0, 0, 5, 0, 0)), (240, 43, (0, 0, 0, 0, 0))]), [(0, 0, 49875), (0, 0, 0), (0, 0, 0), (0, 0, 0), (0, 0, 0), (0, 0, 0), (0, 0, 0), (0, 0, 0)]), (139, ([(3, 240, 240, 0, 0), (0, 0, 5, 0, 0)], [(0, 0, 1, 0, 0), (3, 240, 240, 0, 0)], [(246, 0, (0, 0, 5, 0, 0)), (240, 43, (0, 0, 0, 0, 0))]), [(0, 0, 49861), (0, 0, 0), (0, 0, 0), (0, 0, 0), (0, 0, 0), (0, 0, 0), (0, 0, 0), (0, 0, 0)])]) (n := 72) (by decide +kernel)
def mjSm_r_93 : MjSm := ([(3, 240, 240, 0, 0)], [(240, 43, (0, 1, 1, 0, 0))], [((7, 0, 0, 0, 0), [], [])], [(241, 4), (241, 5), (241, 6), (241, 7), (241, 8), (241, 9), (241, 10), (253, 1), (256, 5), (256, 6), (256, 7), (256, 8), (256, 9)], 6)
set_option maxRecDepth 100000 in
theorem mjC_r_93 {J : MjW → Prop} (hJ : mjUok m4S m4P J) (H : mjHr J) : mjCtr m4S J 196 mjSm_r_93 := aiOk_ctr hJ (env := [(197, mjSm_r_33), (195, mjSm_r_32)]) (mjEnvC (mjC_r_33 hJ H) (mjEnvC (mjC_r_32 hJ H) (fun e he => (by cases he)))) (pr := []) (sp := 255) (cuts := []) (n := 45) (by decide +kernel)
def mjSm_r_94 : MjSm := ([(3, 240, 240, 0, 0), (0, 0, 5, 0, 0), (0, 0, 4, 0, 0)], [(240, 43, (0, 1, 1, 0, 0))], [((0, 30, 59, 0, 0), [], [])], [], 1)
set_option maxRecDepth 100000 in
theorem mjC_r_94 {J : MjW → Prop} (hJ : mjUok m4S m4P J) (H : mjHr J) : mjCtr m4S J 200 mjSm_r_94 := aiOk_ctr hJ (env := []) (fun e he => (by cases he)) (pr := []) (sp := 255) (cuts := []) (n := 14) (by decide +kernel)
def mjSm_r_95 : MjSm := ([(3, 240, 240, 0, 0)], [(240, 43, (0, 1, 1, 0, 0))], [((7, 0, 0, 0, 0), [], [])], [(241, 4), (241, 5), (241, 6), (241, 7), (241, 8), (241, 9), (241, 10), (254, 6), (254, 7), (254, 8), (254, 9), (254, 10), (254, 11), (257, 255)], 6)
set_option maxRecDepth 100000 in
theorem mjC_r_95 {J : MjW → Prop} (hJ : mjUok m4S m4P J) (H : mjHr J) : mjCtr m4S J 199 mjSm_r_95 := aiOk_ctr hJ (env := [(200, mjSm_r_94), (197, mjSm_r_39), (195, mjSm_r_36), (195, mjSm_r_32)]) (mjEnvC (mjC_r_94 hJ H) (mjEnvC (mjC_r_39 hJ H) (mjEnvC (mjC_r_36 hJ H) (mjEnvC (mjC_r_32 hJ H) (fun e he => (by cases he)))))) (pr := []) (sp := 255) (cuts := []) (n := 63) (by decide +kernel)
def mjSm_r_96 : MjSm := ([(3, 240, 240, 0, 0)], [(240, 43, (0, 1, 1, 0, 0))], [((7, 0, 0, 0, 0), [], [])], [(241, 4), (241, 5), (241, 6), (241, 7), (241, 8), (241, 9), (241, 10), (255, 6), (255, 7), (255, 8), (255, 9), (255, 10), (255, 11), (258, 255)], 5)
set_option maxRecDepth 100000 in
theorem mjC_r_96 {J : MjW → Prop} (hJ : mjUok m4S m4P J) (H : mjHr J) : mjCtr m4S J 201 mjSm_r_96 := aiOk_ctr hJ (env := [(200, mjSm_r_94), (190, mjSm_r_9), (198, mjSm_r_42), (198, mjSm_r_41), (195, mjSm_r_36), (195, mjSm_r_32)]) (mjEnvC (mjC_r_94 hJ H) (mjEnvC (mjC_r_9 hJ H) (mjEnvC (mjC_r_42 hJ H) (mjEnvC (mjC_r_41 hJ H) (mjEnvC (mjC_r_36 hJ H) (mjEnvC (mjC_r_32 hJ H) (fun e he => (by cases he)))))))) (pr := []) (sp := 255) (cuts := []) (n := 76) (by decide +kernel)
def mjSm_r_97 : MjSm := ([(3, 240, 240, 0, 0), (3, 267, 267, 0, 0), (0, 5, 5, 0, 0), (0, 0, 4, 0, 0)], [], [((0, 0, 0, 0, 0), [(3, 1, 4)], []), ((0, 1, 1, 0, 0), [(3, 2, 4)], []), ((0, 2, 2, 0, 0), [(3, 3, 4)], []), ((0, 3, 3, 0, 0), [(3, 4, 4)], []), ((0, -1, -1, 0, 0), [], [])], [], 1)
set_option maxRecDepth 100000 in
theorem mjC_r_97 {J : MjW → Prop} (hJ : mjUok m4S m4P J) (H : mjHr J) : mjCtr m4S J 203 mjSm_r_97 := aiOk_ctr hJ (env := []) (fun e he => (by cases he)) (pr := [3]) (sp := 255) (cuts := []) (n := 82) (by decide +kernel)
def mjSm_r_98 : MjSm := ([(3, 240, 240, 0, 0)], [(240, 43, (0, 1, 1, 0, 0)), (245, 1, (0, 0, 4, 0, 0))], [((7, 0, 0, 0, 0), [], [(245, 1, (0, 1, 5, 0, 0))])], [(241, 4), (241, 5), (241, 6), (241, 7), (241, 8), (241, 9), (241, 10), (246, 1), (259, 5), (259, 6), (259, 7), (259, 8), (259, 9), (260, 5), (260, 6), (260, 7), (260, 8), (260, 9), (261, 5), (261, 6), (261, 7), (261, 8), (261, 9), (268, 255)], 6)
set_option maxRecDepth 100000 in
theorem mjC_r_98 {J : MjW → Prop} (hJ : mjUok m4S m4P J) (H : mjHr J) : mjCtr m4S J 202 mjSm_r_98 := aiOk_ctr hJ (env := [(197, mjSm_r_66), (197, mjSm_r_79), (187, mjSm_r_31), (197, mjSm_r_59), (197, mjSm_r_77), (197, mjSm_r_55), (187, mjSm_r_16), (197, mjSm_r_53), (187, mjSm_r_60), (197, mjSm_r_63), (187, mjSm_r_45), (197, mjSm_r_71), (197, mjSm_r_69), (204, mjSm_r_80), (204, mjSm_r_81), (204, mjSm_r_82), (190, mjSm_r_9), (204, mjSm_r_50), (204, mjSm_r_74), (203, mjSm_r_97)]) (mjEnvC (mjC_r_66 hJ H) (mjEnvC (mjC_r_79 hJ H) (mjEnvC (mjC_r_31 hJ H) (mjEnvC (mjC_r_59 hJ H) (mjEnvC (mjC_r_77 hJ H) (mjEnvC (mjC_r_55 hJ H) (mjEnvC (mjC_r_16 hJ H) (mjEnvC (mjC_r_53 hJ H) (mjEnvC (mjC_r_60 hJ H) (mjEnvC (mjC_r_63 hJ H) (mjEnvC (mjC_r_45 hJ H) (mjEnvC (mjC_r_71 hJ H) (mjEnvC (mjC_r_69 hJ H) (mjEnvC (mjC_r_80 hJ H) (mjEnvC (mjC_r_81 hJ H) (mjEnvC (mjC_r_82 hJ H) (mjEnvC (mjC_r_9 hJ H) (mjEnvC (mjC_r_50 hJ H) (mjEnvC (mjC_r_74 hJ H) (mjEnvC (mjC_r_97 hJ H) (fun e he => (by cases he)))))))))))))))))))))) (pr := []) (sp := 255) (cuts := []) (n := 88) (by decide +kernel)
