def mjWd_askm : MjWd := [(240, 49, (0, 0, 3)), (240, 50, (0, 0, 2)), (240, 56, (0, -2147483648, 2147483647)), (240, 57, (0, 0, 3)), (240, 58, (0, -2147483648, 2147483647)), (274, 0, (0, 0, 99)), (274, 1, (0, 0, 99)), (274, 2, (0, 0, 99)), (274, 3, (0, 0, 99)), (274, 4, (0, 0, 99)), (274, 5, (0, 0, 99)), (274, 6, (0, 0, 99)), (274, 7, (0, 0, 99)), (274, 8, (0, 0, 99)), (274, 9, (0, 0, 99)), (274, 10, (0, 0, 99)), (274, 11, (0, 0, 99)), (274, 12, (0, 0, 99)), (274, 13, (0, 0, 99)), (274, 14, (0, 0, 99)), (274, 15, (0, 0, 99)), (274, 16, (0, 0, 99)), (274, 17, (0, 0, 99)), (274, 68, (0, -2147483648, 2147483647)), (275, 0, (0, 0, 99)), (275, 1, (0, 0, 99)), (275, 2, (0, 0, 99)), (275, 3, (0, 0, 99)), (275, 4, (0, 0, 99)), (275, 5, (0, 0, 99)), (275, 6, (0, 0, 99)), (275, 7, (0, 0, 99)), (275, 8, (0, 0, 99)), (275, 9, (0, 0, 99)), (275, 10, (0, 0, 99)), (275, 11, (0, 0, 99)), (275, 12, (0, 0, 99)), (275, 13, (0, 0, 99)), (275, 14, (0, 0, 99)), (275, 15, (0, 0, 99)), (275, 16, (0, 0, 99)), (275, 17, (0, 0, 99)), (275, 68, (0, -2147483648, 2147483647)), (276, 255, (0, -2147483648, 2147483647)), (287, 0, (0, 0, 31))]
theorem mjWd_askm_ok : mjWdB mjWd_askm = true := by decide +kernel
def mjSm_askm_0 : MjSm := ([(0, -2147483648, 2147483647, 0, 0), (0, 0, 0, 0, 0), (0, 1, 1, 0, 0)], [(287, 0, (0, 0, 0, 0, 0))], [((0, 1, 1, 0, 0), [(0, 0, 1)], []), ((0, 0, 0, 0, 0), [(0, 2, 2147483647)], []), ((0, 0, 0, 0, 0), [(0, -2147483648, -1)], [])], [], 1)
set_option maxRecDepth 100000 in
theorem mjC_askm_0 : mjCtr (mjSW 240 290 mjWd_askm) 221 mjSm_askm_0 := aiOk_ctr mjUW_ok (env := []) (fun e he => (by cases he)) (pr := [0]) (cuts := []) (n := 12) (by decide +kernel)
def mjSm_askm_1 : MjSm := ([(3, 240, 240, 0, 0)], [(287, 0, (0, 0, 0, 0, 0))], [((7, 0, 0, 0, 0), [], [])], [(276, 255)], 1)
set_option maxRecDepth 100000 in
theorem mjC_askm_1 : mjCtr (mjSW 240 290 mjWd_askm) 266 mjSm_askm_1 := aiOk_ctr mjUW_ok (env := []) (fun e he => (by cases he)) (pr := []) (cuts := []) (n := 919) (by decide +kernel)
def mjSm_askm_2 : MjSm := ([(3, 240, 240, 0, 0)], [(287, 0, (0, 0, 0, 0, 0))], [((0, 0, 0, 0, 0), [], [])], [], 1)
set_option maxRecDepth 100000 in
theorem mjC_askm_2 : mjCtr (mjSW 240 290 mjWd_askm) 179 mjSm_askm_2 := aiOk_ctr mjUW_ok (env := []) (fun e he => (by cases he)) (pr := []) (cuts := []) (n := 9) (by decide +kernel)
def mjSm_askm_3 : MjSm := ([(3, 240, 240, 0, 0)], [(287, 0, (0, 0, 0, 0, 0))], [((7, 0, 0, 0, 0), [], [])], [(275, 255)], 2)
set_option maxRecDepth 100000 in
theorem mjC_askm_3 : mjCtr (mjSW 240 290 mjWd_askm) 178 mjSm_askm_3 := aiOk_ctr mjUW_ok (env := [(179, mjSm_askm_2)]) (mjEnvC mjC_askm_2 (fun e he => (by cases he))) (pr := []) (cuts := []) (n := 1779) (by decide +kernel)
def mjSm_askm_4 : MjSm := ([(3, 240, 240, 0, 0)], [(287, 0, (0, 0, 0, 0, 0))], [((0, 4, 4, 0, 0), [], [])], [], 1)
set_option maxRecDepth 100000 in
theorem mjC_askm_4 : mjCtr (mjSW 240 290 mjWd_askm) 220 mjSm_askm_4 := aiOk_ctr mjUW_ok (env := []) (fun e he => (by cases he)) (pr := []) (cuts := []) (n := 9) (by decide +kernel)
def mjSm_askm_5 : MjSm := ([(3, 240, 240, 0, 0)], [(287, 0, (0, 0, 0, 0, 0))], [((0, 3, 3, 0, 0), [], [])], [], 1)
set_option maxRecDepth 100000 in
theorem mjC_askm_5 : mjCtr (mjSW 240 290 mjWd_askm) 222 mjSm_askm_5 := aiOk_ctr mjUW_ok (env := []) (fun e he => (by cases he)) (pr := []) (cuts := []) (n := 9) (by decide +kernel)
def mjSm_askm_6 : MjSm := ([(0, 1, 100, 0, 0), (0, 0, 0, 0, 0), (0, 99, 99, 0, 0)], [(287, 0, (0, 0, 0, 0, 0))], [((0, 99, 99, 0, 0), [(0, 100, 100)], []), ((0, 1, 99, 0, 0), [(0, 1, 99)], [])], [], 1)
set_option maxRecDepth 100000 in
theorem mjC_askm_6 : mjCtr (mjSW 240 290 mjWd_askm) 249 mjSm_askm_6 := aiOk_ctr mjUW_ok (env := []) (fun e he => (by cases he)) (pr := [0]) (cuts := []) (n := 12) (by decide +kernel)
def mjSm_askm_7 : MjSm := ([(3, 240, 240, 0, 0), (0, 0, 3, 0, 0), (0, 0, 2, 0, 0)], [(287, 0, (0, 0, 0, 0, 0))], [((0, 0, 99, 0, 0), [], [])], [], 1)
set_option maxRecDepth 100000 in
theorem mjC_askm_7 : mjCtr (mjSW 240 290 mjWd_askm) 223 mjSm_askm_7 := aiOk_ctr mjUW_ok (env := []) (fun e he => (by cases he)) (pr := []) (cuts := []) (n := 14) (by decide +kernel)
def mjSm_askm_8 : MjSm := ([(3, 240, 240, 0, 0), (0, 0, 3, 0, 0), (0, 0, 2, 0, 0), (0, 1, 1, 0, 0)], [(287, 0, (0, 0, 0, 0, 0))], [((7, 0, 0, 0, 0), [], [])], [(275, 255)], 2)
set_option maxRecDepth 100000 in
theorem mjC_askm_8 : mjCtr (mjSW 240 290 mjWd_askm) 248 mjSm_askm_8 := aiOk_ctr mjUW_ok (env := [(223, mjSm_askm_7), (249, mjSm_askm_6)]) (mjEnvC mjC_askm_7 (mjEnvC mjC_askm_6 (fun e he => (by cases he)))) (pr := []) (cuts := []) (n := 23) (by decide +kernel)
def mjSm_askm_9 : MjSm := ([(0, 0, 0, 0, 0), (0, 2, 2, 0, 0)], [(287, 0, (0, 0, 0, 0, 0))], [((0, 0, 0, 0, 0), [], [])], [], 1)
set_option maxRecDepth 100000 in
theorem mjC_askm_9 : mjCtr (mjSW 240 290 mjWd_askm) 191 mjSm_askm_9 := aiOk_ctr mjUW_ok (env := []) (fun e he => (by cases he)) (pr := []) (cuts := []) (n := 12) (by decide +kernel)
def mjSm_askm_10 : MjSm := ([(3, 240, 240, 0, 0), (0, 0, 3, 0, 0)], [(287, 0, (0, 0, 0, 0, 0))], [((0, 0, 0, 0, 0), [], [])], [], 1)
set_option maxRecDepth 100000 in
theorem mjC_askm_10 : mjCtr (mjSW 240 290 mjWd_askm) 226 mjSm_askm_10 := aiOk_ctr mjUW_ok (env := []) (fun e he => (by cases he)) (pr := []) (cuts := [(4, ([(3, 240, 240, 0, 0), (0, 0, 3, 0, 0), (0, 0, 0, 0, 0), (0, 0, 0, 0, 0)], [], [(287, 0, (0, 0, 0, 0, 0))]), [(0, 0, 49996), (1, 3, 2147483647), (0, 0, 60000), (0, 0, 0), (0, 0, 0), (0, 0, 0), (0, 0, 0), (0, 0, 0)])]) (n := 12) (by decide +kernel)
def mjSm_askm_11 : MjSm := ([(0, 0, 3, 0, 0), (0, 0, 0, 0, 0), (0, 3, 3, 0, 0)], [(287, 0, (0, 0, 0, 0, 0))], [((0, 1, 1, 0, 0), [], [])], [], 1)
set_option maxRecDepth 100000 in
theorem mjC_askm_11 : mjCtr (mjSW 240 290 mjWd_askm) 221 mjSm_askm_11 := aiOk_ctr mjUW_ok (env := []) (fun e he => (by cases he)) (pr := []) (cuts := []) (n := 12) (by decide +kernel)
def mjSm_askm_12 : MjSm := ([(3, 240, 240, 0, 0), (0, 0, 3, 0, 0)], [(287, 0, (0, 0, 0, 0, 0))], [((0, 1, 1, 0, 0), [], [])], [], 2)
set_option maxRecDepth 100000 in
theorem mjC_askm_12 : mjCtr (mjSW 240 290 mjWd_askm) 219 mjSm_askm_12 := aiOk_ctr mjUW_ok (env := [(220, mjSm_askm_4), (221, mjSm_askm_11)]) (mjEnvC mjC_askm_4 (mjEnvC mjC_askm_11 (fun e he => (by cases he)))) (pr := []) (cuts := []) (n := 11) (by decide +kernel)
def mjSm_askm_13 : MjSm := ([(3, 240, 240, 0, 0), (0, 0, 3, 0, 0), (0, 1, 2, 0, 0)], [(287, 0, (0, 0, 0, 0, 0))], [((0, 0, 0, 0, 0), [], [])], [], 1)
set_option maxRecDepth 100000 in
theorem mjC_askm_13 : mjCtr (mjSW 240 290 mjWd_askm) 224 mjSm_askm_13 := aiOk_ctr mjUW_ok (env := []) (fun e he => (by cases he)) (pr := []) (cuts := []) (n := 14) (by decide +kernel)
def mjSm_askm_14 : MjSm := ([(3, 240, 240, 0, 0), (0, 0, 3, 0, 0), (0, 1, 2, 0, 0)], [(287, 0, (0, 0, 0, 0, 0))], [((0, 0, 99, 0, 0), [], [])], [], 1)
set_option maxRecDepth 100000 in
theorem mjC_askm_14 : mjCtr (mjSW 240 290 mjWd_askm) 223 mjSm_askm_14 := aiOk_ctr mjUW_ok (env := []) (fun e he => (by cases he)) (pr := []) (cuts := []) (n := 14) (by decide +kernel)
def mjSm_askm_15 : MjSm := ([(3, 240, 240, 0, 0), (0, 0, 3, 0, 0), (0, 0, 2, 0, 0), (0, 0, 0, 0, 0)], [(287, 0, (0, 0, 0, 0, 0))], [((0, 0, 0, 0, 0), [], []), ((0, 1, 1, 0, 0), [], [])], [(241, 49), (241, 50), (241, 51)], 2)
set_option maxRecDepth 100000 in
theorem mjC_askm_15 : mjCtr (mjSW 240 290 mjWd_askm) 225 mjSm_askm_15 := aiOk_ctr mjUW_ok (env := [(191, mjSm_askm_9), (226, mjSm_askm_10), (223, mjSm_askm_7)]) (mjEnvC mjC_askm_9 (mjEnvC mjC_askm_10 (mjEnvC mjC_askm_7 (fun e he => (by cases he))))) (pr := []) (cuts := []) (n := 52) (by decide +kernel)
def mjSm_askm_16 : MjSm := ([(3, 240, 240, 0, 0), (0, 0, 3, 0, 0), (0, 0, 2, 0, 0), (0, 1, 1, 0, 0)], [(287, 0, (0, 0, 0, 0, 0))], [((7, 0, 0, 0, 0), [], [])], [(241, 57), (241, 58), (275, 255)], 3)
set_option maxRecDepth 100000 in
theorem mjC_askm_16 : mjCtr (mjSW 240 290 mjWd_askm) 241 mjSm_askm_16 := aiOk_ctr mjUW_ok (env := [(222, mjSm_askm_5), (219, mjSm_askm_12), (223, mjSm_askm_14), (224, mjSm_askm_13), (223, mjSm_askm_7)]) (mjEnvC mjC_askm_5 (mjEnvC mjC_askm_12 (mjEnvC mjC_askm_14 (mjEnvC mjC_askm_13 (mjEnvC mjC_askm_7 (fun e he => (by cases he))))))) (pr := []) (cuts := [(37, ([(3, 240, 240, 0, 0), (0, 0, 3, 0, 0), (0, 0, 2, 0, 0), (0, 1, 1, 0, 0), (0, 1, 3, 0, 0), (9, 0, 0, 0, 0)], [], [(287, 0, (0, 0, 0, 0, 0))]), [(0, 0, 49963), (1, 4, 2147483647), (0, 0, 60000), (0, 0, 0), (0, 0, 0), (0, 0, 0), (0, 0, 0), (0, 0, 0)])]) (n := 59) (by decide +kernel)
def mjSm_askm_17 : MjSm := ([(3, 240, 240, 0, 0), (0, 0, 3, 0, 0), (0, 0, 2, 0, 0), (0, 0, 0, 0, 0)], [(287, 0, (0, 0, 0, 0, 0))], [((7, 0, 0, 0, 0), [], [])], [(241, 49), (241, 50), (241, 51), (241, 56), (241, 57), (241, 58), (275, 255), (277, 255)], 4)
set_option maxRecDepth 100000 in
theorem mjC_askm_17 : mjCtr (mjSW 240 290 mjWd_askm) 250 mjSm_askm_17 := aiOk_ctr mjUW_ok (env := [(179, mjSm_askm_2), (241, mjSm_askm_16), (225, mjSm_askm_15)]) (mjEnvC mjC_askm_2 (mjEnvC mjC_askm_16 (mjEnvC mjC_askm_15 (fun e he => (by cases he))))) (pr := []) (cuts := [(55, ([(3, 240, 240, 0, 0), (0, 0, 3, 0, 0), (0, 0, 2, 0, 0), (0, 0, 0, 0, 0), (0, 0, 0, 0, 0)], [], [(287, 0, (0, 0, 0, 0, 0))]), [(0, 0, 49945), (1, 4, 2147483647), (0, 0, 60000), (0, 0, 0), (0, 0, 0), (0, 0, 0), (0, 0, 0), (0, 0, 0)])]) (n := 35) (by decide +kernel)
def mjSm_askm_18 : MjSm := ([(3, 240, 240, 0, 0)], [(287, 0, (0, 0, 0, 0, 0))], [((0, 0, 0, 0, 0), [], [])], [], 2)
set_option maxRecDepth 100000 in
theorem mjC_askm_18 : mjCtr (mjSW 240 290 mjWd_askm) 251 mjSm_askm_18 := aiOk_ctr mjUW_ok (env := [(179, mjSm_askm_2)]) (mjEnvC mjC_askm_2 (fun e he => (by cases he))) (pr := []) (cuts := [(4, ([(3, 240, 240, 0, 0), (0, 0, 0, 0, 0), (0, 0, 0, 0, 0)], [], [(287, 0, (0, 0, 0, 0, 0))]), [(0, 0, 49996), (1, 2, 2147483647), (0, 0, 60000), (0, 0, 0), (0, 0, 0), (0, 0, 0), (0, 0, 0), (0, 0, 0)])]) (n := 9) (by decide +kernel)
def mjSm_askm_19 : MjSm := ([(3, 240, 240, 0, 0), (0, 0, 0, 0, 0)], [(287, 0, (0, 0, 0, 0, 0))], [((7, 0, 0, 0, 0), [], [])], [(241, 49), (241, 50), (241, 51), (241, 56), (241, 57), (241, 58), (275, 255), (277, 255)], 5)
set_option maxRecDepth 100000 in
theorem mjC_askm_19 : mjCtr (mjSW 240 290 mjWd_askm) 247 mjSm_askm_19 := aiOk_ctr mjUW_ok (env := [(222, mjSm_askm_5), (220, mjSm_askm_4), (251, mjSm_askm_18), (250, mjSm_askm_17), (248, mjSm_askm_8)]) (mjEnvC mjC_askm_5 (mjEnvC mjC_askm_4 (mjEnvC mjC_askm_18 (mjEnvC mjC_askm_17 (mjEnvC mjC_askm_8 (fun e he => (by cases he))))))) (pr := []) (cuts := [(7, ([(3, 240, 240, 0, 0), (0, 0, 0, 0, 0), (0, 0, 6, 0, 0), (9, 0, 0, 0, 0)], [], [(240, 56, (0, 0, 0, 0, 0)), (287, 0, (0, 0, 0, 0, 0))]), [(0, 0, 49993), (1, 2, 2147483647), (0, 0, 60000), (0, 0, 0), (0, 0, 0), (0, 0, 0), (0, 0, 0), (0, 0, 0)]), (52, ([(3, 240, 240, 0, 0), (0, 0, 0, 0, 0), (0, 1, 1, 0, 0), (0, 0, 12, 0, 0)], [], [(240, 56, (0, 0, 0, 0, 0)), (287, 0, (0, 0, 0, 0, 0))]), [(0, 0, 49948), (1, 3, 2147483647), (0, 0, 60000), (0, 0, 0), (0, 0, 0), (0, 0, 0), (0, 0, 0), (0, 0, 0)]), (159, ([(3, 240, 240, 0, 0), (0, 0, 0, 0, 0), (0, 1, 1, 0, 0), (0, 0, 12, 0, 0)], [], [(287, 0, (0, 0, 0, 0, 0))]), [(0, 0, 49841), (1, 3, 2147483647), (0, 0, 60000), (0, 0, 0), (0, 0, 0), (0, 0, 0), (0, 0, 0), (0, 0, 0)])]) (n := 28) (by decide +kernel)
def mjSm_askm_20 : MjSm := ([(3, 240, 240, 0, 0)], [(287, 0, (0, 0, 0, 0, 0))], [((7, 0, 0, 0, 0), [], [])], [(275, 255)], 1)
set_option maxRecDepth 100000 in
theorem mjC_askm_20 : mjCtr (mjSW 240 290 mjWd_askm) 267 mjSm_askm_20 := aiOk_ctr mjUW_ok (env := []) (fun e he => (by cases he)) (pr := []) (cuts := []) (n := 919) (by decide +kernel)
def mjSm_askm_21 : MjSm := ([(3, 240, 240, 0, 0)], [(240, 57, (0, 0, 0, 0, 0)), (287, 0, (0, 0, 0, 0, 0))], [((7, 0, 0, 0, 0), [], [])], [(241, 49), (241, 50), (241, 51), (241, 56), (241, 57), (241, 58), (275, 255), (276, 255), (277, 255), (282, 255)], 6)
set_option maxRecDepth 100000 in
theorem mjC_askm_21 : mjCtr (mjSW 240 290 mjWd_askm) 302 mjSm_askm_21 := aiOk_ctr mjUW_ok (env := [(267, mjSm_askm_20), (266, mjSm_askm_1), (247, mjSm_askm_19), (220, mjSm_askm_4), (178, mjSm_askm_3)]) (mjEnvC mjC_askm_20 (mjEnvC mjC_askm_1 (mjEnvC mjC_askm_19 (mjEnvC mjC_askm_4 (mjEnvC mjC_askm_3 (fun e he => (by cases he))))))) (pr := []) (cuts := [(6, ([(3, 240, 240, 0, 0), (0, 0, 31, 0, 0), (9, 0, 0, 0, 0)], [], [(287, 0, (0, 0, 0, 0, 0))]), [(0, 0, 49994), (1, 1, 2147483647), (0, 0, 60000), (0, 0, 0), (0, 0, 0), (0, 0, 0), (0, 0, 0), (0, 0, 0)]), (34, ([(3, 240, 240, 0, 0), (0, 0, 30, 0, 0), (0, 0, 25, 0, 0)], [], [(287, 0, (0, 0, 0, 0, 0))]), [(0, 0, 49994), (1, 1, 2147483647), (0, 0, 49966), (1, 2, 2147483647), (0, 0, 60000), (0, 0, 0), (0, 0, 0), (0, 0, 0)])]) (n := 23) (by decide +kernel)
def mjSm_askm_22 : MjSm := ([(3, 240, 240, 0, 0), (0, 0, 0, 0, 0), (0, -2147483648, 2147483647, 0, 0)], [(287, 0, (0, 0, 0, 0, 0))], [((0, 1, 1, 0, 0), [], [])], [], 1)
set_option maxRecDepth 100000 in
theorem mjC_askm_22 : mjCtr (mjSW 240 290 mjWd_askm) 303 mjSm_askm_22 := aiOk_ctr mjUW_ok (env := []) (fun e he => (by cases he)) (pr := []) (cuts := []) (n := 11) (by decide +kernel)
def mjSm_askm_23 : MjSm := ([(3, 240, 240, 0, 0), (0, 1, 1, 0, 0), (0, -2147483648, 2147483647, 0, 0)], [(287, 0, (0, 0, 0, 0, 0))], [((0, 1, 1, 0, 0), [], [])], [], 1)
set_option maxRecDepth 100000 in
theorem mjC_askm_23 : mjCtr (mjSW 240 290 mjWd_askm) 303 mjSm_askm_23 := aiOk_ctr mjUW_ok (env := []) (fun e he => (by cases he)) (pr := []) (cuts := []) (n := 11) (by decide +kernel)
def mjSm_askm_24 : MjSm := ([(3, 240, 240, 0, 0), (0, 2, 2, 0, 0), (0, -2147483648, 2147483647, 0, 0)], [(287, 0, (0, 0, 0, 0, 0))], [((0, 1, 1, 0, 0), [], [])], [], 1)
set_option maxRecDepth 100000 in
theorem mjC_askm_24 : mjCtr (mjSW 240 290 mjWd_askm) 303 mjSm_askm_24 := aiOk_ctr mjUW_ok (env := []) (fun e he => (by cases he)) (pr := []) (cuts := []) (n := 11) (by decide +kernel)
def mjSm_askm_25 : MjSm := ([(3, 240, 240, 0, 0), (0, 3, 3, 0, 0), (0, -2147483648, 2147483647, 0, 0)], [(287, 0, (0, 0, 0, 0, 0))], [((0, 1, 1, 0, 0), [], [])], [], 1)
set_option maxRecDepth 100000 in
theorem mjC_askm_25 : mjCtr (mjSW 240 290 mjWd_askm) 303 mjSm_askm_25 := aiOk_ctr mjUW_ok (env := []) (fun e he => (by cases he)) (pr := []) (cuts := []) (n := 11) (by decide +kernel)
def mjSm_askm_26 : MjSm := ([(3, 240, 240, 0, 0), (0, 4, 4, 0, 0), (0, -2147483648, 2147483647, 0, 0)], [(287, 0, (0, 0, 0, 0, 0))], [((0, 1, 1, 0, 0), [], [])], [], 1)
set_option maxRecDepth 100000 in
theorem mjC_askm_26 : mjCtr (mjSW 240 290 mjWd_askm) 303 mjSm_askm_26 := aiOk_ctr mjUW_ok (env := []) (fun e he => (by cases he)) (pr := []) (cuts := []) (n := 11) (by decide +kernel)
def mjSm_askm_27 : MjSm := ([(3, 240, 240, 0, 0), (0, 5, 5, 0, 0), (0, -2147483648, 2147483647, 0, 0)], [(287, 0, (0, 0, 0, 0, 0))], [((0, 1, 1, 0, 0), [], [])], [], 1)
set_option maxRecDepth 100000 in
theorem mjC_askm_27 : mjCtr (mjSW 240 290 mjWd_askm) 303 mjSm_askm_27 := aiOk_ctr mjUW_ok (env := []) (fun e he => (by cases he)) (pr := []) (cuts := []) (n := 11) (by decide +kernel)
def mjSm_askm_28 : MjSm := ([(3, 240, 240, 0, 0), (0, 6, 6, 0, 0), (0, -2147483648, 2147483647, 0, 0)], [(287, 0, (0, 0, 0, 0, 0))], [((0, 1, 1, 0, 0), [], [])], [], 1)
set_option maxRecDepth 100000 in
theorem mjC_askm_28 : mjCtr (mjSW 240 290 mjWd_askm) 303 mjSm_askm_28 := aiOk_ctr mjUW_ok (env := []) (fun e he => (by cases he)) (pr := []) (cuts := []) (n := 11) (by decide +kernel)
def mjSm_askm_29 : MjSm := ([(3, 240, 240, 0, 0), (0, 7, 7, 0, 0), (0, -2147483648, 2147483647, 0, 0)], [(287, 0, (0, 0, 0, 0, 0))], [((0, 1, 1, 0, 0), [], [])], [], 1)
set_option maxRecDepth 100000 in
theorem mjC_askm_29 : mjCtr (mjSW 240 290 mjWd_askm) 303 mjSm_askm_29 := aiOk_ctr mjUW_ok (env := []) (fun e he => (by cases he)) (pr := []) (cuts := []) (n := 11) (by decide +kernel)
def mjSm_askm_30 : MjSm := ([(3, 240, 240, 0, 0), (0, 8, 8, 0, 0), (0, -2147483648, 2147483647, 0, 0)], [(287, 0, (0, 0, 0, 0, 0))], [((0, 1, 1, 0, 0), [], [])], [], 1)
set_option maxRecDepth 100000 in
theorem mjC_askm_30 : mjCtr (mjSW 240 290 mjWd_askm) 303 mjSm_askm_30 := aiOk_ctr mjUW_ok (env := []) (fun e he => (by cases he)) (pr := []) (cuts := []) (n := 11) (by decide +kernel)
def mjSm_askm_31 : MjSm := ([(3, 240, 240, 0, 0), (0, 9, 9, 0, 0), (0, -2147483648, 2147483647, 0, 0)], [(287, 0, (0, 0, 0, 0, 0))], [((0, 1, 1, 0, 0), [], [])], [], 1)
set_option maxRecDepth 100000 in
theorem mjC_askm_31 : mjCtr (mjSW 240 290 mjWd_askm) 303 mjSm_askm_31 := aiOk_ctr mjUW_ok (env := []) (fun e he => (by cases he)) (pr := []) (cuts := []) (n := 11) (by decide +kernel)
def mjSm_askm_32 : MjSm := ([(3, 240, 240, 0, 0), (0, 10, 10, 0, 0), (0, -2147483648, 2147483647, 0, 0)], [(287, 0, (0, 0, 0, 0, 0))], [((0, 1, 1, 0, 0), [], [])], [], 1)
set_option maxRecDepth 100000 in
theorem mjC_askm_32 : mjCtr (mjSW 240 290 mjWd_askm) 303 mjSm_askm_32 := aiOk_ctr mjUW_ok (env := []) (fun e he => (by cases he)) (pr := []) (cuts := []) (n := 11) (by decide +kernel)
def mjSm_askm_33 : MjSm := ([(3, 240, 240, 0, 0), (0, 11, 11, 0, 0), (0, -2147483648, 2147483647, 0, 0)], [(287, 0, (0, 0, 0, 0, 0))], [((0, 1, 1, 0, 0), [], [])], [], 1)
set_option maxRecDepth 100000 in
theorem mjC_askm_33 : mjCtr (mjSW 240 290 mjWd_askm) 303 mjSm_askm_33 := aiOk_ctr mjUW_ok (env := []) (fun e he => (by cases he)) (pr := []) (cuts := []) (n := 11) (by decide +kernel)
def mjSm_askm_34 : MjSm := ([(3, 240, 240, 0, 0), (0, 12, 12, 0, 0), (0, -2147483648, 2147483647, 0, 0)], [(287, 0, (0, 0, 0, 0, 0))], [((0, 1, 1, 0, 0), [], [])], [], 1)
set_option maxRecDepth 100000 in
theorem mjC_askm_34 : mjCtr (mjSW 240 290 mjWd_askm) 303 mjSm_askm_34 := aiOk_ctr mjUW_ok (env := []) (fun e he => (by cases he)) (pr := []) (cuts := []) (n := 11) (by decide +kernel)
def mjSm_askm_35 : MjSm := ([(3, 240, 240, 0, 0), (0, 13, 13, 0, 0), (0, -2147483648, 2147483647, 0, 0)], [(287, 0, (0, 0, 0, 0, 0))], [((0, 1, 1, 0, 0), [], [])], [], 1)
set_option maxRecDepth 100000 in
theorem mjC_askm_35 : mjCtr (mjSW 240 290 mjWd_askm) 303 mjSm_askm_35 := aiOk_ctr mjUW_ok (env := []) (fun e he => (by cases he)) (pr := []) (cuts := []) (n := 11) (by decide +kernel)
def mjSm_askm_36 : MjSm := ([(3, 240, 240, 0, 0), (0, 14, 14, 0, 0), (0, -2147483648, 2147483647, 0, 0)], [(287, 0, (0, 0, 0, 0, 0))], [((0, 1, 1, 0, 0), [], [])], [], 1)
set_option maxRecDepth 100000 in
theorem mjC_askm_36 : mjCtr (mjSW 240 290 mjWd_askm) 303 mjSm_askm_36 := aiOk_ctr mjUW_ok (env := []) (fun e he => (by cases he)) (pr := []) (cuts := []) (n := 11) (by decide +kernel)
def mjSm_askm_37 : MjSm := ([(3, 240, 240, 0, 0), (0, 15, 15, 0, 0), (0, -2147483648, 2147483647, 0, 0)], [(287, 0, (0, 0, 0, 0, 0))], [((0, 1, 1, 0, 0), [], [])], [], 1)
set_option maxRecDepth 100000 in
theorem mjC_askm_37 : mjCtr (mjSW 240 290 mjWd_askm) 303 mjSm_askm_37 := aiOk_ctr mjUW_ok (env := []) (fun e he => (by cases he)) (pr := []) (cuts := []) (n := 11) (by decide +kernel)
def mjSm_askm_38 : MjSm := ([(3, 240, 240, 0, 0), (0, 16, 16, 0, 0), (0, -2147483648, 2147483647, 0, 0)], [(287, 0, (0, 0, 0, 0, 0))], [((0, 1, 1, 0, 0), [], [])], [], 1)
set_option maxRecDepth 100000 in
theorem mjC_askm_38 : mjCtr (mjSW 240 290 mjWd_askm) 303 mjSm_askm_38 := aiOk_ctr mjUW_ok (env := []) (fun e he => (by cases he)) (pr := []) (cuts := []) (n := 11) (by decide +kernel)
def mjSm_askm_39 : MjSm := ([(3, 240, 240, 0, 0), (0, 17, 17, 0, 0), (0, -2147483648, 2147483647, 0, 0)], [(287, 0, (0, 0, 0, 0, 0))], [((0, 1, 1, 0, 0), [], [])], [], 1)
set_option maxRecDepth 100000 in
theorem mjC_askm_39 : mjCtr (mjSW 240 290 mjWd_askm) 303 mjSm_askm_39 := aiOk_ctr mjUW_ok (env := []) (fun e he => (by cases he)) (pr := []) (cuts := []) (n := 11) (by decide +kernel)
def mjSm_askm_40 : MjSm := ([(3, 240, 240, 0, 0), (0, 18, 18, 0, 0), (0, -2147483648, 2147483647, 0, 0)], [(287, 0, (0, 0, 0, 0, 0))], [((0, 1, 1, 0, 0), [], [])], [], 1)
set_option maxRecDepth 100000 in
theorem mjC_askm_40 : mjCtr (mjSW 240 290 mjWd_askm) 303 mjSm_askm_40 := aiOk_ctr mjUW_ok (env := []) (fun e he => (by cases he)) (pr := []) (cuts := []) (n := 11) (by decide +kernel)
def mjSm_askm_41 : MjSm := ([(3, 240, 240, 0, 0), (0, 19, 19, 0, 0), (0, -2147483648, 2147483647, 0, 0)], [(287, 0, (0, 0, 0, 0, 0))], [((0, 1, 1, 0, 0), [], [])], [], 1)
set_option maxRecDepth 100000 in
theorem mjC_askm_41 : mjCtr (mjSW 240 290 mjWd_askm) 303 mjSm_askm_41 := aiOk_ctr mjUW_ok (env := []) (fun e he => (by cases he)) (pr := []) (cuts := []) (n := 11) (by decide +kernel)
def mjSm_askm_42 : MjSm := ([(3, 240, 240, 0, 0), (0, 20, 20, 0, 0), (0, -2147483648, 2147483647, 0, 0)], [(287, 0, (0, 0, 0, 0, 0))], [((0, 1, 1, 0, 0), [], [])], [], 1)
set_option maxRecDepth 100000 in
theorem mjC_askm_42 : mjCtr (mjSW 240 290 mjWd_askm) 303 mjSm_askm_42 := aiOk_ctr mjUW_ok (env := []) (fun e he => (by cases he)) (pr := []) (cuts := []) (n := 11) (by decide +kernel)
def mjSm_askm_43 : MjSm := ([(3, 240, 240, 0, 0), (0, 21, 21, 0, 0), (0, -2147483648, 2147483647, 0, 0)], [(287, 0, (0, 0, 0, 0, 0))], [((0, 1, 1, 0, 0), [], [])], [], 1)
set_option maxRecDepth 100000 in
theorem mjC_askm_43 : mjCtr (mjSW 240 290 mjWd_askm) 303 mjSm_askm_43 := aiOk_ctr mjUW_ok (env := []) (fun e he => (by cases he)) (pr := []) (cuts := []) (n := 11) (by decide +kernel)
def mjSm_askm_44 : MjSm := ([(3, 240, 240, 0, 0), (0, 22, 22, 0, 0), (0, -2147483648, 2147483647, 0, 0)], [(287, 0, (0, 0, 0, 0, 0))], [((0, 1, 1, 0, 0), [], [])], [], 1)
set_option maxRecDepth 100000 in
theorem mjC_askm_44 : mjCtr (mjSW 240 290 mjWd_askm) 303 mjSm_askm_44 := aiOk_ctr mjUW_ok (env := []) (fun e he => (by cases he)) (pr := []) (cuts := []) (n := 11) (by decide +kernel)
def mjSm_askm_45 : MjSm := ([(3, 240, 240, 0, 0), (0, 23, 23, 0, 0), (0, -2147483648, 2147483647, 0, 0)], [(287, 0, (0, 0, 0, 0, 0))], [((0, 1, 1, 0, 0), [], [])], [], 1)
set_option maxRecDepth 100000 in
theorem mjC_askm_45 : mjCtr (mjSW 240 290 mjWd_askm) 303 mjSm_askm_45 := aiOk_ctr mjUW_ok (env := []) (fun e he => (by cases he)) (pr := []) (cuts := []) (n := 11) (by decide +kernel)
def mjSm_askm_46 : MjSm := ([(3, 240, 240, 0, 0), (0, 24, 24, 0, 0), (0, -2147483648, 2147483647, 0, 0)], [(287, 0, (0, 0, 0, 0, 0))], [((0, 1, 1, 0, 0), [], [])], [], 1)
set_option maxRecDepth 100000 in
theorem mjC_askm_46 : mjCtr (mjSW 240 290 mjWd_askm) 303 mjSm_askm_46 := aiOk_ctr mjUW_ok (env := []) (fun e he => (by cases he)) (pr := []) (cuts := []) (n := 11) (by decide +kernel)
def mjSm_askm_47 : MjSm := ([(3, 240, 240, 0, 0), (0, 25, 25, 0, 0), (0, -2147483648, 2147483647, 0, 0)], [(287, 0, (0, 0, 0, 0, 0))], [((0, 1, 1, 0, 0), [], [])], [], 1)
set_option maxRecDepth 100000 in
theorem mjC_askm_47 : mjCtr (mjSW 240 290 mjWd_askm) 303 mjSm_askm_47 := aiOk_ctr mjUW_ok (env := []) (fun e he => (by cases he)) (pr := []) (cuts := []) (n := 11) (by decide +kernel)
def mjSm_askm_48 : MjSm := ([(3, 240, 240, 0, 0), (0, 26, 26, 0, 0), (0, -2147483648, 2147483647, 0, 0)], [(287, 0, (0, 0, 0, 0, 0))], [((0, 1, 1, 0, 0), [], [])], [], 1)
set_option maxRecDepth 100000 in
theorem mjC_askm_48 : mjCtr (mjSW 240 290 mjWd_askm) 303 mjSm_askm_48 := aiOk_ctr mjUW_ok (env := []) (fun e he => (by cases he)) (pr := []) (cuts := []) (n := 11) (by decide +kernel)
def mjSm_askm_49 : MjSm := ([(3, 240, 240, 0, 0), (0, 27, 27, 0, 0), (0, -2147483648, 2147483647, 0, 0)], [(287, 0, (0, 0, 0, 0, 0))], [((0, 1, 1, 0, 0), [], [])], [], 1)
set_option maxRecDepth 100000 in
theorem mjC_askm_49 : mjCtr (mjSW 240 290 mjWd_askm) 303 mjSm_askm_49 := aiOk_ctr mjUW_ok (env := []) (fun e he => (by cases he)) (pr := []) (cuts := []) (n := 11) (by decide +kernel)
def mjSm_askm_50 : MjSm := ([(3, 240, 240, 0, 0), (0, 28, 28, 0, 0), (0, -2147483648, 2147483647, 0, 0)], [(287, 0, (0, 0, 0, 0, 0))], [((0, 1, 1, 0, 0), [], [])], [], 1)
set_option maxRecDepth 100000 in
theorem mjC_askm_50 : mjCtr (mjSW 240 290 mjWd_askm) 303 mjSm_askm_50 := aiOk_ctr mjUW_ok (env := []) (fun e he => (by cases he)) (pr := []) (cuts := []) (n := 11) (by decide +kernel)
def mjSm_askm_51 : MjSm := ([(3, 240, 240, 0, 0), (0, 29, 29, 0, 0), (0, -2147483648, 2147483647, 0, 0)], [(287, 0, (0, 0, 0, 0, 0))], [((0, 1, 1, 0, 0), [], [])], [], 1)
set_option maxRecDepth 100000 in
theorem mjC_askm_51 : mjCtr (mjSW 240 290 mjWd_askm) 303 mjSm_askm_51 := aiOk_ctr mjUW_ok (env := []) (fun e he => (by cases he)) (pr := []) (cuts := []) (n := 11) (by decide +kernel)
def mjSm_askm_52 : MjSm := ([(3, 240, 240, 0, 0), (0, 30, 30, 0, 0), (0, -2147483648, 2147483647, 0, 0)], [(287, 0, (0, 0, 0, 0, 0))], [((0, 1, 1, 0, 0), [], [])], [], 1)
set_option maxRecDepth 100000 in
theorem mjC_askm_52 : mjCtr (mjSW 240 290 mjWd_askm) 303 mjSm_askm_52 := aiOk_ctr mjUW_ok (env := []) (fun e he => (by cases he)) (pr := []) (cuts := []) (n := 11) (by decide +kernel)
def mjSm_askm_53 : MjSm := ([(3, 240, 240, 0, 0), (0, -2147483648, 2147483647, 0, 0)], [(240, 57, (0, 0, 0, 0, 0)), (287, 0, (0, 0, 0, 0, 0))], [((0, 31, 31, 0, 0), [], [])], [(241, 49), (241, 50), (241, 51), (241, 56), (241, 57), (241, 58), (275, 255), (276, 255), (277, 255), (282, 255)], 7)
set_option maxRecDepth 100000 in
theorem mjC_askm_53 : mjCtr (mjSW 240 290 mjWd_askm) 301 mjSm_askm_53 := aiOk_ctr mjUW_ok (env := [(302, mjSm_askm_21), (303, mjSm_askm_24), (303, mjSm_askm_29), (303, mjSm_askm_35), (303, mjSm_askm_32), (303, mjSm_askm_43), (303, mjSm_askm_49), (303, mjSm_askm_38), (303, mjSm_askm_40), (303, mjSm_askm_44), (303, mjSm_askm_27), (303, mjSm_askm_28), (303, mjSm_askm_37), (303, mjSm_askm_41), (303, mjSm_askm_23), (303, mjSm_askm_42), (303, mjSm_askm_47), (303, mjSm_askm_39), (303, mjSm_askm_25), (303, mjSm_askm_34), (303, mjSm_askm_51), (303, mjSm_askm_48), (303, mjSm_askm_52), (303, mjSm_askm_31), (303, mjSm_askm_46), (303, mjSm_askm_36), (303, mjSm_askm_50), (303, mjSm_askm_26), (303, mjSm_askm_30), (303, mjSm_askm_45), (303, mjSm_askm_33), (303, mjSm_askm_22)]) (mjEnvC mjC_askm_21 (mjEnvC mjC_askm_24 (mjEnvC mjC_askm_29 (mjEnvC mjC_askm_35 (mjEnvC mjC_askm_32 (mjEnvC mjC_askm_43 (mjEnvC mjC_askm_49 (mjEnvC mjC_askm_38 (mjEnvC mjC_askm_40 (mjEnvC mjC_askm_44 (mjEnvC mjC_askm_27 (mjEnvC mjC_askm_28 (mjEnvC mjC_askm_37 (mjEnvC mjC_askm_41 (mjEnvC mjC_askm_23 (mjEnvC mjC_askm_42 (mjEnvC mjC_askm_47 (mjEnvC mjC_askm_39 (mjEnvC mjC_askm_25 (mjEnvC mjC_askm_34 (mjEnvC mjC_askm_51 (mjEnvC mjC_askm_48 (mjEnvC mjC_askm_52 (mjEnvC mjC_askm_31 (mjEnvC mjC_askm_46 (mjEnvC mjC_askm_36 (mjEnvC mjC_askm_50 (mjEnvC mjC_askm_26 (mjEnvC mjC_askm_30 (mjEnvC mjC_askm_45 (mjEnvC mjC_askm_33 (mjEnvC mjC_askm_22 (fun e he => (by cases he)))))))))))))))))))))))))))))))))) (pr := []) (cuts := []) (n := 479) (by decide +kernel)
def mjSm_askm_54 : MjSm := ([(3, 240, 240, 0, 0), (0, 0, 0, 0, 0), (0, 0, 24, 0, 0)], [(287, 0, (0, 0, 0, 0, 0))], [((0, 0, 0, 0, 0), [], [])], [], 1)
set_option maxRecDepth 100000 in
theorem mjC_askm_54 : mjCtr (mjSW 240 290 mjWd_askm) 304 mjSm_askm_54 := aiOk_ctr mjUW_ok (env := []) (fun e he => (by cases he)) (pr := []) (cuts := []) (n := 12) (by decide +kernel)
def mjSm_askm_55 : MjSm := ([(3, 240, 240, 0, 0), (0, 1, 1, 0, 0), (0, -2147483648, 2147483647, 0, 0)], [(287, 0, (0, 1, 1, 0, 0))], [((0, 1, 1, 0, 0), [], [])], [], 1)
set_option maxRecDepth 100000 in
theorem mjC_askm_55 : mjCtr (mjSW 240 290 mjWd_askm) 303 mjSm_askm_55 := aiOk_ctr mjUW_ok (env := []) (fun e he => (by cases he)) (pr := []) (cuts := []) (n := 11) (by decide +kernel)
def mjSm_askm_56 : MjSm := ([(3, 240, 240, 0, 0), (0, 1, 1, 0, 0), (0, 0, 24, 0, 0)], [(287, 0, (0, 1, 1, 0, 0))], [((0, 0, 0, 0, 0), [], [])], [], 1)
set_option maxRecDepth 100000 in
theorem mjC_askm_56 : mjCtr (mjSW 240 290 mjWd_askm) 304 mjSm_askm_56 := aiOk_ctr mjUW_ok (env := []) (fun e he => (by cases he)) (pr := []) (cuts := []) (n := 12) (by decide +kernel)
def mjSm_askm_57 : MjSm := ([(3, 240, 240, 0, 0), (0, 2, 2, 0, 0), (0, -2147483648, 2147483647, 0, 0)], [(287, 0, (0, 2, 2, 0, 0))], [((0, 1, 1, 0, 0), [], [])], [], 1)
set_option maxRecDepth 100000 in
theorem mjC_askm_57 : mjCtr (mjSW 240 290 mjWd_askm) 303 mjSm_askm_57 := aiOk_ctr mjUW_ok (env := []) (fun e he => (by cases he)) (pr := []) (cuts := []) (n := 11) (by decide +kernel)
def mjSm_askm_58 : MjSm := ([(3, 240, 240, 0, 0), (0, 2, 2, 0, 0), (0, 0, 24, 0, 0)], [(287, 0, (0, 2, 2, 0, 0))], [((0, 0, 0, 0, 0), [], [])], [], 1)
set_option maxRecDepth 100000 in
theorem mjC_askm_58 : mjCtr (mjSW 240 290 mjWd_askm) 304 mjSm_askm_58 := aiOk_ctr mjUW_ok (env := []) (fun e he => (by cases he)) (pr := []) (cuts := []) (n := 12) (by decide +kernel)
def mjSm_askm_59 : MjSm := ([(3, 240, 240, 0, 0), (0, 3, 3, 0, 0), (0, -2147483648, 2147483647, 0, 0)], [(287, 0, (0, 3, 3, 0, 0))], [((0, 1, 1, 0, 0), [], [])], [], 1)
set_option maxRecDepth 100000 in
theorem mjC_askm_59 : mjCtr (mjSW 240 290 mjWd_askm) 303 mjSm_askm_59 := aiOk_ctr mjUW_ok (env := []) (fun e he => (by cases he)) (pr := []) (cuts := []) (n := 11) (by decide +kernel)
def mjSm_askm_60 : MjSm := ([(3, 240, 240, 0, 0), (0, 3, 3, 0, 0), (0, 0, 24, 0, 0)], [(287, 0, (0, 3, 3, 0, 0))], [((0, 0, 0, 0, 0), [], [])], [], 1)
set_option maxRecDepth 100000 in
theorem mjC_askm_60 : mjCtr (mjSW 240 290 mjWd_askm) 304 mjSm_askm_60 := aiOk_ctr mjUW_ok (env := []) (fun e he => (by cases he)) (pr := []) (cuts := []) (n := 12) (by decide +kernel)
def mjSm_askm_61 : MjSm := ([(3, 240, 240, 0, 0), (0, 4, 4, 0, 0), (0, -2147483648, 2147483647, 0, 0)], [(287, 0, (0, 4, 4, 0, 0))], [((0, 1, 1, 0, 0), [], [])], [], 1)
set_option maxRecDepth 100000 in
theorem mjC_askm_61 : mjCtr (mjSW 240 290 mjWd_askm) 303 mjSm_askm_61 := aiOk_ctr mjUW_ok (env := []) (fun e he => (by cases he)) (pr := []) (cuts := []) (n := 11) (by decide +kernel)
def mjSm_askm_62 : MjSm := ([(3, 240, 240, 0, 0), (0, 4, 4, 0, 0), (0, 0, 24, 0, 0)], [(287, 0, (0, 4, 4, 0, 0))], [((0, 0, 0, 0, 0), [], [])], [], 1)
set_option maxRecDepth 100000 in
theorem mjC_askm_62 : mjCtr (mjSW 240 290 mjWd_askm) 304 mjSm_askm_62 := aiOk_ctr mjUW_ok (env := []) (fun e he => (by cases he)) (pr := []) (cuts := []) (n := 12) (by decide +kernel)
def mjSm_askm_63 : MjSm := ([(3, 240, 240, 0, 0), (0, 5, 5, 0, 0), (0, -2147483648, 2147483647, 0, 0)], [(287, 0, (0, 5, 5, 0, 0))], [((0, 1, 1, 0, 0), [], [])], [], 1)
set_option maxRecDepth 100000 in
theorem mjC_askm_63 : mjCtr (mjSW 240 290 mjWd_askm) 303 mjSm_askm_63 := aiOk_ctr mjUW_ok (env := []) (fun e he => (by cases he)) (pr := []) (cuts := []) (n := 11) (by decide +kernel)
def mjSm_askm_64 : MjSm := ([(3, 240, 240, 0, 0), (0, 5, 5, 0, 0), (0, 0, 24, 0, 0)], [(287, 0, (0, 5, 5, 0, 0))], [((0, 0, 0, 0, 0), [], [])], [], 1)
set_option maxRecDepth 100000 in
theorem mjC_askm_64 : mjCtr (mjSW 240 290 mjWd_askm) 304 mjSm_askm_64 := aiOk_ctr mjUW_ok (env := []) (fun e he => (by cases he)) (pr := []) (cuts := []) (n := 12) (by decide +kernel)
def mjSm_askm_65 : MjSm := ([(3, 240, 240, 0, 0), (0, 6, 6, 0, 0), (0, -2147483648, 2147483647, 0, 0)], [(287, 0, (0, 6, 6, 0, 0))], [((0, 1, 1, 0, 0), [], [])], [], 1)
set_option maxRecDepth 100000 in
theorem mjC_askm_65 : mjCtr (mjSW 240 290 mjWd_askm) 303 mjSm_askm_65 := aiOk_ctr mjUW_ok (env := []) (fun e he => (by cases he)) (pr := []) (cuts := []) (n := 11) (by decide +kernel)
def mjSm_askm_66 : MjSm := ([(3, 240, 240, 0, 0), (0, 6, 6, 0, 0), (0, 0, 24, 0, 0)], [(287, 0, (0, 6, 6, 0, 0))], [((0, 0, 0, 0, 0), [], [])], [], 1)
set_option maxRecDepth 100000 in
theorem mjC_askm_66 : mjCtr (mjSW 240 290 mjWd_askm) 304 mjSm_askm_66 := aiOk_ctr mjUW_ok (env := []) (fun e he => (by cases he)) (pr := []) (cuts := []) (n := 12) (by decide +kernel)
def mjSm_askm_67 : MjSm := ([(3, 240, 240, 0, 0), (0, 7, 7, 0, 0), (0, -2147483648, 2147483647, 0, 0)], [(287, 0, (0, 7, 7, 0, 0))], [((0, 1, 1, 0, 0), [], [])], [], 1)
set_option maxRecDepth 100000 in
theorem mjC_askm_67 : mjCtr (mjSW 240 290 mjWd_askm) 303 mjSm_askm_67 := aiOk_ctr mjUW_ok (env := []) (fun e he => (by cases he)) (pr := []) (cuts := []) (n := 11) (by decide +kernel)
def mjSm_askm_68 : MjSm := ([(3, 240, 240, 0, 0), (0, 7, 7, 0, 0), (0, 0, 24, 0, 0)], [(287, 0, (0, 7, 7, 0, 0))], [((0, 0, 0, 0, 0), [], [])], [], 1)
set_option maxRecDepth 100000 in
theorem mjC_askm_68 : mjCtr (mjSW 240 290 mjWd_askm) 304 mjSm_askm_68 := aiOk_ctr mjUW_ok (env := []) (fun e he => (by cases he)) (pr := []) (cuts := []) (n := 12) (by decide +kernel)
def mjSm_askm_69 : MjSm := ([(3, 240, 240, 0, 0), (0, 8, 8, 0, 0), (0, -2147483648, 2147483647, 0, 0)], [(287, 0, (0, 8, 8, 0, 0))], [((0, 1, 1, 0, 0), [], [])], [], 1)
set_option maxRecDepth 100000 in
theorem mjC_askm_69 : mjCtr (mjSW 240 290 mjWd_askm) 303 mjSm_askm_69 := aiOk_ctr mjUW_ok (env := []) (fun e he => (by cases he)) (pr := []) (cuts := []) (n := 11) (by decide +kernel)
def mjSm_askm_70 : MjSm := ([(3, 240, 240, 0, 0), (0, 8, 8, 0, 0), (0, 0, 24, 0, 0)], [(287, 0, (0, 8, 8, 0, 0))], [((0, 0, 0, 0, 0), [], [])], [], 1)
set_option maxRecDepth 100000 in
theorem mjC_askm_70 : mjCtr (mjSW 240 290 mjWd_askm) 304 mjSm_askm_70 := aiOk_ctr mjUW_ok (env := []) (fun e he => (by cases he)) (pr := []) (cuts := []) (n := 12) (by decide +kernel)
def mjSm_askm_71 : MjSm := ([(3, 240, 240, 0, 0), (0, 9, 9, 0, 0), (0, -2147483648, 2147483647, 0, 0)], [(287, 0, (0, 9, 9, 0, 0))], [((0, 1, 1, 0, 0), [], [])], [], 1)
set_option maxRecDepth 100000 in
theorem mjC_askm_71 : mjCtr (mjSW 240 290 mjWd_askm) 303 mjSm_askm_71 := aiOk_ctr mjUW_ok (env := []) (fun e he => (by cases he)) (pr := []) (cuts := []) (n := 11) (by decide +kernel)
def mjSm_askm_72 : MjSm := ([(3, 240, 240, 0, 0), (0, 9, 9, 0, 0), (0, 0, 24, 0, 0)], [(287, 0, (0, 9, 9, 0, 0))], [((0, 0, 0, 0, 0), [], [])], [], 1)
set_option maxRecDepth 100000 in
theorem mjC_askm_72 : mjCtr (mjSW 240 290 mjWd_askm) 304 mjSm_askm_72 := aiOk_ctr mjUW_ok (env := []) (fun e he => (by cases he)) (pr := []) (cuts := []) (n := 12) (by decide +kernel)
def mjSm_askm_73 : MjSm := ([(3, 240, 240, 0, 0), (0, 10, 10, 0, 0), (0, -2147483648, 2147483647, 0, 0)], [(287, 0, (0, 10, 10, 0, 0))], [((0, 1, 1, 0, 0), [], [])], [], 1)
set_option maxRecDepth 100000 in
theorem mjC_askm_73 : mjCtr (mjSW 240 290 mjWd_askm) 303 mjSm_askm_73 := aiOk_ctr mjUW_ok (env := []) (fun e he => (by cases he)) (pr := []) (cuts := []) (n := 11) (by decide +kernel)
def mjSm_askm_74 : MjSm := ([(3, 240, 240, 0, 0), (0, 10, 10, 0, 0), (0, 0, 24, 0, 0)], [(287, 0, (0, 10, 10, 0, 0))], [((0, 0, 0, 0, 0), [], [])], [], 1)
set_option maxRecDepth 100000 in
theorem mjC_askm_74 : mjCtr (mjSW 240 290 mjWd_askm) 304 mjSm_askm_74 := aiOk_ctr mjUW_ok (env := []) (fun e he => (by cases he)) (pr := []) (cuts := []) (n := 12) (by decide +kernel)
def mjSm_askm_75 : MjSm := ([(3, 240, 240, 0, 0), (0, 11, 11, 0, 0), (0, -2147483648, 2147483647, 0, 0)], [(287, 0, (0, 11, 11, 0, 0))], [((0, 1, 1, 0, 0), [], [])], [], 1)
set_option maxRecDepth 100000 in
theorem mjC_askm_75 : mjCtr (mjSW 240 290 mjWd_askm) 303 mjSm_askm_75 := aiOk_ctr mjUW_ok (env := []) (fun e he => (by cases he)) (pr := []) (cuts := []) (n := 11) (by decide +kernel)
def mjSm_askm_76 : MjSm := ([(3, 240, 240, 0, 0), (0, 11, 11, 0, 0), (0, 0, 24, 0, 0)], [(287, 0, (0, 11, 11, 0, 0))], [((0, 0, 0, 0, 0), [], [])], [], 1)
set_option maxRecDepth 100000 in
theorem mjC_askm_76 : mjCtr (mjSW 240 290 mjWd_askm) 304 mjSm_askm_76 := aiOk_ctr mjUW_ok (env := []) (fun e he => (by cases he)) (pr := []) (cuts := []) (n := 12) (by decide +kernel)
def mjSm_askm_77 : MjSm := ([(3, 240, 240, 0, 0), (0, 12, 12, 0, 0), (0, -2147483648, 2147483647, 0, 0)], [(287, 0, (0, 12, 12, 0, 0))], [((0, 1, 1, 0, 0), [], [])], [], 1)
set_option maxRecDepth 100000 in
theorem mjC_askm_77 : mjCtr (mjSW 240 290 mjWd_askm) 303 mjSm_askm_77 := aiOk_ctr mjUW_ok (env := []) (fun e he => (by cases he)) (pr := []) (cuts := []) (n := 11) (by decide +kernel)
def mjSm_askm_78 : MjSm := ([(3, 240, 240, 0, 0), (0, 12, 12, 0, 0), (0, 0, 24, 0, 0)], [(287, 0, (0, 12, 12, 0, 0))], [((0, 0, 0, 0, 0), [], [])], [], 1)
set_option maxRecDepth 100000 in
theorem mjC_askm_78 : mjCtr (mjSW 240 290 mjWd_askm) 304 mjSm_askm_78 := aiOk_ctr mjUW_ok (env := []) (fun e he => (by cases he)) (pr := []) (cuts := []) (n := 12) (by decide +kernel)
def mjSm_askm_79 : MjSm := ([(3, 240, 240, 0, 0), (0, 13, 13, 0, 0), (0, -2147483648, 2147483647, 0, 0)], [(287, 0, (0, 13, 13, 0, 0))], [((0, 1, 1, 0, 0), [], [])], [], 1)
set_option maxRecDepth 100000 in
theorem mjC_askm_79 : mjCtr (mjSW 240 290 mjWd_askm) 303 mjSm_askm_79 := aiOk_ctr mjUW_ok (env := []) (fun e he => (by cases he)) (pr := []) (cuts := []) (n := 11) (by decide +kernel)
def mjSm_askm_80 : MjSm := ([(3, 240, 240, 0, 0), (0, 13, 13, 0, 0), (0, 0, 24, 0, 0)], [(287, 0, (0, 13, 13, 0, 0))], [((0, 0, 0, 0, 0), [], [])], [], 1)
set_option maxRecDepth 100000 in
theorem mjC_askm_80 : mjCtr (mjSW 240 290 mjWd_askm) 304 mjSm_askm_80 := aiOk_ctr mjUW_ok (env := []) (fun e he => (by cases he)) (pr := []) (cuts := []) (n := 12) (by decide +kernel)
def mjSm_askm_81 : MjSm := ([(3, 240, 240, 0, 0), (0, 14, 14, 0, 0), (0, -2147483648, 2147483647, 0, 0)], [(287, 0, (0, 14, 14, 0, 0))], [((0, 1, 1, 0, 0), [], [])], [], 1)
set_option maxRecDepth 100000 in
theorem mjC_askm_81 : mjCtr (mjSW 240 290 mjWd_askm) 303 mjSm_askm_81 := aiOk_ctr mjUW_ok (env := []) (fun e he => (by cases he)) (pr := []) (cuts := []) (n := 11) (by decide +kernel)
def mjSm_askm_82 : MjSm := ([(3, 240, 240, 0, 0), (0, 14, 14, 0, 0), (0, 0, 24, 0, 0)], [(287, 0, (0, 14, 14, 0, 0))], [((0, 0, 0, 0, 0), [], [])], [], 1)
set_option maxRecDepth 100000 in
theorem mjC_askm_82 : mjCtr (mjSW 240 290 mjWd_askm) 304 mjSm_askm_82 := aiOk_ctr mjUW_ok (env := []) (fun e he => (by cases he)) (pr := []) (cuts := []) (n := 12) (by decide +kernel)
def mjSm_askm_83 : MjSm := ([(3, 240, 240, 0, 0), (0, 15, 15, 0, 0), (0, -2147483648, 2147483647, 0, 0)], [(287, 0, (0, 15, 15, 0, 0))], [((0, 1, 1, 0, 0), [], [])], [], 1)
set_option maxRecDepth 100000 in
theorem mjC_askm_83 : mjCtr (mjSW 240 290 mjWd_askm) 303 mjSm_askm_83 := aiOk_ctr mjUW_ok (env := []) (fun e he => (by cases he)) (pr := []) (cuts := []) (n := 11) (by decide +kernel)
def mjSm_askm_84 : MjSm := ([(3, 240, 240, 0, 0), (0, 15, 15, 0, 0), (0, 0, 24, 0, 0)], [(287, 0, (0, 15, 15, 0, 0))], [((0, 0, 0, 0, 0), [], [])], [], 1)
set_option maxRecDepth 100000 in
theorem mjC_askm_84 : mjCtr (mjSW 240 290 mjWd_askm) 304 mjSm_askm_84 := aiOk_ctr mjUW_ok (env := []) (fun e he => (by cases he)) (pr := []) (cuts := []) (n := 12) (by decide +kernel)
def mjSm_askm_85 : MjSm := ([(3, 240, 240, 0, 0), (0, 16, 16, 0, 0), (0, -2147483648, 2147483647, 0, 0)], [(287, 0, (0, 16, 16, 0, 0))], [((0, 1, 1, 0, 0), [], [])], [], 1)
set_option maxRecDepth 100000 in
theorem mjC_askm_85 : mjCtr (mjSW 240 290 mjWd_askm) 303 mjSm_askm_85 := aiOk_ctr mjUW_ok (env := []) (fun e he => (by cases he)) (pr := []) (cuts := []) (n := 11) (by decide +kernel)
def mjSm_askm_86 : MjSm := ([(3, 240, 240, 0, 0), (0, 16, 16, 0, 0), (0, 0, 24, 0, 0)], [(287, 0, (0, 16, 16, 0, 0))], [((0, 0, 0, 0, 0), [], [])], [], 1)
set_option maxRecDepth 100000 in
theorem mjC_askm_86 : mjCtr (mjSW 240 290 mjWd_askm) 304 mjSm_askm_86 := aiOk_ctr mjUW_ok (env := []) (fun e he => (by cases he)) (pr := []) (cuts := []) (n := 12) (by decide +kernel)
def mjSm_askm_87 : MjSm := ([(3, 240, 240, 0, 0), (0, 17, 17, 0, 0), (0, -2147483648, 2147483647, 0, 0)], [(287, 0, (0, 17, 17, 0, 0))], [((0, 1, 1, 0, 0), [], [])], [], 1)
set_option maxRecDepth 100000 in
theorem mjC_askm_87 : mjCtr (mjSW 240 290 mjWd_askm) 303 mjSm_askm_87 := aiOk_ctr mjUW_ok (env := []) (fun e he => (by cases he)) (pr := []) (cuts := []) (n := 11) (by decide +kernel)
def mjSm_askm_88 : MjSm := ([(3, 240, 240, 0, 0), (0, 17, 17, 0, 0), (0, 0, 24, 0, 0)], [(287, 0, (0, 17, 17, 0, 0))], [((0, 0, 0, 0, 0), [], [])], [], 1)
set_option maxRecDepth 100000 in
theorem mjC_askm_88 : mjCtr (mjSW 240 290 mjWd_askm) 304 mjSm_askm_88 := aiOk_ctr mjUW_ok (env := []) (fun e he => (by cases he)) (pr := []) (cuts := []) (n := 12) (by decide +kernel)
def mjSm_askm_89 : MjSm := ([(3, 240, 240, 0, 0), (0, 18, 18, 0, 0), (0, -2147483648, 2147483647, 0, 0)], [(287, 0, (0, 18, 18, 0, 0))], [((0, 1, 1, 0, 0), [], [])], [], 1)
set_option maxRecDepth 100000 in
theorem mjC_askm_89 : mjCtr (mjSW 240 290 mjWd_askm) 303 mjSm_askm_89 := aiOk_ctr mjUW_ok (env := []) (fun e he => (by cases he)) (pr := []) (cuts := []) (n := 11) (by decide +kernel)
def mjSm_askm_90 : MjSm := ([(3, 240, 240, 0, 0), (0, 18, 18, 0, 0), (0, 0, 24, 0, 0)], [(287, 0, (0, 18, 18, 0, 0))], [((0, 0, 0, 0, 0), [], [])], [], 1)
set_option maxRecDepth 100000 in
theorem mjC_askm_90 : mjCtr (mjSW 240 290 mjWd_askm) 304 mjSm_askm_90 := aiOk_ctr mjUW_ok (env := []) (fun e he => (by cases he)) (pr := []) (cuts := []) (n := 12) (by decide +kernel)
def mjSm_askm_91 : MjSm := ([(3, 240, 240, 0, 0), (0, 19, 19, 0, 0), (0, -2147483648, 2147483647, 0, 0)], [(287, 0, (0, 19, 19, 0, 0))], [((0, 1, 1, 0, 0), [], [])], [], 1)
set_option maxRecDepth 100000 in
theorem mjC_askm_91 : mjCtr (mjSW 240 290 mjWd_askm) 303 mjSm_askm_91 := aiOk_ctr mjUW_ok (env := []) (fun e he => (by cases he)) (pr := []) (cuts := []) (n := 11) (by decide +kernel)
def mjSm_askm_92 : MjSm := ([(3, 240, 240, 0, 0), (0, 19, 19, 0, 0), (0, 0, 24, 0, 0)], [(287, 0, (0, 19, 19, 0, 0))], [((0, 0, 0, 0, 0), [], [])], [], 1)
set_option maxRecDepth 100000 in
theorem mjC_askm_92 : mjCtr (mjSW 240 290 mjWd_askm) 304 mjSm_askm_92 := aiOk_ctr mjUW_ok (env := []) (fun e he => (by cases he)) (pr := []) (cuts := []) (n := 12) (by decide +kernel)
def mjSm_askm_93 : MjSm := ([(3, 240, 240, 0, 0), (0, 20, 20, 0, 0), (0, -2147483648, 2147483647, 0, 0)], [(287, 0, (0, 20, 20, 0, 0))], [((0, 1, 1, 0, 0), [], [])], [], 1)
set_option maxRecDepth 100000 in
theorem mjC_askm_93 : mjCtr (mjSW 240 290 mjWd_askm) 303 mjSm_askm_93 := aiOk_ctr mjUW_ok (env := []) (fun e he => (by cases he)) (pr := []) (cuts := []) (n := 11) (by decide +kernel)
def mjSm_askm_94 : MjSm := ([(3, 240, 240, 0, 0), (0, 20, 20, 0, 0), (0, 0, 24, 0, 0)], [(287, 0, (0, 20, 20, 0, 0))], [((0, 0, 0, 0, 0), [], [])], [], 1)
set_option maxRecDepth 100000 in
theorem mjC_askm_94 : mjCtr (mjSW 240 290 mjWd_askm) 304 mjSm_askm_94 := aiOk_ctr mjUW_ok (env := []) (fun e he => (by cases he)) (pr := []) (cuts := []) (n := 12) (by decide +kernel)
def mjSm_askm_95 : MjSm := ([(3, 240, 240, 0, 0), (0, 21, 21, 0, 0), (0, -2147483648, 2147483647, 0, 0)], [(287, 0, (0, 21, 21, 0, 0))], [((0, 1, 1, 0, 0), [], [])], [], 1)
set_option maxRecDepth 100000 in
theorem mjC_askm_95 : mjCtr (mjSW 240 290 mjWd_askm) 303 mjSm_askm_95 := aiOk_ctr mjUW_ok (env := []) (fun e he => (by cases he)) (pr := []) (cuts := []) (n := 11) (by decide +kernel)
def mjSm_askm_96 : MjSm := ([(3, 240, 240, 0, 0), (0, 21, 21, 0, 0), (0, 0, 24, 0, 0)], [(287, 0, (0, 21, 21, 0, 0))], [((0, 0, 0, 0, 0), [], [])], [], 1)
set_option maxRecDepth 100000 in
theorem mjC_askm_96 : mjCtr (mjSW 240 290 mjWd_askm) 304 mjSm_askm_96 := aiOk_ctr mjUW_ok (env := []) (fun e he => (by cases he)) (pr := []) (cuts := []) (n := 12) (by decide +kernel)
def mjSm_askm_97 : MjSm := ([(3, 240, 240, 0, 0), (0, 22, 22, 0, 0), (0, -2147483648, 2147483647, 0, 0)], [(287, 0, (0, 22, 22, 0, 0))], [((0, 1, 1, 0, 0), [], [])], [], 1)
set_option maxRecDepth 100000 in
theorem mjC_askm_97 : mjCtr (mjSW 240 290 mjWd_askm) 303 mjSm_askm_97 := aiOk_ctr mjUW_ok (env := []) (fun e he => (by cases he)) (pr := []) (cuts := []) (n := 11) (by decide +kernel)
def mjSm_askm_98 : MjSm := ([(3, 240, 240, 0, 0), (0, 22, 22, 0, 0), (0, 0, 24, 0, 0)], [(287, 0, (0, 22, 22, 0, 0))], [((0, 0, 0, 0, 0), [], [])], [], 1)
set_option maxRecDepth 100000 in
theorem mjC_askm_98 : mjCtr (mjSW 240 290 mjWd_askm) 304 mjSm_askm_98 := aiOk_ctr mjUW_ok (env := []) (fun e he => (by cases he)) (pr := []) (cuts := []) (n := 12) (by decide +kernel)
def mjSm_askm_99 : MjSm := ([(3, 240, 240, 0, 0), (0, 23, 23, 0, 0), (0, -2147483648, 2147483647, 0, 0)], [(287, 0, (0, 23, 23, 0, 0))], [((0, 1, 1, 0, 0), [], [])], [], 1)
set_option maxRecDepth 100000 in
theorem mjC_askm_99 : mjCtr (mjSW 240 290 mjWd_askm) 303 mjSm_askm_99 := aiOk_ctr mjUW_ok (env := []) (fun e he => (by cases he)) (pr := []) (cuts := []) (n := 11) (by decide +kernel)
def mjSm_askm_100 : MjSm := ([(3, 240, 240, 0, 0), (0, 23, 23, 0, 0), (0, 0, 24, 0, 0)], [(287, 0, (0, 23, 23, 0, 0))], [((0, 0, 0, 0, 0), [], [])], [], 1)
set_option maxRecDepth 100000 in
theorem mjC_askm_100 : mjCtr (mjSW 240 290 mjWd_askm) 304 mjSm_askm_100 := aiOk_ctr mjUW_ok (env := []) (fun e he => (by cases he)) (pr := []) (cuts := []) (n := 12) (by decide +kernel)
def mjSm_askm_101 : MjSm := ([(3, 240, 240, 0, 0), (0, 24, 24, 0, 0), (0, -2147483648, 2147483647, 0, 0)], [(287, 0, (0, 24, 24, 0, 0))], [((0, 1, 1, 0, 0), [], [])], [], 1)
set_option maxRecDepth 100000 in
theorem mjC_askm_101 : mjCtr (mjSW 240 290 mjWd_askm) 303 mjSm_askm_101 := aiOk_ctr mjUW_ok (env := []) (fun e he => (by cases he)) (pr := []) (cuts := []) (n := 11) (by decide +kernel)
def mjSm_askm_102 : MjSm := ([(3, 240, 240, 0, 0), (0, 24, 24, 0, 0), (0, 0, 24, 0, 0)], [(287, 0, (0, 24, 24, 0, 0))], [((0, 0, 0, 0, 0), [], [])], [], 1)
set_option maxRecDepth 100000 in
theorem mjC_askm_102 : mjCtr (mjSW 240 290 mjWd_askm) 304 mjSm_askm_102 := aiOk_ctr mjUW_ok (env := []) (fun e he => (by cases he)) (pr := []) (cuts := []) (n := 12) (by decide +kernel)
def mjSm_askm_103 : MjSm := ([(3, 240, 240, 0, 0), (0, 25, 25, 0, 0), (0, -2147483648, 2147483647, 0, 0)], [(287, 0, (0, 25, 25, 0, 0))], [((0, 1, 1, 0, 0), [], [])], [], 1)
set_option maxRecDepth 100000 in
theorem mjC_askm_103 : mjCtr (mjSW 240 290 mjWd_askm) 303 mjSm_askm_103 := aiOk_ctr mjUW_ok (env := []) (fun e he => (by cases he)) (pr := []) (cuts := []) (n := 11) (by decide +kernel)
def mjSm_askm_104 : MjSm := ([(3, 240, 240, 0, 0), (0, 25, 25, 0, 0), (0, 0, 24, 0, 0)], [(287, 0, (0, 25, 25, 0, 0))], [((0, 0, 0, 0, 0), [], [])], [], 1)
set_option maxRecDepth 100000 in
theorem mjC_askm_104 : mjCtr (mjSW 240 290 mjWd_askm) 304 mjSm_askm_104 := aiOk_ctr mjUW_ok (env := []) (fun e he => (by cases he)) (pr := []) (cuts := []) (n := 12) (by decide +kernel)
def mjSm_askm_105 : MjSm := ([(3, 240, 240, 0, 0), (0, 26, 26, 0, 0), (0, -2147483648, 2147483647, 0, 0)], [(287, 0, (0, 26, 26, 0, 0))], [((0, 1, 1, 0, 0), [], [])], [], 1)
set_option maxRecDepth 100000 in
theorem mjC_askm_105 : mjCtr (mjSW 240 290 mjWd_askm) 303 mjSm_askm_105 := aiOk_ctr mjUW_ok (env := []) (fun e he => (by cases he)) (pr := []) (cuts := []) (n := 11) (by decide +kernel)
def mjSm_askm_106 : MjSm := ([(3, 240, 240, 0, 0), (0, 26, 26, 0, 0), (0, 0, 24, 0, 0)], [(287, 0, (0, 26, 26, 0, 0))], [((0, 0, 0, 0, 0), [], [])], [], 1)
set_option maxRecDepth 100000 in
theorem mjC_askm_106 : mjCtr (mjSW 240 290 mjWd_askm) 304 mjSm_askm_106 := aiOk_ctr mjUW_ok (env := []) (fun e he => (by cases he)) (pr := []) (cuts := []) (n := 12) (by decide +kernel)
def mjSm_askm_107 : MjSm := ([(3, 240, 240, 0, 0), (0, 27, 27, 0, 0), (0, -2147483648, 2147483647, 0, 0)], [(287, 0, (0, 27, 27, 0, 0))], [((0, 1, 1, 0, 0), [], [])], [], 1)
set_option maxRecDepth 100000 in
theorem mjC_askm_107 : mjCtr (mjSW 240 290 mjWd_askm) 303 mjSm_askm_107 := aiOk_ctr mjUW_ok (env := []) (fun e he => (by cases he)) (pr := []) (cuts := []) (n := 11) (by decide +kernel)
def mjSm_askm_108 : MjSm := ([(3, 240, 240, 0, 0), (0, 27, 27, 0, 0), (0, 0, 24, 0, 0)], [(287, 0, (0, 27, 27, 0, 0))], [((0, 0, 0, 0, 0), [], [])], [], 1)
set_option maxRecDepth 100000 in
theorem mjC_askm_108 : mjCtr (mjSW 240 290 mjWd_askm) 304 mjSm_askm_108 := aiOk_ctr mjUW_ok (env := []) (fun e he => (by cases he)) (pr := []) (cuts := []) (n := 12) (by decide +kernel)
def mjSm_askm_109 : MjSm := ([(3, 240, 240, 0, 0), (0, 28, 28, 0, 0), (0, -2147483648, 2147483647, 0, 0)], [(287, 0, (0, 28, 28, 0, 0))], [((0, 1, 1, 0, 0), [], [])], [], 1)
set_option maxRecDepth 100000 in
theorem mjC_askm_109 : mjCtr (mjSW 240 290 mjWd_askm) 303 mjSm_askm_109 := aiOk_ctr mjUW_ok (env := []) (fun e he => (by cases he)) (pr := []) (cuts := []) (n := 11) (by decide +kernel)
def mjSm_askm_110 : MjSm := ([(3, 240, 240, 0, 0), (0, 28, 28, 0, 0), (0, 0, 24, 0, 0)], [(287, 0, (0, 28, 28, 0, 0))], [((0, 0, 0, 0, 0), [], [])], [], 1)
set_option maxRecDepth 100000 in
theorem mjC_askm_110 : mjCtr (mjSW 240 290 mjWd_askm) 304 mjSm_askm_110 := aiOk_ctr mjUW_ok (env := []) (fun e he => (by cases he)) (pr := []) (cuts := []) (n := 12) (by decide +kernel)
def mjSm_askm_111 : MjSm := ([(3, 240, 240, 0, 0), (0, 29, 29, 0, 0), (0, -2147483648, 2147483647, 0, 0)], [(287, 0, (0, 29, 29, 0, 0))], [((0, 1, 1, 0, 0), [], [])], [], 1)
set_option maxRecDepth 100000 in
theorem mjC_askm_111 : mjCtr (mjSW 240 290 mjWd_askm) 303 mjSm_askm_111 := aiOk_ctr mjUW_ok (env := []) (fun e he => (by cases he)) (pr := []) (cuts := []) (n := 11) (by decide +kernel)
def mjSm_askm_112 : MjSm := ([(3, 240, 240, 0, 0), (0, 29, 29, 0, 0), (0, 0, 24, 0, 0)], [(287, 0, (0, 29, 29, 0, 0))], [((0, 0, 0, 0, 0), [], [])], [], 1)
set_option maxRecDepth 100000 in
theorem mjC_askm_112 : mjCtr (mjSW 240 290 mjWd_askm) 304 mjSm_askm_112 := aiOk_ctr mjUW_ok (env := []) (fun e he => (by cases he)) (pr := []) (cuts := []) (n := 12) (by decide +kernel)
def mjSm_askm_113 : MjSm := ([(3, 240, 240, 0, 0), (0, 30, 30, 0, 0), (0, -2147483648, 2147483647, 0, 0)], [(287, 0, (0, 30, 30, 0, 0))], [((0, 1, 1, 0, 0), [], [])], [], 1)
set_option maxRecDepth 100000 in
theorem mjC_askm_113 : mjCtr (mjSW 240 290 mjWd_askm) 303 mjSm_askm_113 := aiOk_ctr mjUW_ok (env := []) (fun e he => (by cases he)) (pr := []) (cuts := []) (n := 11) (by decide +kernel)
def mjSm_askm_114 : MjSm := ([(3, 240, 240, 0, 0), (0, 30, 30, 0, 0), (0, 0, 24, 0, 0)], [(287, 0, (0, 30, 30, 0, 0))], [((0, 0, 0, 0, 0), [], [])], [], 1)
set_option maxRecDepth 100000 in
theorem mjC_askm_114 : mjCtr (mjSW 240 290 mjWd_askm) 304 mjSm_askm_114 := aiOk_ctr mjUW_ok (env := []) (fun e he => (by cases he)) (pr := []) (cuts := []) (n := 12) (by decide +kernel)
def mjSm_askm_115 : MjSm := ([(3, 240, 240, 0, 0), (0, 0, 24, 0, 0), (0, -2147483648, 2147483647, 0, 0)], [(287, 0, (0, 0, 0, 0, 0))], [((0, 31, 31, 0, 0), [], [(287, 0, (0, 31, 31, 0, 0))])], [(288, 255)], 2)
set_option maxRecDepth 100000 in
theorem mjC_askm_115 : mjCtr (mjSW 240 290 mjWd_askm) 307 mjSm_askm_115 := aiOk_ctr mjUW_ok (env := [(304, mjSm_askm_86), (304, mjSm_askm_66), (304, mjSm_askm_104), (304, mjSm_askm_100), (304, mjSm_askm_114), (304, mjSm_askm_54), (304, mjSm_askm_58), (304, mjSm_askm_96), (304, mjSm_askm_90), (304, mjSm_askm_64), (304, mjSm_askm_72), (304, mjSm_askm_106), (304, mjSm_askm_70), (304, mjSm_askm_78), (304, mjSm_askm_110), (304, mjSm_askm_76), (304, mjSm_askm_80), (304, mjSm_askm_74), (304, mjSm_askm_82), (304, mjSm_askm_60), (304, mjSm_askm_62), (304, mjSm_askm_92), (304, mjSm_askm_102), (304, mjSm_askm_88), (304, mjSm_askm_56), (304, mjSm_askm_108), (304, mjSm_askm_68), (304, mjSm_askm_98), (304, mjSm_askm_112), (304, mjSm_askm_94), (304, mjSm_askm_84), (303, mjSm_askm_89), (303, mjSm_askm_55), (303, mjSm_askm_83), (303, mjSm_askm_71), (303, mjSm_askm_63), (303, mjSm_askm_85), (303, mjSm_askm_105), (303, mjSm_askm_65), (303, mjSm_askm_99), (303, mjSm_askm_113), (303, mjSm_askm_77), (303, mjSm_askm_79), (303, mjSm_askm_69), (303, mjSm_askm_95), (303, mjSm_askm_59), (303, mjSm_askm_75), (303, mjSm_askm_91), (303, mjSm_askm_101), (303, mjSm_askm_87), (303, mjSm_askm_73), (303, mjSm_askm_107), (303, mjSm_askm_109), (303, mjSm_askm_97), (303, mjSm_askm_93), (303, mjSm_askm_81), (303, mjSm_askm_111), (303, mjSm_askm_61), (303, mjSm_askm_103), (303, mjSm_askm_67), (303, mjSm_askm_57), (303, mjSm_askm_22)]) (mjEnvC mjC_askm_86 (mjEnvC mjC_askm_66 (mjEnvC mjC_askm_104 (mjEnvC mjC_askm_100 (mjEnvC mjC_askm_114 (mjEnvC mjC_askm_54 (mjEnvC mjC_askm_58 (mjEnvC mjC_askm_96 (mjEnvC mjC_askm_90 (mjEnvC mjC_askm_64 (mjEnvC mjC_askm_72 (mjEnvC mjC_askm_106 (mjEnvC mjC_askm_70 (mjEnvC mjC_askm_78 (mjEnvC mjC_askm_110 (mjEnvC mjC_askm_76 (mjEnvC mjC_askm_80 (mjEnvC mjC_askm_74 (mjEnvC mjC_askm_82 (mjEnvC mjC_askm_60 (mjEnvC mjC_askm_62 (mjEnvC mjC_askm_92 (mjEnvC mjC_askm_102 (mjEnvC mjC_askm_88 (mjEnvC mjC_askm_56 (mjEnvC mjC_askm_108 (mjEnvC mjC_askm_68 (mjEnvC mjC_askm_98 (mjEnvC mjC_askm_112 (mjEnvC mjC_askm_94 (mjEnvC mjC_askm_84 (mjEnvC mjC_askm_89 (mjEnvC mjC_askm_55 (mjEnvC mjC_askm_83 (mjEnvC mjC_askm_71 (mjEnvC mjC_askm_63 (mjEnvC mjC_askm_85 (mjEnvC mjC_askm_105 (mjEnvC mjC_askm_65 (mjEnvC mjC_askm_99 (mjEnvC mjC_askm_113 (mjEnvC mjC_askm_77 (mjEnvC mjC_askm_79 (mjEnvC mjC_askm_69 (mjEnvC mjC_askm_95 (mjEnvC mjC_askm_59 (mjEnvC mjC_askm_75 (mjEnvC mjC_askm_91 (mjEnvC mjC_askm_101 (mjEnvC mjC_askm_87 (mjEnvC mjC_askm_73 (mjEnvC mjC_askm_107 (mjEnvC mjC_askm_109 (mjEnvC mjC_askm_97 (mjEnvC mjC_askm_93 (mjEnvC mjC_askm_81 (mjEnvC mjC_askm_111 (mjEnvC mjC_askm_61 (mjEnvC mjC_askm_103 (mjEnvC mjC_askm_67 (mjEnvC mjC_askm_57 (mjEnvC mjC_askm_22 (fun e he => (by cases he)))))))))))))))))))))))))))))))))))))))))))))))))))))))))))))))) (pr := []) (cuts := []) (n := 1391) (by decide +kernel)
def mjSm_askm_116 : MjSm := ([(3, 240, 240, 0, 0), (0, 0, 24, 0, 0), (0, -2147483648, 2147483647, 0, 0)], [(287, 0, (0, 31, 31, 0, 0))], [((0, 31, 31, 0, 0), [], [(287, 0, (0, 31, 31, 0, 0))])], [(288, 255)], 2)
set_option maxRecDepth 100000 in
theorem mjC_askm_116 : mjCtr (mjSW 240 290 mjWd_askm) 307 mjSm_askm_116 := aiOk_ctr mjUW_ok (env := [(304, mjSm_askm_86), (304, mjSm_askm_66), (304, mjSm_askm_104), (304, mjSm_askm_100), (304, mjSm_askm_114), (304, mjSm_askm_54), (304, mjSm_askm_58), (304, mjSm_askm_96), (304, mjSm_askm_90), (304, mjSm_askm_64), (304, mjSm_askm_72), (304, mjSm_askm_106), (304, mjSm_askm_70), (304, mjSm_askm_78), (304, mjSm_askm_110), (304, mjSm_askm_76), (304, mjSm_askm_80), (304, mjSm_askm_74), (304, mjSm_askm_82), (304, mjSm_askm_60), (304, mjSm_askm_62), (304, mjSm_askm_92), (304, mjSm_askm_102), (304, mjSm_askm_88), (304, mjSm_askm_56), (304, mjSm_askm_108), (304, mjSm_askm_68), (304, mjSm_askm_98), (304, mjSm_askm_112), (304, mjSm_askm_94), (304, mjSm_askm_84), (303, mjSm_askm_89), (303, mjSm_askm_55), (303, mjSm_askm_83), (303, mjSm_askm_71), (303, mjSm_askm_63), (303, mjSm_askm_85), (303, mjSm_askm_105), (303, mjSm_askm_65), (303, mjSm_askm_99), (303, mjSm_askm_113), (303, mjSm_askm_77), (303, mjSm_askm_79), (303, mjSm_askm_69), (303, mjSm_askm_95), (303, mjSm_askm_59), (303, mjSm_askm_75), (303, mjSm_askm_91), (303, mjSm_askm_101), (303, mjSm_askm_87), (303, mjSm_askm_73), (303, mjSm_askm_107), (303, mjSm_askm_109), (303, mjSm_askm_97), (303, mjSm_askm_93), (303, mjSm_askm_81), (303, mjSm_askm_111), (303, mjSm_askm_61), (303, mjSm_askm_103), (303, mjSm_askm_67), (303, mjSm_askm_57), (303, mjSm_askm_22)]) (mjEnvC mjC_askm_86 (mjEnvC mjC_askm_66 (mjEnvC mjC_askm_104 (mjEnvC mjC_askm_100 (mjEnvC mjC_askm_114 (mjEnvC mjC_askm_54 (mjEnvC mjC_askm_58 (mjEnvC mjC_askm_96 (mjEnvC mjC_askm_90 (mjEnvC mjC_askm_64 (mjEnvC mjC_askm_72 (mjEnvC mjC_askm_106 (mjEnvC mjC_askm_70 (mjEnvC mjC_askm_78 (mjEnvC mjC_askm_110 (mjEnvC mjC_askm_76 (mjEnvC mjC_askm_80 (mjEnvC mjC_askm_74 (mjEnvC mjC_askm_82 (mjEnvC mjC_askm_60 (mjEnvC mjC_askm_62 (mjEnvC mjC_askm_92 (mjEnvC mjC_askm_102 (mjEnvC mjC_askm_88 (mjEnvC mjC_askm_56 (mjEnvC mjC_askm_108 (mjEnvC mjC_askm_68 (mjEnvC mjC_askm_98 (mjEnvC mjC_askm_112 (mjEnvC mjC_askm_94 (mjEnvC mjC_askm_84 (mjEnvC mjC_askm_89 (mjEnvC mjC_askm_55 (mjEnvC mjC_askm_83 (mjEnvC mjC_askm_71 (mjEnvC mjC_askm_63 (mjEnvC mjC_askm_85 (mjEnvC mjC_askm_105 (mjEnvC mjC_askm_65 (mjEnvC mjC_askm_99 (mjEnvC mjC_askm_113 (mjEnvC mjC_askm_77 (mjEnvC mjC_askm_79 (mjEnvC mjC_askm_69 (mjEnvC mjC_askm_95 (mjEnvC mjC_askm_59 (mjEnvC mjC_askm_75 (mjEnvC mjC_askm_91 (mjEnvC mjC_askm_101 (mjEnvC mjC_askm_87 (mjEnvC mjC_askm_73 (mjEnvC mjC_askm_107 (mjEnvC mjC_askm_109 (mjEnvC mjC_askm_97 (mjEnvC mjC_askm_93 (mjEnvC mjC_askm_81 (mjEnvC mjC_askm_111 (mjEnvC mjC_askm_61 (mjEnvC mjC_askm_103 (mjEnvC mjC_askm_67 (mjEnvC mjC_askm_57 (mjEnvC mjC_askm_22 (fun e he => (by cases he)))))))))))))))))))))))))))))))))))))))))))))))))))))))))))))))) (pr := []) (cuts := []) (n := 1391) (by decide +kernel)
def mjSm_askm_117 : MjSm := ([(3, 240, 240, 0, 0), (0, -2147483648, 2147483647, 0, 0), (0, -2147483648, 2147483647, 0, 0)], [(240, 57, (0, 0, 0, 0, 0)), (287, 0, (0, 0, 0, 0, 0))], [((0, -1, -1, 0, 0), [(1, -2147483648, -1)], [(240, 57, (0, 0, 0, 0, 0)), (287, 0, (0, 0, 0, 0, 0))]), ((0, -1, -1, 0, 0), [(1, 2, 2147483647)], [(240, 57, (0, 0, 0, 0, 0)), (287, 0, (0, 0, 0, 0, 0))]), ((0, 0, 0, 0, 0), [(1, 0, 0)], [(287, 0, (0, 31, 31, 0, 0))]), ((0, 31, 31, 0, 0), [(1, 1, 1)], [(287, 0, (0, 31, 31, 0, 0))])], [(241, 49), (241, 50), (241, 51), (241, 56), (241, 57), (241, 58), (275, 255), (276, 255), (277, 255), (282, 255), (288, 255)], 8)
set_option maxRecDepth 100000 in
theorem mjC_askm_117 : mjCtr (mjSW 240 290 mjWd_askm) 306 mjSm_askm_117 := aiOk_ctr mjUW_ok (env := [(301, mjSm_askm_53), (221, mjSm_askm_0), (307, mjSm_askm_116), (307, mjSm_askm_115)]) (mjEnvC mjC_askm_53 (mjEnvC mjC_askm_0 (mjEnvC mjC_askm_116 (mjEnvC mjC_askm_115 (fun e he => (by cases he)))))) (pr := [1]) (cuts := []) (n := 362) (by decide +kernel)
