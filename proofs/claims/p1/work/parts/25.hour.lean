def mjWd_hourx : MjWd := [(18, 1, (0, 0, 1)), (18, 2, (0, 0, 1)), (24, 6, (0, -2147483648, 2147483647)), (24, 7, (0, 0, 999)), (25, 255, (0, 0, 99)), (209, 3, (6, 0, 0)), (209, 7, (0, -2147483648, 2147483647)), (209, 8, (0, 0, 3)), (209, 9, (0, -2147483648, 2147483647)), (214, 255, (0, -2147483648, 2147483647)), (216, 255, (0, -2147483648, 2147483647)), (217, 255, (0, 0, 2147483647))]
theorem mjWd_hourx_ok : mjWdB mjWd_hourx = true := by decide +kernel
def mjSm_hourx_0 : MjSm := ([(3, 18, 18, 0, 0)], [(18, 1, (0, 0, 0, 0, 0))], [((3, 20, 20, 0, 0), [], [])], [], 1)
set_option maxRecDepth 100000 in
theorem mjC_hourx_0 : mjCtr (mjSW 0 240 mjWd_hourx) 70 mjSm_hourx_0 := aiOk_ctr mjUW_ok (env := []) (fun e he => (by cases he)) (pr := []) (cuts := []) (n := 9) (by decide +kernel)
def mjSm_hourx_1 : MjSm := ([(3, 24, 24, 0, 0), (3, 20, 20, 0, 0)], [], [((7, 0, 0, 0, 0), [], [])], [(25, 3), (25, 4), (25, 5), (25, 6), (25, 7), (26, 255), (27, 255), (28, 255)], 1)
set_option maxRecDepth 100000 in
theorem mjC_hourx_1 : mjCtr (mjSW 0 240 mjWd_hourx) 64 mjSm_hourx_1 := aiOk_ctr mjUW_ok (env := []) (fun e he => (by cases he)) (pr := []) (cuts := []) (n := 48) (by decide +kernel)
def mjSm_hourx_2 : MjSm := ([(3, 18, 18, 0, 0)], [(18, 1, (0, 0, 0, 0, 0)), (18, 2, (0, 0, 0, 0, 0))], [((3, 24, 24, 0, 0), [], [(18, 1, (0, 1, 1, 0, 0)), (18, 2, (0, 1, 1, 0, 0))])], [(19, 1), (19, 2), (19, 3), (25, 3), (25, 4), (25, 5), (25, 6), (25, 7), (26, 255), (27, 255), (28, 255)], 2)
set_option maxRecDepth 100000 in
theorem mjC_hourx_2 : mjCtr (mjSW 0 240 mjWd_hourx) 87 mjSm_hourx_2 := aiOk_ctr mjUW_ok (env := [(64, mjSm_hourx_1)]) (mjEnvC mjC_hourx_1 (fun e he => (by cases he))) (pr := []) (cuts := []) (n := 43) (by decide +kernel)
def mjSm_hourx_3 : MjSm := ([(3, 216, 216, 0, 0), (0, 0, 0, 0, 0)], [], [((7, 0, 0, 0, 0), [], [])], [(217, 255)], 1)
set_option maxRecDepth 100000 in
theorem mjC_hourx_3 : mjCtr (mjSW 0 240 mjWd_hourx) 6 mjSm_hourx_3 := aiOk_ctr mjUW_ok (env := []) (fun e he => (by cases he)) (pr := []) (cuts := [(5, ([(3, 216, 216, 0, 0), (0, 0, 0, 0, 0), (0, 0, 6, 0, 0), (0, 6, 6, 0, 0)], [], []), [(0, 0, 49995), (1, 2, 2147483647), (0, 0, 60000), (0, 0, 0), (0, 0, 0), (0, 0, 0), (0, 0, 0), (0, 0, 0)])]) (n := 12) (by decide +kernel)
def mjSm_hourx_4 : MjSm := ([(3, 217, 217, 0, 0), (0, 0, 0, 0, 0)], [], [((7, 0, 0, 0, 0), [], [])], [(218, 255)], 1)
set_option maxRecDepth 100000 in
theorem mjC_hourx_4 : mjCtr (mjSW 0 240 mjWd_hourx) 6 mjSm_hourx_4 := aiOk_ctr mjUW_ok (env := []) (fun e he => (by cases he)) (pr := []) (cuts := [(5, ([(3, 217, 217, 0, 0), (0, 0, 0, 0, 0), (0, 0, 6, 0, 0), (0, 6, 6, 0, 0)], [], []), [(0, 0, 49995), (1, 2, 2147483647), (0, 0, 60000), (0, 0, 0), (0, 0, 0), (0, 0, 0), (0, 0, 0), (0, 0, 0)])]) (n := 12) (by decide +kernel)
def mjSm_hourx_5 : MjSm := ([(3, 215, 215, 0, 0), (0, 0, 0, 0, 0)], [], [((7, 0, 0, 0, 0), [], [])], [(216, 255)], 1)
set_option maxRecDepth 100000 in
theorem mjC_hourx_5 : mjCtr (mjSW 0 240 mjWd_hourx) 6 mjSm_hourx_5 := aiOk_ctr mjUW_ok (env := []) (fun e he => (by cases he)) (pr := []) (cuts := [(5, ([(3, 215, 215, 0, 0), (0, 0, 0, 0, 0), (0, 0, 6, 0, 0), (0, 6, 6, 0, 0)], [], []), [(0, 0, 49995), (1, 2, 2147483647), (0, 0, 60000), (0, 0, 0), (0, 0, 0), (0, 0, 0), (0, 0, 0), (0, 0, 0)])]) (n := 12) (by decide +kernel)
def mjSm_hourx_6 : MjSm := ([(3, 193, 193, 0, 0), (3, 24, 24, 0, 0), (0, -2147483648, 2147483647, 0, 0)], [], [((0, 0, 0, 0, 0), [], [])], [], 1)
set_option maxRecDepth 100000 in
theorem mjC_hourx_6 : mjCtr (mjSW 0 240 mjWd_hourx) 75 mjSm_hourx_6 := aiOk_ctr mjUW_ok (env := []) (fun e he => (by cases he)) (pr := []) (cuts := [(5, ([(3, 193, 193, 0, 0), (3, 24, 24, 0, 0), (0, -2147483648, 2147483647, 0, 0), (0, 0, 0, 0, 0), (0, 0, 0, 0, 0), (9, 0, 0, 0, 0)], [], []), [(0, 0, 49995), (1, 4, 2147483647), (0, 0, 60000), (0, 0, 0), (0, 0, 0), (0, 0, 0), (0, 0, 0), (0, 0, 0)])]) (n := 9) (by decide +kernel)
def mjSm_hourx_7 : MjSm := ([(3, 209, 209, 0, 0)], [(209, 3, (3, 24, 24, 0, 0))], [((7, 0, 0, 0, 0), [], [])], [(216, 255)], 2)
set_option maxRecDepth 100000 in
theorem mjC_hourx_7 : mjCtr (mjSW 0 240 mjWd_hourx) 74 mjSm_hourx_7 := aiOk_ctr mjUW_ok (env := [(6, mjSm_hourx_5), (75, mjSm_hourx_6)]) (mjEnvC mjC_hourx_5 (mjEnvC mjC_hourx_6 (fun e he => (by cases he)))) (pr := []) (cuts := [(32, ([(3, 209, 209, 0, 0), (0, 0, 0, 0, 0), (0, 0, 0, 0, 0)], [], [(209, 3, (3, 24, 24, 0, 0))]), [(0, 0, 49968), (1, 2, 2147483647), (0, 0, 60000), (0, 0, 0), (0, 0, 0), (0, 0, 0), (0, 0, 0), (0, 0, 0)])]) (n := 20) (by decide +kernel)
def mjSm_hourx_8 : MjSm := ([(3, 209, 209, 0, 0), (3, 193, 193, 0, 0), (3, 24, 24, 0, 0)], [(209, 3, (3, 210, 210, 0, 0))], [((7, 0, 0, 0, 0), [], [(209, 3, (3, 24, 24, 0, 0))])], [(210, 2), (210, 3), (210, 7), (216, 255), (217, 255), (218, 255)], 3)
set_option maxRecDepth 100000 in
theorem mjC_hourx_8 : mjCtr (mjSW 0 240 mjWd_hourx) 73 mjSm_hourx_8 := aiOk_ctr mjUW_ok (env := [(74, mjSm_hourx_7), (6, mjSm_hourx_4), (6, mjSm_hourx_3)]) (mjEnvC mjC_hourx_7 (mjEnvC mjC_hourx_4 (mjEnvC mjC_hourx_3 (fun e he => (by cases he))))) (pr := []) (cuts := []) (n := 23) (by decide +kernel)
def mjSm_hourx_9 : MjSm := ([(0, 0, 3, 0, 0), (0, 0, 2, 0, 0)], [], [((0, 0, 17, 0, 0), [], [])], [], 1)
set_option maxRecDepth 100000 in
theorem mjC_hourx_9 : mjCtr (mjSW 0 240 mjWd_hourx) 48 mjSm_hourx_9 := aiOk_ctr mjUW_ok (env := []) (fun e he => (by cases he)) (pr := []) (cuts := []) (n := 9) (by decide +kernel)
def mjSm_hourx_10 : MjSm := ([(3, 209, 209, 0, 0), (0, 0, 17, 0, 0), (0, 1, 1, 0, 0)], [(209, 3, (3, 24, 24, 0, 0))], [((7, 0, 0, 0, 0), [], [])], [(26, 255)], 1)
set_option maxRecDepth 100000 in
theorem mjC_hourx_10 : mjCtr (mjSW 0 240 mjWd_hourx) 89 mjSm_hourx_10 := aiOk_ctr mjUW_ok (env := []) (fun e he => (by cases he)) (pr := []) (cuts := []) (n := 18) (by decide +kernel)
def mjSm_hourx_11 : MjSm := ([(3, 201, 201, 0, 0), (3, 214, 214, 0, 0)], [], [((0, -2147483648, 2147483647, 0, 0), [], [])], [], 1)
set_option maxRecDepth 100000 in
theorem mjC_hourx_11 : mjCtr (mjSW 0 240 mjWd_hourx) 77 mjSm_hourx_11 := aiOk_ctr mjUW_ok (env := []) (fun e he => (by cases he)) (pr := []) (cuts := []) (n := 20) (by decide +kernel)
def mjSm_hourx_12 : MjSm := ([(3, 193, 193, 0, 0), (0, 0, 3, 0, 0)], [], [((0, 1, 1, 0, 0), [], [])], [], 1)
set_option maxRecDepth 100000 in
theorem mjC_hourx_12 : mjCtr (mjSW 0 240 mjWd_hourx) 69 mjSm_hourx_12 := aiOk_ctr mjUW_ok (env := []) (fun e he => (by cases he)) (pr := []) (cuts := []) (n := 15) (by decide +kernel)
def mjSm_hourx_13 : MjSm := ([(0, 0, 3, 0, 0), (0, 1, 2, 0, 0)], [], [((0, 1, 17, 0, 0), [], [])], [], 1)
set_option maxRecDepth 100000 in
theorem mjC_hourx_13 : mjCtr (mjSW 0 240 mjWd_hourx) 48 mjSm_hourx_13 := aiOk_ctr mjUW_ok (env := []) (fun e he => (by cases he)) (pr := []) (cuts := []) (n := 9) (by decide +kernel)
def mjSm_hourx_14 : MjSm := ([(3, 209, 209, 0, 0), (0, 1, 17, 0, 0), (0, 1, 1, 0, 0)], [(209, 3, (3, 24, 24, 0, 0))], [((7, 0, 0, 0, 0), [], [])], [(26, 255), (210, 9)], 1)
set_option maxRecDepth 100000 in
theorem mjC_hourx_14 : mjCtr (mjSW 0 240 mjWd_hourx) 92 mjSm_hourx_14 := aiOk_ctr mjUW_ok (env := []) (fun e he => (by cases he)) (pr := []) (cuts := []) (n := 22) (by decide +kernel)
def mjSm_hourx_15 : MjSm := ([(0, 0, 3, 0, 0), (0, 0, 1, 0, 0)], [], [((0, 0, 16, 0, 0), [], [])], [], 1)
set_option maxRecDepth 100000 in
theorem mjC_hourx_15 : mjCtr (mjSW 0 240 mjWd_hourx) 48 mjSm_hourx_15 := aiOk_ctr mjUW_ok (env := []) (fun e he => (by cases he)) (pr := []) (cuts := []) (n := 9) (by decide +kernel)
def mjSm_hourx_16 : MjSm := ([(3, 209, 209, 0, 0), (0, 0, 16, 0, 0), (0, 1, 1, 0, 0)], [(209, 3, (3, 24, 24, 0, 0))], [((7, 0, 0, 0, 0), [], [])], [(26, 255), (210, 9)], 1)
set_option maxRecDepth 100000 in
theorem mjC_hourx_16 : mjCtr (mjSW 0 240 mjWd_hourx) 92 mjSm_hourx_16 := aiOk_ctr mjUW_ok (env := []) (fun e he => (by cases he)) (pr := []) (cuts := []) (n := 22) (by decide +kernel)
def mjSm_hourx_17 : MjSm := ([(3, 209, 209, 0, 0), (0, 0, 3, 0, 0), (0, 0, 1, 0, 0), (0, 1, 1, 0, 0)], [(209, 3, (3, 24, 24, 0, 0))], [((7, 0, 0, 0, 0), [], [])], [(26, 255), (210, 8), (210, 9)], 2)
set_option maxRecDepth 100000 in
theorem mjC_hourx_17 : mjCtr (mjSW 0 240 mjWd_hourx) 91 mjSm_hourx_17 := aiOk_ctr mjUW_ok (env := [(92, mjSm_hourx_14), (92, mjSm_hourx_16), (69, mjSm_hourx_12), (48, mjSm_hourx_15), (48, mjSm_hourx_13)]) (mjEnvC mjC_hourx_14 (mjEnvC mjC_hourx_16 (mjEnvC mjC_hourx_12 (mjEnvC mjC_hourx_15 (mjEnvC mjC_hourx_13 (fun e he => (by cases he))))))) (pr := []) (cuts := [(25, ([(3, 209, 209, 0, 0), (0, 0, 3, 0, 0), (0, 0, 1, 0, 0), (0, 1, 1, 0, 0), (0, 1, 3, 0, 0), (9, 0, 0, 0, 0)], [], [(209, 3, (3, 24, 24, 0, 0))]), [(0, 0, 49975), (1, 4, 2147483647), (0, 0, 60000), (0, 0, 0), (0, 0, 0), (0, 0, 0), (0, 0, 0), (0, 0, 0)])]) (n := 43) (by decide +kernel)
def mjSm_hourx_18 : MjSm := ([(3, 209, 209, 0, 0), (0, 0, 3, 0, 0), (0, 0, 1, 0, 0)], [(209, 3, (3, 24, 24, 0, 0))], [((7, 0, 0, 0, 0), [], [])], [(26, 255), (210, 7), (210, 8), (210, 9), (217, 255), (218, 255)], 3)
set_option maxRecDepth 100000 in
theorem mjC_hourx_18 : mjCtr (mjSW 0 240 mjWd_hourx) 90 mjSm_hourx_18 := aiOk_ctr mjUW_ok (env := [(91, mjSm_hourx_17)]) (mjEnvC mjC_hourx_17 (fun e he => (by cases he))) (pr := []) (cuts := [(78, ([(3, 209, 209, 0, 0), (0, 0, 3, 0, 0), (0, 0, 1, 0, 0), (0, 0, 0, 0, 0), (0, 0, 0, 0, 0)], [], [(209, 3, (3, 24, 24, 0, 0))]), [(0, 0, 49922), (1, 4, 2147483647), (0, 0, 60000), (0, 0, 0), (0, 0, 0), (0, 0, 0), (0, 0, 0), (0, 0, 0)])]) (n := 47) (by decide +kernel)
def mjSm_hourx_19 : MjSm := ([(3, 209, 209, 0, 0), (0, 0, 3, 0, 0), (0, 0, 2, 0, 0), (0, 0, 0, 0, 0)], [(209, 3, (3, 24, 24, 0, 0))], [((0, 0, 0, 0, 0), [], []), ((0, 1, 1, 0, 0), [(2, 0, 1)], []), ((0, 0, 0, 0, 0), [(2, 0, 1)], []), ((0, 1, 1, 0, 0), [(2, 2, 2)], []), ((0, 0, 0, 0, 0), [(2, 2, 2)], [])], [(215, 255)], 2)
set_option maxRecDepth 100000 in
theorem mjC_hourx_19 : mjCtr (mjSW 0 240 mjWd_hourx) 76 mjSm_hourx_19 := aiOk_ctr mjUW_ok (env := [(77, mjSm_hourx_11), (48, mjSm_hourx_9)]) (mjEnvC mjC_hourx_11 (mjEnvC mjC_hourx_9 (fun e he => (by cases he)))) (pr := [2]) (cuts := []) (n := 80) (by decide +kernel)
def mjSm_hourx_20 : MjSm := ([(0, 0, 3, 0, 0), (0, 2, 2, 0, 0)], [], [((0, 2, 17, 0, 0), [], [])], [], 1)
set_option maxRecDepth 100000 in
theorem mjC_hourx_20 : mjCtr (mjSW 0 240 mjWd_hourx) 48 mjSm_hourx_20 := aiOk_ctr mjUW_ok (env := []) (fun e he => (by cases he)) (pr := []) (cuts := []) (n := 9) (by decide +kernel)
def mjSm_hourx_21 : MjSm := ([(3, 209, 209, 0, 0), (0, 2, 17, 0, 0), (0, 1, 1, 0, 0)], [(209, 3, (3, 24, 24, 0, 0))], [((7, 0, 0, 0, 0), [], [])], [(26, 255), (210, 9)], 1)
set_option maxRecDepth 100000 in
theorem mjC_hourx_21 : mjCtr (mjSW 0 240 mjWd_hourx) 92 mjSm_hourx_21 := aiOk_ctr mjUW_ok (env := []) (fun e he => (by cases he)) (pr := []) (cuts := []) (n := 22) (by decide +kernel)
def mjSm_hourx_22 : MjSm := ([(3, 209, 209, 0, 0), (0, 0, 3, 0, 0), (0, 2, 2, 0, 0), (0, 1, 1, 0, 0)], [(209, 3, (3, 24, 24, 0, 0))], [((7, 0, 0, 0, 0), [], [])], [(26, 255), (210, 8), (210, 9)], 2)
set_option maxRecDepth 100000 in
theorem mjC_hourx_22 : mjCtr (mjSW 0 240 mjWd_hourx) 91 mjSm_hourx_22 := aiOk_ctr mjUW_ok (env := [(92, mjSm_hourx_21), (48, mjSm_hourx_20)]) (mjEnvC mjC_hourx_21 (mjEnvC mjC_hourx_20 (fun e he => (by cases he)))) (pr := []) (cuts := [(25, ([(3, 209, 209, 0, 0), (0, 0, 3, 0, 0), (0, 2, 2, 0, 0), (0, 1, 1, 0, 0), (0, 3, 3, 0, 0), (9, 0, 0, 0, 0)], [], [(209, 3, (3, 24, 24, 0, 0))]), [(0, 0, 49975), (1, 4, 2147483647), (0, 0, 60000), (0, 0, 0), (0, 0, 0), (0, 0, 0), (0, 0, 0), (0, 0, 0)])]) (n := 19) (by decide +kernel)
def mjSm_hourx_23 : MjSm := ([(3, 209, 209, 0, 0), (0, 0, 3, 0, 0), (0, 2, 2, 0, 0)], [(209, 3, (3, 24, 24, 0, 0))], [((7, 0, 0, 0, 0), [], [])], [(26, 255), (210, 7), (210, 8), (210, 9), (217, 255), (218, 255)], 3)
set_option maxRecDepth 100000 in
theorem mjC_hourx_23 : mjCtr (mjSW 0 240 mjWd_hourx) 90 mjSm_hourx_23 := aiOk_ctr mjUW_ok (env := [(91, mjSm_hourx_22)]) (mjEnvC mjC_hourx_22 (fun e he => (by cases he))) (pr := []) (cuts := [(78, ([(3, 209, 209, 0, 0), (0, 0, 3, 0, 0), (0, 2, 2, 0, 0), (0, 0, 0, 0, 0), (0, 0, 0, 0, 0)], [], [(209, 3, (3, 24, 24, 0, 0))]), [(0, 0, 49922), (1, 4, 2147483647), (0, 0, 60000), (0, 0, 0), (0, 0, 0), (0, 0, 0), (0, 0, 0), (0, 0, 0)])]) (n := 47) (by decide +kernel)
def mjSm_hourx_24 : MjSm := ([(3, 209, 209, 0, 0), (0, -1, -1, 0, 0)], [], [((0, 0, 0, 0, 0), [], [])], [], 1)
set_option maxRecDepth 100000 in
theorem mjC_hourx_24 : mjCtr (mjSW 0 240 mjWd_hourx) 94 mjSm_hourx_24 := aiOk_ctr mjUW_ok (env := []) (fun e he => (by cases he)) (pr := []) (cuts := [(4, ([(3, 209, 209, 0, 0), (0, -1, -1, 0, 0), (0, 0, 0, 0, 0), (0, 0, 0, 0, 0)], [], []), [(0, 0, 49996), (1, 3, 2147483647), (0, 0, 60000), (0, 0, 0), (0, 0, 0), (0, 0, 0), (0, 0, 0), (0, 0, 0)])]) (n := 10) (by decide +kernel)
def mjSm_hourx_25 : MjSm := ([(3, 209, 209, 0, 0)], [(209, 3, (3, 24, 24, 0, 0))], [((0, 0, 0, 0, 0), [], [])], [], 2)
set_option maxRecDepth 100000 in
theorem mjC_hourx_25 : mjCtr (mjSW 0 240 mjWd_hourx) 93 mjSm_hourx_25 := aiOk_ctr mjUW_ok (env := [(94, mjSm_hourx_24)]) (mjEnvC mjC_hourx_24 (fun e he => (by cases he))) (pr := []) (cuts := []) (n := 11) (by decide +kernel)
def mjSm_hourx_26 : MjSm := ([(3, 209, 209, 0, 0), (0, 1, 1, 0, 0), (0, 1, 1, 0, 0)], [(209, 3, (3, 24, 24, 0, 0)), (209, 8, (0, 0, 0, 0, 0))], [((7, 0, 0, 0, 0), [], [])], [(25, 5), (25, 6), (25, 7), (26, 255), (210, 7), (210, 8), (210, 9), (215, 255), (216, 255), (217, 255), (218, 255)], 4)
set_option maxRecDepth 100000 in
theorem mjC_hourx_26 : mjCtr (mjSW 0 240 mjWd_hourx) 88 mjSm_hourx_26 := aiOk_ctr mjUW_ok (env := [(74, mjSm_hourx_7), (93, mjSm_hourx_25), (90, mjSm_hourx_23), (90, mjSm_hourx_18), (76, mjSm_hourx_19), (89, mjSm_hourx_10), (48, mjSm_hourx_9)]) (mjEnvC mjC_hourx_7 (mjEnvC mjC_hourx_25 (mjEnvC mjC_hourx_23 (mjEnvC mjC_hourx_18 (mjEnvC mjC_hourx_19 (mjEnvC mjC_hourx_10 (mjEnvC mjC_hourx_9 (fun e he => (by cases he))))))))) (pr := []) (cuts := [(2, ([(3, 209, 209, 0, 0), (0, 1, 1, 0, 0), (0, 1, 1, 0, 0), (0, 0, 4, 0, 0), (9, 0, 0, 0, 0)], [], [(209, 3, (3, 24, 24, 0, 0)), (209, 8, (0, 0, 0, 0, 0))]), [(0, 0, 49998), (1, 3, 2147483647), (0, 0, 60000), (0, 0, 0), (0, 0, 0), (0, 0, 0), (0, 0, 0), (0, 0, 0)]), (16, ([(3, 209, 209, 0, 0), (0, 1, 1, 0, 0), (0, 1, 1, 0, 0), (0, 0, 3, 0, 0), (0, 0, 3, 0, 0)], [], [(209, 3, (3, 24, 24, 0, 0)), (209, 8, (0, 0, 0, 0, 0))]), [(0, 0, 49998), (1, 3, 2147483647), (0, 0, 49984), (1, 4, 2147483647), (0, 0, 60000), (0, 0, 0), (0, 0, 0), (0, 0, 0)]), (140, ([(3, 209, 209, 0, 0), (0, 1, 1, 0, 0), (0, 1, 1, 0, 0), (0, 0, 3, 0, 0), (9, 0, 0, 0, 0)], [], [(209, 3, (3, 24, 24, 0, 0))]), [(0, 0, 49860), (1, 3, 2147483647), (0, 0, 60000), (0, 0, 0), (0, 0, 0), (0, 0, 0), (0, 0, 0), (0, 0, 0)]), (154, ([(3, 209, 209, 0, 0), (0, 1, 1, 0, 0), (0, 1, 1, 0, 0), (0, 0, 2, 0, 0), (0, 0, 4, 0, 0)], [], [(209, 3, (3, 24, 24, 0, 0))]), [(0, 0, 49860), (1, 3, 2147483647), (0, 0, 49846), (1, 4, 2147483647), (0, 0, 60000), (0, 0, 0), (0, 0, 0), (0, 0, 0)])]) (n := 35) (by decide +kernel)
def mjSm_hourx_27 : MjSm := ([(3, 0, 0, 0, 0)], [(18, 1, (0, 0, 0, 0, 0)), (18, 2, (0, 0, 0, 0, 0)), (209, 3, (3, 210, 210, 0, 0)), (209, 8, (0, 0, 0, 0, 0))], [((0, 0, 0, 0, 0), [], [(18, 1, (0, 1, 1, 0, 0)), (18, 2, (0, 1, 1, 0, 0)), (209, 3, (3, 24, 24, 0, 0))])], [(19, 1), (19, 2), (19, 3), (25, 3), (25, 4), (25, 5), (25, 6), (25, 7), (26, 255), (27, 255), (28, 255), (210, 2), (210, 3), (210, 7), (210, 8), (210, 9), (215, 255), (216, 255), (217, 255), (218, 255)], 5)
set_option maxRecDepth 100000 in
theorem mjC_hourx_27 : mjCtr (mjSW 0 240 mjWd_hourx) 86 mjSm_hourx_27 := aiOk_ctr mjUW_ok (env := [(87, mjSm_hourx_2), (88, mjSm_hourx_26), (73, mjSm_hourx_8), (70, mjSm_hourx_0)]) (mjEnvC mjC_hourx_2 (mjEnvC mjC_hourx_26 (mjEnvC mjC_hourx_8 (mjEnvC mjC_hourx_0 (fun e he => (by cases he)))))) (pr := []) (cuts := []) (n := 36) (by decide +kernel)
def mjWd_hourm : MjWd := [(240, 49, (0, 0, 3)), (240, 50, (0, 0, 2)), (240, 56, (0, -2147483648, 2147483647)), (240, 57, (0, 0, 3)), (240, 58, (0, -2147483648, 2147483647)), (240, 60, (0, 0, 1)), (274, 0, (0, 0, 99)), (274, 1, (0, 0, 99)), (274, 2, (0, 0, 99)), (274, 3, (0, 0, 99)), (274, 4, (0, 0, 99)), (274, 5, (0, 0, 99)), (274, 6, (0, 0, 99)), (274, 7, (0, 0, 99)), (274, 8, (0, 0, 99)), (274, 9, (0, 0, 99)), (274, 10, (0, 0, 99)), (274, 11, (0, 0, 99)), (274, 12, (0, 0, 99)), (274, 13, (0, 0, 99)), (274, 14, (0, 0, 99)), (274, 15, (0, 0, 99)), (274, 16, (0, 0, 99)), (274, 17, (0, 0, 99)), (274, 68, (0, 0, 1)), (274, 69, (0, 0, 999)), (276, 255, (0, -2147483648, 2147483647)), (277, 255, (0, 0, 999))]
theorem mjWd_hourm_ok : mjWdB mjWd_hourm = true := by decide +kernel
def mjSm_hourm_0 : MjSm := ([(3, 240, 240, 0, 0)], [(240, 60, (0, 0, 0, 0, 0)), (274, 68, (0, 0, 0, 0, 0))], [((7, 0, 0, 0, 0), [], [(240, 60, (0, 1, 1, 0, 0))])], [(241, 60), (241, 61), (278, 255)], 1)
set_option maxRecDepth 100000 in
theorem mjC_hourm_0 : mjCtr (mjSW 240 290 mjWd_hourm) 246 mjSm_hourm_0 := aiOk_ctr mjUW_ok (env := []) (fun e he => (by cases he)) (pr := []) (cuts := [(51, ([(3, 240, 240, 0, 0), (0, 0, 70, 0, 0)], [], [(240, 60, (0, 0, 0, 0, 0)), (274, 68, (0, 0, 0, 0, 0))]), [(0, 0, 49949), (1, 1, 2147483647), (0, 0, 60000), (0, 0, 0), (0, 0, 0), (0, 0, 0), (0, 0, 0), (0, 0, 0)])]) (n := 21) (by decide +kernel)
def mjSm_hourm_1 : MjSm := ([(3, 240, 240, 0, 0)], [(274, 68, (0, 0, 0, 0, 0))], [((0, 4, 4, 0, 0), [], [])], [], 1)
set_option maxRecDepth 100000 in
theorem mjC_hourm_1 : mjCtr (mjSW 240 290 mjWd_hourm) 220 mjSm_hourm_1 := aiOk_ctr mjUW_ok (env := []) (fun e he => (by cases he)) (pr := []) (cuts := []) (n := 9) (by decide +kernel)
def mjSm_hourm_2 : MjSm := ([(3, 240, 240, 0, 0)], [(274, 68, (0, 0, 0, 0, 0))], [((0, 3, 3, 0, 0), [], [])], [], 1)
set_option maxRecDepth 100000 in
theorem mjC_hourm_2 : mjCtr (mjSW 240 290 mjWd_hourm) 222 mjSm_hourm_2 := aiOk_ctr mjUW_ok (env := []) (fun e he => (by cases he)) (pr := []) (cuts := []) (n := 9) (by decide +kernel)
def mjSm_hourm_3 : MjSm := ([(0, 1, 100, 0, 0), (0, 0, 0, 0, 0), (0, 99, 99, 0, 0)], [(274, 68, (0, 0, 0, 0, 0))], [((0, 99, 99, 0, 0), [(0, 100, 100)], []), ((0, 1, 99, 0, 0), [(0, 1, 99)], [])], [], 1)
set_option maxRecDepth 100000 in
theorem mjC_hourm_3 : mjCtr (mjSW 240 290 mjWd_hourm) 249 mjSm_hourm_3 := aiOk_ctr mjUW_ok (env := []) (fun e he => (by cases he)) (pr := [0]) (cuts := []) (n := 12) (by decide +kernel)
def mjSm_hourm_4 : MjSm := ([(3, 240, 240, 0, 0), (0, 0, 3, 0, 0), (0, 0, 2, 0, 0)], [(274, 68, (0, 0, 0, 0, 0))], [((0, 0, 99, 0, 0), [], [])], [], 1)
set_option maxRecDepth 100000 in
theorem mjC_hourm_4 : mjCtr (mjSW 240 290 mjWd_hourm) 223 mjSm_hourm_4 := aiOk_ctr mjUW_ok (env := []) (fun e he => (by cases he)) (pr := []) (cuts := []) (n := 14) (by decide +kernel)
def mjSm_hourm_5 : MjSm := ([(3, 240, 240, 0, 0), (0, 0, 3, 0, 0), (0, 0, 2, 0, 0), (0, 1, 1, 0, 0)], [(274, 68, (0, 0, 0, 0, 0))], [((7, 0, 0, 0, 0), [], [(274, 68, (0, 0, 0, 0, 0))])], [(275, 255)], 2)
set_option maxRecDepth 100000 in
theorem mjC_hourm_5 : mjCtr (mjSW 240 290 mjWd_hourm) 248 mjSm_hourm_5 := aiOk_ctr mjUW_ok (env := [(223, mjSm_hourm_4), (249, mjSm_hourm_3)]) (mjEnvC mjC_hourm_4 (mjEnvC mjC_hourm_3 (fun e he => (by cases he)))) (pr := []) (cuts := []) (n := 23) (by decide +kernel)
def mjSm_hourm_6 : MjSm := ([(0, 0, 0, 0, 0), (0, 2, 2, 0, 0)], [(274, 68, (0, 0, 0, 0, 0))], [((0, 0, 0, 0, 0), [], [])], [], 1)
set_option maxRecDepth 100000 in
theorem mjC_hourm_6 : mjCtr (mjSW 240 290 mjWd_hourm) 191 mjSm_hourm_6 := aiOk_ctr mjUW_ok (env := []) (fun e he => (by cases he)) (pr := []) (cuts := []) (n := 12) (by decide +kernel)
def mjSm_hourm_7 : MjSm := ([(3, 240, 240, 0, 0)], [(274, 68, (0, 0, 0, 0, 0))], [((0, 0, 0, 0, 0), [], [])], [], 1)
set_option maxRecDepth 100000 in
theorem mjC_hourm_7 : mjCtr (mjSW 240 290 mjWd_hourm) 179 mjSm_hourm_7 := aiOk_ctr mjUW_ok (env := []) (fun e he => (by cases he)) (pr := []) (cuts := []) (n := 9) (by decide +kernel)
def mjSm_hourm_8 : MjSm := ([(3, 240, 240, 0, 0), (0, 0, 3, 0, 0)], [(274, 68, (0, 0, 0, 0, 0))], [((0, 0, 0, 0, 0), [], [])], [], 1)
set_option maxRecDepth 100000 in
theorem mjC_hourm_8 : mjCtr (mjSW 240 290 mjWd_hourm) 226 mjSm_hourm_8 := aiOk_ctr mjUW_ok (env := []) (fun e he => (by cases he)) (pr := []) (cuts := [(4, ([(3, 240, 240, 0, 0), (0, 0, 3, 0, 0), (0, 0, 0, 0, 0), (0, 0, 0, 0, 0)], [], [(274, 68, (0, 0, 0, 0, 0))]), [(0, 0, 49996), (1, 3, 2147483647), (0, 0, 60000), (0, 0, 0), (0, 0, 0), (0, 0, 0), (0, 0, 0), (0, 0, 0)])]) (n := 12) (by decide +kernel)
def mjSm_hourm_9 : MjSm := ([(0, 0, 3, 0, 0), (0, 0, 0, 0, 0), (0, 3, 3, 0, 0)], [(274, 68, (0, 0, 0, 0, 0))], [((0, 1, 1, 0, 0), [], [])], [], 1)
set_option maxRecDepth 100000 in
theorem mjC_hourm_9 : mjCtr (mjSW 240 290 mjWd_hourm) 221 mjSm_hourm_9 := aiOk_ctr mjUW_ok (env := []) (fun e he => (by cases he)) (pr := []) (cuts := []) (n := 12) (by decide +kernel)
def mjSm_hourm_10 : MjSm := ([(3, 240, 240, 0, 0), (0, 0, 3, 0, 0)], [(274, 68, (0, 0, 0, 0, 0))], [((0, 1, 1, 0, 0), [], [])], [], 2)
set_option maxRecDepth 100000 in
theorem mjC_hourm_10 : mjCtr (mjSW 240 290 mjWd_hourm) 219 mjSm_hourm_10 := aiOk_ctr mjUW_ok (env := [(220, mjSm_hourm_1), (221, mjSm_hourm_9)]) (mjEnvC mjC_hourm_1 (mjEnvC mjC_hourm_9 (fun e he => (by cases he)))) (pr := []) (cuts := []) (n := 11) (by decide +kernel)
def mjSm_hourm_11 : MjSm := ([(3, 240, 240, 0, 0), (0, 0, 3, 0, 0), (0, 1, 2, 0, 0)], [(274, 68, (0, 0, 0, 0, 0))], [((0, 0, 0, 0, 0), [], [])], [], 1)
set_option maxRecDepth 100000 in
theorem mjC_hourm_11 : mjCtr (mjSW 240 290 mjWd_hourm) 224 mjSm_hourm_11 := aiOk_ctr mjUW_ok (env := []) (fun e he => (by cases he)) (pr := []) (cuts := []) (n := 14) (by decide +kernel)
def mjSm_hourm_12 : MjSm := ([(3, 240, 240, 0, 0), (0, 0, 3, 0, 0), (0, 1, 2, 0, 0)], [(274, 68, (0, 0, 0, 0, 0))], [((0, 0, 99, 0, 0), [], [])], [], 1)
set_option maxRecDepth 100000 in
theorem mjC_hourm_12 : mjCtr (mjSW 240 290 mjWd_hourm) 223 mjSm_hourm_12 := aiOk_ctr mjUW_ok (env := []) (fun e he => (by cases he)) (pr := []) (cuts := []) (n := 14) (by decide +kernel)
def mjSm_hourm_13 : MjSm := ([(3, 240, 240, 0, 0), (0, 0, 3, 0, 0), (0, 0, 2, 0, 0), (0, 0, 0, 0, 0)], [(274, 68, (0, 0, 0, 0, 0))], [((0, 0, 0, 0, 0), [], []), ((0, 1, 1, 0, 0), [], [])], [(241, 49), (241, 50), (241, 51)], 2)
set_option maxRecDepth 100000 in
theorem mjC_hourm_13 : mjCtr (mjSW 240 290 mjWd_hourm) 225 mjSm_hourm_13 := aiOk_ctr mjUW_ok (env := [(191, mjSm_hourm_6), (226, mjSm_hourm_8), (223, mjSm_hourm_4)]) (mjEnvC mjC_hourm_6 (mjEnvC mjC_hourm_8 (mjEnvC mjC_hourm_4 (fun e he => (by cases he))))) (pr := []) (cuts := []) (n := 52) (by decide +kernel)
def mjSm_hourm_14 : MjSm := ([(3, 240, 240, 0, 0), (0, 0, 3, 0, 0), (0, 0, 2, 0, 0), (0, 1, 1, 0, 0)], [(274, 68, (0, 0, 0, 0, 0))], [((7, 0, 0, 0, 0), [], [(274, 68, (0, 0, 0, 0, 0))])], [(241, 57), (241, 58), (275, 255)], 3)
set_option maxRecDepth 100000 in
theorem mjC_hourm_14 : mjCtr (mjSW 240 290 mjWd_hourm) 241 mjSm_hourm_14 := aiOk_ctr mjUW_ok (env := [(222, mjSm_hourm_2), (219, mjSm_hourm_10), (223, mjSm_hourm_12), (224, mjSm_hourm_11), (223, mjSm_hourm_4)]) (mjEnvC mjC_hourm_2 (mjEnvC mjC_hourm_10 (mjEnvC mjC_hourm_12 (mjEnvC mjC_hourm_11 (mjEnvC mjC_hourm_4 (fun e he => (by cases he))))))) (pr := []) (cuts := [(37, ([(3, 240, 240, 0, 0), (0, 0, 3, 0, 0), (0, 0, 2, 0, 0), (0, 1, 1, 0, 0), (0, 1, 3, 0, 0), (9, 0, 0, 0, 0)], [], [(274, 68, (0, 0, 0, 0, 0))]), [(0, 0, 49963), (1, 4, 2147483647), (0, 0, 60000), (0, 0, 0), (0, 0, 0), (0, 0, 0), (0, 0, 0), (0, 0, 0)])]) (n := 59) (by decide +kernel)
def mjSm_hourm_15 : MjSm := ([(3, 240, 240, 0, 0), (0, 0, 3, 0, 0), (0, 0, 2, 0, 0), (0, 0, 0, 0, 0)], [(274, 68, (0, 0, 0, 0, 0))], [((7, 0, 0, 0, 0), [], [(274, 68, (0, 0, 0, 0, 0))])], [(241, 49), (241, 50), (241, 51), (241, 56), (241, 57), (241, 58), (275, 255), (277, 255)], 4)
set_option maxRecDepth 100000 in
theorem mjC_hourm_15 : mjCtr (mjSW 240 290 mjWd_hourm) 250 mjSm_hourm_15 := aiOk_ctr mjUW_ok (env := [(179, mjSm_hourm_7), (241, mjSm_hourm_14), (225, mjSm_hourm_13)]) (mjEnvC mjC_hourm_7 (mjEnvC mjC_hourm_14 (mjEnvC mjC_hourm_13 (fun e he => (by cases he))))) (pr := []) (cuts := [(55, ([(3, 240, 240, 0, 0), (0, 0, 3, 0, 0), (0, 0, 2, 0, 0), (0, 0, 0, 0, 0), (0, 0, 0, 0, 0)], [], [(274, 68, (0, 0, 0, 0, 0))]), [(0, 0, 49945), (1, 4, 2147483647), (0, 0, 60000), (0, 0, 0), (0, 0, 0), (0, 0, 0), (0, 0, 0), (0, 0, 0)])]) (n := 35) (by decide +kernel)
def mjSm_hourm_16 : MjSm := ([(3, 240, 240, 0, 0)], [(274, 68, (0, 0, 0, 0, 0))], [((0, 0, 0, 0, 0), [], [])], [], 2)
set_option maxRecDepth 100000 in
theorem mjC_hourm_16 : mjCtr (mjSW 240 290 mjWd_hourm) 251 mjSm_hourm_16 := aiOk_ctr mjUW_ok (env := [(179, mjSm_hourm_7)]) (mjEnvC mjC_hourm_7 (fun e he => (by cases he))) (pr := []) (cuts := [(4, ([(3, 240, 240, 0, 0), (0, 0, 0, 0, 0), (0, 0, 0, 0, 0)], [], [(274, 68, (0, 0, 0, 0, 0))]), [(0, 0, 49996), (1, 2, 2147483647), (0, 0, 60000), (0, 0, 0), (0, 0, 0), (0, 0, 0), (0, 0, 0), (0, 0, 0)])]) (n := 9) (by decide +kernel)
def mjSm_hourm_17 : MjSm := ([(3, 240, 240, 0, 0), (0, 1, 1, 0, 0)], [(240, 57, (0, 0, 0, 0, 0)), (274, 68, (0, 0, 0, 0, 0))], [((7, 0, 0, 0, 0), [], [(274, 68, (0, 1, 1, 0, 0))])], [(241, 49), (241, 50), (241, 51), (241, 56), (241, 57), (241, 58), (275, 255), (277, 255)], 5)
set_option maxRecDepth 100000 in
theorem mjC_hourm_17 : mjCtr (mjSW 240 290 mjWd_hourm) 247 mjSm_hourm_17 := aiOk_ctr mjUW_ok (env := [(251, mjSm_hourm_16), (222, mjSm_hourm_2), (220, mjSm_hourm_1), (250, mjSm_hourm_15), (248, mjSm_hourm_5)]) (mjEnvC mjC_hourm_16 (mjEnvC mjC_hourm_2 (mjEnvC mjC_hourm_1 (mjEnvC mjC_hourm_15 (mjEnvC mjC_hourm_5 (fun e he => (by cases he))))))) (pr := []) (cuts := [(7, ([(3, 240, 240, 0, 0), (0, 1, 1, 0, 0), (0, 0, 6, 0, 0), (9, 0, 0, 0, 0)], [], [(240, 56, (0, 0, 0, 0, 0)), (240, 57, (0, 0, 0, 0, 0)), (274, 68, (0, 0, 0, 0, 0))]), [(0, 0, 49993), (1, 2, 2147483647), (0, 0, 60000), (0, 0, 0), (0, 0, 0), (0, 0, 0), (0, 0, 0), (0, 0, 0)]), (52, ([(3, 240, 240, 0, 0), (0, 1, 1, 0, 0), (0, 1, 1, 0, 0), (0, 0, 12, 0, 0)], [], [(240, 56, (0, 0, 0, 0, 0)), (240, 57, (0, 0, 0, 0, 0)), (274, 68, (0, 0, 0, 0, 0))]), [(0, 0, 49948), (1, 3, 2147483647), (0, 0, 60000), (0, 0, 0), (0, 0, 0), (0, 0, 0), (0, 0, 0), (0, 0, 0)]), (159, ([(3, 240, 240, 0, 0), (0, 1, 1, 0, 0), (0, 1, 1, 0, 0), (0, 0, 12, 0, 0)], [], [(274, 68, (0, 0, 0, 0, 0))]), [(0, 0, 49841), (1, 3, 2147483647), (0, 0, 60000), (0, 0, 0), (0, 0, 0), (0, 0, 0), (0, 0, 0), (0, 0, 0)])]) (n := 40) (by decide +kernel)
def mjSm_hourm_18 : MjSm := ([(3, 240, 240, 0, 0)], [(240, 57, (0, 0, 0, 0, 0)), (240, 60, (0, 0, 0, 0, 0)), (274, 68, (0, 0, 0, 0, 0))], [((0, 0, 0, 0, 0), [], [(240, 60, (0, 1, 1, 0, 0)), (274, 68, (0, 1, 1, 0, 0))])], [(241, 49), (241, 50), (241, 51), (241, 56), (241, 57), (241, 58), (241, 60), (241, 61), (275, 255), (277, 255), (278, 255)], 6)
set_option maxRecDepth 100000 in
theorem mjC_hourm_18 : mjCtr (mjSW 240 290 mjWd_hourm) 245 mjSm_hourm_18 := aiOk_ctr mjUW_ok (env := [(247, mjSm_hourm_17), (246, mjSm_hourm_0)]) (mjEnvC mjC_hourm_17 (mjEnvC mjC_hourm_0 (fun e he => (by cases he)))) (pr := []) (cuts := []) (n := 28) (by decide +kernel)
set_option maxRecDepth 100000 in
theorem mjPair_hour (sc : List Int32)  : ∃ (v : Int32) (n1 : Nat) (w1 : MjW) (n2 : Nat) (w2 : MjW), mjEx mjTb mjMt sc n1 5 86 0 (mjEntry mjM_86.2.2.1 (.ref 0 :: [])) [] mjW0 = some (some (.int v), w1) ∧ mjEx mjTb mjMt sc n2 6 245 0 (mjEntry mjM_245.2.2.1 (.ref 240 :: [])) [] w1 = some (some (.int v), w2) ∧ mjShp w1 = mjShp mjW0 ∧ mjShp w2 = mjShp mjW0 := mj_pair (smx := mjSm_hourx_27) (smm := mjSm_hourm_18) mjC_hourx_27 mjC_hourm_18 mjWd_hourx_ok mjWd_hourm_ok (by decide +kernel) (by decide +kernel) (by decide +kernel) (by decide +kernel) (by decide +kernel) ⟨⟨0, rfl, rfl⟩, trivial⟩ ⟨⟨240, rfl, rfl⟩, trivial⟩ rfl rfl
