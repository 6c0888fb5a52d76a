def mjWd_fearx : MjWd := [(209, 8, (0, 0, 3))]
theorem mjWd_fearx_ok : mjWdB mjWd_fearx = true := by decide +kernel
def mjSm_fearx_0 : MjSm := ([(3, 18, 18, 0, 0)], [], [((3, 20, 20, 0, 0), [], [])], [], 1)
set_option maxRecDepth 100000 in
theorem mjC_fearx_0 : mjCtr (mjSW 0 240 mjWd_fearx) 70 mjSm_fearx_0 := aiOk_ctr mjUW_ok (env := []) (fun e he => (by cases he)) (pr := []) (cuts := []) (n := 9) (by decide +kernel)
def mjSm_fearx_1 : MjSm := ([(3, 210, 210, 0, 0), (3, 20, 20, 0, 0)], [], [((7, 0, 0, 0, 0), [], [])], [(211, 3), (211, 4), (211, 5), (211, 6), (211, 7), (212, 255), (213, 255), (214, 255)], 1)
set_option maxRecDepth 100000 in
theorem mjC_fearx_1 : mjCtr (mjSW 0 240 mjWd_fearx) 64 mjSm_fearx_1 := aiOk_ctr mjUW_ok (env := []) (fun e he => (by cases he)) (pr := []) (cuts := []) (n := 48) (by decide +kernel)
def mjSm_fearx_2 : MjSm := ([(3, 216, 216, 0, 0), (0, 0, 0, 0, 0)], [], [((7, 0, 0, 0, 0), [], [])], [(217, 255)], 1)
set_option maxRecDepth 100000 in
theorem mjC_fearx_2 : mjCtr (mjSW 0 240 mjWd_fearx) 6 mjSm_fearx_2 := aiOk_ctr mjUW_ok (env := []) (fun e he => (by cases he)) (pr := []) (cuts := [(5, ([(3, 216, 216, 0, 0), (0, 0, 0, 0, 0), (0, 0, 6, 0, 0), (0, 6, 6, 0, 0)], [], []), [(0, 0, 49995), (1, 2, 2147483647), (0, 0, 60000), (0, 0, 0), (0, 0, 0), (0, 0, 0), (0, 0, 0), (0, 0, 0)])]) (n := 12) (by decide +kernel)
def mjSm_fearx_3 : MjSm := ([(3, 217, 217, 0, 0), (0, 0, 0, 0, 0)], [], [((7, 0, 0, 0, 0), [], [])], [(218, 255)], 1)
set_option maxRecDepth 100000 in
theorem mjC_fearx_3 : mjCtr (mjSW 0 240 mjWd_fearx) 6 mjSm_fearx_3 := aiOk_ctr mjUW_ok (env := []) (fun e he => (by cases he)) (pr := []) (cuts := [(5, ([(3, 217, 217, 0, 0), (0, 0, 0, 0, 0), (0, 0, 6, 0, 0), (0, 6, 6, 0, 0)], [], []), [(0, 0, 49995), (1, 2, 2147483647), (0, 0, 60000), (0, 0, 0), (0, 0, 0), (0, 0, 0), (0, 0, 0), (0, 0, 0)])]) (n := 12) (by decide +kernel)
def mjSm_fearx_4 : MjSm := ([(3, 215, 215, 0, 0), (0, 0, 0, 0, 0)], [], [((7, 0, 0, 0, 0), [], [])], [(216, 255)], 1)
set_option maxRecDepth 100000 in
theorem mjC_fearx_4 : mjCtr (mjSW 0 240 mjWd_fearx) 6 mjSm_fearx_4 := aiOk_ctr mjUW_ok (env := []) (fun e he => (by cases he)) (pr := []) (cuts := [(5, ([(3, 215, 215, 0, 0), (0, 0, 0, 0, 0), (0, 0, 6, 0, 0), (0, 6, 6, 0, 0)], [], []), [(0, 0, 49995), (1, 2, 2147483647), (0, 0, 60000), (0, 0, 0), (0, 0, 0), (0, 0, 0), (0, 0, 0), (0, 0, 0)])]) (n := 12) (by decide +kernel)
def mjSm_fearx_5 : MjSm := ([(3, 193, 193, 0, 0), (3, 210, 210, 0, 0), (0, 0, 0, 0, 0)], [], [((0, 0, 0, 0, 0), [], [])], [], 1)
set_option maxRecDepth 100000 in
theorem mjC_fearx_5 : mjCtr (mjSW 0 240 mjWd_fearx) 75 mjSm_fearx_5 := aiOk_ctr mjUW_ok (env := []) (fun e he => (by cases he)) (pr := []) (cuts := [(5, ([(3, 193, 193, 0, 0), (3, 210, 210, 0, 0), (0, 0, 0, 0, 0), (0, 0, 0, 0, 0), (0, 0, 0, 0, 0), (9, 0, 0, 0, 0)], [], []), [(0, 0, 49995), (1, 4, 2147483647), (0, 0, 60000), (0, 0, 0), (0, 0, 0), (0, 0, 0), (0, 0, 0), (0, 0, 0)])]) (n := 9) (by decide +kernel)
def mjSm_fearx_6 : MjSm := ([(3, 209, 209, 0, 0)], [], [((7, 0, 0, 0, 0), [], [])], [(216, 255)], 2)
set_option maxRecDepth 100000 in
theorem mjC_fearx_6 : mjCtr (mjSW 0 240 mjWd_fearx) 74 mjSm_fearx_6 := aiOk_ctr mjUW_ok (env := [(6, mjSm_fearx_4), (75, mjSm_fearx_5)]) (mjEnvC mjC_fearx_4 (mjEnvC mjC_fearx_5 (fun e he => (by cases he)))) (pr := []) (cuts := [(32, ([(3, 209, 209, 0, 0), (0, 0, 0, 0, 0), (0, 0, 0, 0, 0)], [], []), [(0, 0, 49968), (1, 2, 2147483647), (0, 0, 60000), (0, 0, 0), (0, 0, 0), (0, 0, 0), (0, 0, 0), (0, 0, 0)])]) (n := 20) (by decide +kernel)
def mjSm_fearx_7 : MjSm := ([(3, 209, 209, 0, 0), (3, 193, 193, 0, 0), (3, 210, 210, 0, 0)], [], [((7, 0, 0, 0, 0), [], [])], [(210, 2), (210, 3), (210, 7), (216, 255), (217, 255), (218, 255)], 3)
set_option maxRecDepth 100000 in
theorem mjC_fearx_7 : mjCtr (mjSW 0 240 mjWd_fearx) 73 mjSm_fearx_7 := aiOk_ctr mjUW_ok (env := [(6, mjSm_fearx_3), (6, mjSm_fearx_2), (74, mjSm_fearx_6)]) (mjEnvC mjC_fearx_3 (mjEnvC mjC_fearx_2 (mjEnvC mjC_fearx_6 (fun e he => (by cases he))))) (pr := []) (cuts := []) (n := 23) (by decide +kernel)
def mjSm_fearx_8 : MjSm := ([(3, 209, 209, 0, 0), (3, 193, 193, 0, 0), (3, 20, 20, 0, 0)], [], [((7, 0, 0, 0, 0), [], [])], [(210, 2), (210, 3), (210, 7), (211, 3), (211, 4), (211, 5), (211, 6), (211, 7), (212, 255), (213, 255), (214, 255), (216, 255), (217, 255), (218, 255)], 4)
set_option maxRecDepth 100000 in
theorem mjC_fearx_8 : mjCtr (mjSW 0 240 mjWd_fearx) 72 mjSm_fearx_8 := aiOk_ctr mjUW_ok (env := [(73, mjSm_fearx_7), (64, mjSm_fearx_1)]) (mjEnvC mjC_fearx_7 (mjEnvC mjC_fearx_1 (fun e he => (by cases he)))) (pr := []) (cuts := []) (n := 13) (by decide +kernel)
def mjSm_fearx_9 : MjSm := ([(0, 0, 0, 0, 0), (0, 0, 0, 0, 0)], [], [((0, 0, 0, 0, 0), [], [])], [], 1)
set_option maxRecDepth 100000 in
theorem mjC_fearx_9 : mjCtr (mjSW 0 240 mjWd_fearx) 48 mjSm_fearx_9 := aiOk_ctr mjUW_ok (env := []) (fun e he => (by cases he)) (pr := []) (cuts := []) (n := 9) (by decide +kernel)
def mjSm_fearx_10 : MjSm := ([(3, 209, 209, 0, 0), (0, 0, 0, 0, 0), (0, 0, 0, 0, 0)], [], [((7, 0, 0, 0, 0), [], [])], [(210, 9)], 1)
set_option maxRecDepth 100000 in
theorem mjC_fearx_10 : mjCtr (mjSW 0 240 mjWd_fearx) 92 mjSm_fearx_10 := aiOk_ctr mjUW_ok (env := []) (fun e he => (by cases he)) (pr := []) (cuts := []) (n := 16) (by decide +kernel)
def mjSm_fearx_11 : MjSm := ([(0, 0, 0, 0, 0), (0, 1, 1, 0, 0)], [], [((0, 1, 1, 0, 0), [], [])], [], 1)
set_option maxRecDepth 100000 in
theorem mjC_fearx_11 : mjCtr (mjSW 0 240 mjWd_fearx) 48 mjSm_fearx_11 := aiOk_ctr mjUW_ok (env := []) (fun e he => (by cases he)) (pr := []) (cuts := []) (n := 9) (by decide +kernel)
def mjSm_fearx_12 : MjSm := ([(3, 193, 193, 0, 0), (0, 0, 0, 0, 0)], [], [((0, 1, 1, 0, 0), [], [])], [], 1)
set_option maxRecDepth 100000 in
theorem mjC_fearx_12 : mjCtr (mjSW 0 240 mjWd_fearx) 69 mjSm_fearx_12 := aiOk_ctr mjUW_ok (env := []) (fun e he => (by cases he)) (pr := []) (cuts := []) (n := 15) (by decide +kernel)
def mjSm_fearx_13 : MjSm := ([(3, 209, 209, 0, 0), (0, 1, 1, 0, 0), (0, 0, 0, 0, 0)], [], [((7, 0, 0, 0, 0), [], [])], [(210, 9)], 1)
set_option maxRecDepth 100000 in
theorem mjC_fearx_13 : mjCtr (mjSW 0 240 mjWd_fearx) 92 mjSm_fearx_13 := aiOk_ctr mjUW_ok (env := []) (fun e he => (by cases he)) (pr := []) (cuts := []) (n := 16) (by decide +kernel)
def mjSm_fearx_14 : MjSm := ([(0, 0, 0, 0, 0), (0, 1, 2, 0, 0)], [], [((0, 1, 2, 0, 0), [], [])], [], 1)
set_option maxRecDepth 100000 in
theorem mjC_fearx_14 : mjCtr (mjSW 0 240 mjWd_fearx) 48 mjSm_fearx_14 := aiOk_ctr mjUW_ok (env := []) (fun e he => (by cases he)) (pr := []) (cuts := []) (n := 9) (by decide +kernel)
def mjSm_fearx_15 : MjSm := ([(3, 209, 209, 0, 0), (0, 1, 2, 0, 0), (0, 0, 0, 0, 0)], [], [((7, 0, 0, 0, 0), [], [])], [(210, 9)], 1)
set_option maxRecDepth 100000 in
theorem mjC_fearx_15 : mjCtr (mjSW 0 240 mjWd_fearx) 92 mjSm_fearx_15 := aiOk_ctr mjUW_ok (env := []) (fun e he => (by cases he)) (pr := []) (cuts := []) (n := 16) (by decide +kernel)
def mjSm_fearx_16 : MjSm := ([(3, 209, 209, 0, 0), (0, 0, 0, 0, 0), (0, 0, 0, 0, 0), (0, 0, 0, 0, 0)], [(209, 8, (0, 0, 0, 0, 0))], [((7, 0, 0, 0, 0), [], [(209, 8, (0, 0, 0, 0, 0))])], [(210, 8), (210, 9)], 2)
set_option maxRecDepth 100000 in
theorem mjC_fearx_16 : mjCtr (mjSW 0 240 mjWd_fearx) 91 mjSm_fearx_16 := aiOk_ctr mjUW_ok (env := [(48, mjSm_fearx_9), (69, mjSm_fearx_12), (92, mjSm_fearx_10), (92, mjSm_fearx_15), (48, mjSm_fearx_14)]) (mjEnvC mjC_fearx_9 (mjEnvC mjC_fearx_12 (mjEnvC mjC_fearx_10 (mjEnvC mjC_fearx_15 (mjEnvC mjC_fearx_14 (fun e he => (by cases he))))))) (pr := []) (cuts := [(25, ([(3, 209, 209, 0, 0), (0, 0, 0, 0, 0), (0, 0, 0, 0, 0), (0, 0, 0, 0, 0), (0, 1, 3, 0, 0), (9, 0, 0, 0, 0)], [], [(209, 8, (0, 0, 0, 0, 0))]), [(0, 0, 49975), (1, 4, 2147483647), (0, 0, 60000), (0, 0, 0), (0, 0, 0), (0, 0, 0), (0, 0, 0), (0, 0, 0)])]) (n := 43) (by decide +kernel)
def mjSm_fearx_17 : MjSm := ([(3, 209, 209, 0, 0), (0, 0, 0, 0, 0), (0, 0, 0, 0, 0)], [(209, 8, (0, 0, 0, 0, 0))], [((7, 0, 0, 0, 0), [], [(209, 8, (0, 0, 0, 0, 0))])], [(210, 8), (210, 9)], 3)
set_option maxRecDepth 100000 in
theorem mjC_fearx_17 : mjCtr (mjSW 0 240 mjWd_fearx) 119 mjSm_fearx_17 := aiOk_ctr mjUW_ok (env := [(91, mjSm_fearx_16)]) (mjEnvC mjC_fearx_16 (fun e he => (by cases he))) (pr := []) (cuts := []) (n := 9) (by decide +kernel)
def mjSm_fearx_18 : MjSm := ([(0, 0, 0, 0, 0), (0, 2, 2, 0, 0)], [], [((0, 2, 2, 0, 0), [], [])], [], 1)
set_option maxRecDepth 100000 in
theorem mjC_fearx_18 : mjCtr (mjSW 0 240 mjWd_fearx) 48 mjSm_fearx_18 := aiOk_ctr mjUW_ok (env := []) (fun e he => (by cases he)) (pr := []) (cuts := []) (n := 9) (by decide +kernel)
def mjSm_fearx_19 : MjSm := ([(3, 209, 209, 0, 0), (0, 2, 2, 0, 0), (0, 0, 0, 0, 0)], [], [((7, 0, 0, 0, 0), [], [])], [(210, 9)], 1)
set_option maxRecDepth 100000 in
theorem mjC_fearx_19 : mjCtr (mjSW 0 240 mjWd_fearx) 92 mjSm_fearx_19 := aiOk_ctr mjUW_ok (env := []) (fun e he => (by cases he)) (pr := []) (cuts := []) (n := 16) (by decide +kernel)
def mjSm_fearx_20 : MjSm := ([(3, 209, 209, 0, 0), (0, 0, 0, 0, 0), (0, 1, 1, 0, 0), (0, 0, 0, 0, 0)], [(209, 8, (0, 0, 0, 0, 0))], [((7, 0, 0, 0, 0), [], [(209, 8, (0, 0, 0, 0, 0))])], [(210, 8), (210, 9)], 2)
set_option maxRecDepth 100000 in
theorem mjC_fearx_20 : mjCtr (mjSW 0 240 mjWd_fearx) 91 mjSm_fearx_20 := aiOk_ctr mjUW_ok (env := [(69, mjSm_fearx_12), (92, mjSm_fearx_13), (48, mjSm_fearx_18), (48, mjSm_fearx_11), (92, mjSm_fearx_19)]) (mjEnvC mjC_fearx_12 (mjEnvC mjC_fearx_13 (mjEnvC mjC_fearx_18 (mjEnvC mjC_fearx_11 (mjEnvC mjC_fearx_19 (fun e he => (by cases he))))))) (pr := []) (cuts := [(25, ([(3, 209, 209, 0, 0), (0, 0, 0, 0, 0), (0, 1, 1, 0, 0), (0, 0, 0, 0, 0), (0, 2, 3, 0, 0), (9, 0, 0, 0, 0)], [], [(209, 8, (0, 0, 0, 0, 0))]), [(0, 0, 49975), (1, 4, 2147483647), (0, 0, 60000), (0, 0, 0), (0, 0, 0), (0, 0, 0), (0, 0, 0), (0, 0, 0)])]) (n := 43) (by decide +kernel)
def mjSm_fearx_21 : MjSm := ([(3, 209, 209, 0, 0), (0, 0, 0, 0, 0), (0, 1, 1, 0, 0)], [(209, 8, (0, 0, 0, 0, 0))], [((7, 0, 0, 0, 0), [], [(209, 8, (0, 0, 0, 0, 0))])], [(210, 8), (210, 9)], 3)
set_option maxRecDepth 100000 in
theorem mjC_fearx_21 : mjCtr (mjSW 0 240 mjWd_fearx) 119 mjSm_fearx_21 := aiOk_ctr mjUW_ok (env := [(91, mjSm_fearx_20)]) (mjEnvC mjC_fearx_20 (fun e he => (by cases he))) (pr := []) (cuts := []) (n := 9) (by decide +kernel)
def mjSm_fearx_22 : MjSm := ([(3, 209, 209, 0, 0), (0, 0, 0, 0, 0), (0, 2, 2, 0, 0), (0, 0, 0, 0, 0)], [(209, 8, (0, 0, 0, 0, 0))], [((7, 0, 0, 0, 0), [], [(209, 8, (0, 0, 0, 0, 0))])], [(210, 8), (210, 9)], 2)
set_option maxRecDepth 100000 in
theorem mjC_fearx_22 : mjCtr (mjSW 0 240 mjWd_fearx) 91 mjSm_fearx_22 := aiOk_ctr mjUW_ok (env := [(48, mjSm_fearx_18), (92, mjSm_fearx_19)]) (mjEnvC mjC_fearx_18 (mjEnvC mjC_fearx_19 (fun e he => (by cases he)))) (pr := []) (cuts := [(25, ([(3, 209, 209, 0, 0), (0, 0, 0, 0, 0), (0, 2, 2, 0, 0), (0, 0, 0, 0, 0), (0, 3, 3, 0, 0), (9, 0, 0, 0, 0)], [], [(209, 8, (0, 0, 0, 0, 0))]), [(0, 0, 49975), (1, 4, 2147483647), (0, 0, 60000), (0, 0, 0), (0, 0, 0), (0, 0, 0), (0, 0, 0), (0, 0, 0)])]) (n := 19) (by decide +kernel)
def mjSm_fearx_23 : MjSm := ([(3, 209, 209, 0, 0), (0, 0, 0, 0, 0), (0, 2, 2, 0, 0)], [(209, 8, (0, 0, 0, 0, 0))], [((7, 0, 0, 0, 0), [], [(209, 8, (0, 0, 0, 0, 0))])], [(210, 8), (210, 9)], 3)
set_option maxRecDepth 100000 in
theorem mjC_fearx_23 : mjCtr (mjSW 0 240 mjWd_fearx) 119 mjSm_fearx_23 := aiOk_ctr mjUW_ok (env := [(91, mjSm_fearx_22)]) (mjEnvC mjC_fearx_22 (fun e he => (by cases he))) (pr := []) (cuts := []) (n := 9) (by decide +kernel)
def mjSm_fearx_24 : MjSm := ([(0, 1, 1, 0, 0), (0, 0, 0, 0, 0)], [], [((0, 5, 5, 0, 0), [], [])], [], 1)
set_option maxRecDepth 100000 in
theorem mjC_fearx_24 : mjCtr (mjSW 0 240 mjWd_fearx) 48 mjSm_fearx_24 := aiOk_ctr mjUW_ok (env := []) (fun e he => (by cases he)) (pr := []) (cuts := []) (n := 9) (by decide +kernel)
def mjSm_fearx_25 : MjSm := ([(3, 209, 209, 0, 0), (0, 5, 5, 0, 0), (0, 0, 0, 0, 0)], [], [((7, 0, 0, 0, 0), [], [])], [(210, 9)], 1)
set_option maxRecDepth 100000 in
theorem mjC_fearx_25 : mjCtr (mjSW 0 240 mjWd_fearx) 92 mjSm_fearx_25 := aiOk_ctr mjUW_ok (env := []) (fun e he => (by cases he)) (pr := []) (cuts := []) (n := 16) (by decide +kernel)
def mjSm_fearx_26 : MjSm := ([(0, 1, 1, 0, 0), (0, 1, 1, 0, 0)], [], [((0, 6, 6, 0, 0), [], [])], [], 1)
set_option maxRecDepth 100000 in
theorem mjC_fearx_26 : mjCtr (mjSW 0 240 mjWd_fearx) 48 mjSm_fearx_26 := aiOk_ctr mjUW_ok (env := []) (fun e he => (by cases he)) (pr := []) (cuts := []) (n := 9) (by decide +kernel)
def mjSm_fearx_27 : MjSm := ([(3, 193, 193, 0, 0), (0, 1, 1, 0, 0)], [], [((0, 1, 1, 0, 0), [], [])], [], 1)
set_option maxRecDepth 100000 in
theorem mjC_fearx_27 : mjCtr (mjSW 0 240 mjWd_fearx) 69 mjSm_fearx_27 := aiOk_ctr mjUW_ok (env := []) (fun e he => (by cases he)) (pr := []) (cuts := []) (n := 15) (by decide +kernel)
def mjSm_fearx_28 : MjSm := ([(3, 209, 209, 0, 0), (0, 6, 6, 0, 0), (0, 0, 0, 0, 0)], [], [((7, 0, 0, 0, 0), [], [])], [(210, 9)], 1)
set_option maxRecDepth 100000 in
theorem mjC_fearx_28 : mjCtr (mjSW 0 240 mjWd_fearx) 92 mjSm_fearx_28 := aiOk_ctr mjUW_ok (env := []) (fun e he => (by cases he)) (pr := []) (cuts := []) (n := 16) (by decide +kernel)
def mjSm_fearx_29 : MjSm := ([(0, 1, 1, 0, 0), (0, 1, 2, 0, 0)], [], [((0, 6, 7, 0, 0), [], [])], [], 1)
set_option maxRecDepth 100000 in
theorem mjC_fearx_29 : mjCtr (mjSW 0 240 mjWd_fearx) 48 mjSm_fearx_29 := aiOk_ctr mjUW_ok (env := []) (fun e he => (by cases he)) (pr := []) (cuts := []) (n := 9) (by decide +kernel)
def mjSm_fearx_30 : MjSm := ([(3, 209, 209, 0, 0), (0, 6, 7, 0, 0), (0, 0, 0, 0, 0)], [], [((7, 0, 0, 0, 0), [], [])], [(210, 9)], 1)
set_option maxRecDepth 100000 in
theorem mjC_fearx_30 : mjCtr (mjSW 0 240 mjWd_fearx) 92 mjSm_fearx_30 := aiOk_ctr mjUW_ok (env := []) (fun e he => (by cases he)) (pr := []) (cuts := []) (n := 16) (by decide +kernel)
def mjSm_fearx_31 : MjSm := ([(3, 209, 209, 0, 0), (0, 1, 1, 0, 0), (0, 0, 0, 0, 0), (0, 0, 0, 0, 0)], [(209, 8, (0, 0, 0, 0, 0))], [((7, 0, 0, 0, 0), [], [(209, 8, (0, 1, 1, 0, 0))])], [(210, 8), (210, 9)], 2)
set_option maxRecDepth 100000 in
theorem mjC_fearx_31 : mjCtr (mjSW 0 240 mjWd_fearx) 91 mjSm_fearx_31 := aiOk_ctr mjUW_ok (env := [(92, mjSm_fearx_25), (69, mjSm_fearx_27), (48, mjSm_fearx_24), (92, mjSm_fearx_30), (48, mjSm_fearx_29)]) (mjEnvC mjC_fearx_25 (mjEnvC mjC_fearx_27 (mjEnvC mjC_fearx_24 (mjEnvC mjC_fearx_30 (mjEnvC mjC_fearx_29 (fun e he => (by cases he))))))) (pr := []) (cuts := [(25, ([(3, 209, 209, 0, 0), (0, 1, 1, 0, 0), (0, 0, 0, 0, 0), (0, 0, 0, 0, 0), (0, 1, 3, 0, 0), (9, 0, 0, 0, 0)], [], [(209, 8, (0, 1, 1, 0, 0))]), [(0, 0, 49975), (1, 4, 2147483647), (0, 0, 60000), (0, 0, 0), (0, 0, 0), (0, 0, 0), (0, 0, 0), (0, 0, 0)])]) (n := 43) (by decide +kernel)
def mjSm_fearx_32 : MjSm := ([(3, 209, 209, 0, 0), (0, 1, 1, 0, 0), (0, 0, 0, 0, 0)], [(209, 8, (0, 0, 0, 0, 0))], [((7, 0, 0, 0, 0), [], [(209, 8, (0, 1, 1, 0, 0))])], [(210, 8), (210, 9)], 3)
set_option maxRecDepth 100000 in
theorem mjC_fearx_32 : mjCtr (mjSW 0 240 mjWd_fearx) 119 mjSm_fearx_32 := aiOk_ctr mjUW_ok (env := [(91, mjSm_fearx_31)]) (mjEnvC mjC_fearx_31 (fun e he => (by cases he))) (pr := []) (cuts := []) (n := 9) (by decide +kernel)
def mjSm_fearx_33 : MjSm := ([(0, 1, 1, 0, 0), (0, 2, 2, 0, 0)], [], [((0, 7, 7, 0, 0), [], [])], [], 1)
set_option maxRecDepth 100000 in
theorem mjC_fearx_33 : mjCtr (mjSW 0 240 mjWd_fearx) 48 mjSm_fearx_33 := aiOk_ctr mjUW_ok (env := []) (fun e he => (by cases he)) (pr := []) (cuts := []) (n := 9) (by decide +kernel)
def mjSm_fearx_34 : MjSm := ([(3, 209, 209, 0, 0), (0, 7, 7, 0, 0), (0, 0, 0, 0, 0)], [], [((7, 0, 0, 0, 0), [], [])], [(210, 9)], 1)
set_option maxRecDepth 100000 in
theorem mjC_fearx_34 : mjCtr (mjSW 0 240 mjWd_fearx) 92 mjSm_fearx_34 := aiOk_ctr mjUW_ok (env := []) (fun e he => (by cases he)) (pr := []) (cuts := []) (n := 16) (by decide +kernel)
def mjSm_fearx_35 : MjSm := ([(3, 209, 209, 0, 0), (0, 1, 1, 0, 0), (0, 1, 1, 0, 0), (0, 0, 0, 0, 0)], [(209, 8, (0, 1, 1, 0, 0))], [((7, 0, 0, 0, 0), [], [(209, 8, (0, 1, 1, 0, 0))])], [(210, 8), (210, 9)], 2)
set_option maxRecDepth 100000 in
theorem mjC_fearx_35 : mjCtr (mjSW 0 240 mjWd_fearx) 91 mjSm_fearx_35 := aiOk_ctr mjUW_ok (env := [(92, mjSm_fearx_28), (92, mjSm_fearx_34), (48, mjSm_fearx_26), (69, mjSm_fearx_27), (48, mjSm_fearx_33)]) (mjEnvC mjC_fearx_28 (mjEnvC mjC_fearx_34 (mjEnvC mjC_fearx_26 (mjEnvC mjC_fearx_27 (mjEnvC mjC_fearx_33 (fun e he => (by cases he))))))) (pr := []) (cuts := [(25, ([(3, 209, 209, 0, 0), (0, 1, 1, 0, 0), (0, 1, 1, 0, 0), (0, 0, 0, 0, 0), (0, 2, 3, 0, 0), (9, 0, 0, 0, 0)], [], [(209, 8, (0, 1, 1, 0, 0))]), [(0, 0, 49975), (1, 4, 2147483647), (0, 0, 60000), (0, 0, 0), (0, 0, 0), (0, 0, 0), (0, 0, 0), (0, 0, 0)])]) (n := 43) (by decide +kernel)
def mjSm_fearx_36 : MjSm := ([(3, 209, 209, 0, 0), (0, 1, 1, 0, 0), (0, 1, 1, 0, 0)], [(209, 8, (0, 1, 1, 0, 0))], [((7, 0, 0, 0, 0), [], [(209, 8, (0, 1, 1, 0, 0))])], [(210, 8), (210, 9)], 3)
set_option maxRecDepth 100000 in
theorem mjC_fearx_36 : mjCtr (mjSW 0 240 mjWd_fearx) 119 mjSm_fearx_36 := aiOk_ctr mjUW_ok (env := [(91, mjSm_fearx_35)]) (mjEnvC mjC_fearx_35 (fun e he => (by cases he))) (pr := []) (cuts := []) (n := 9) (by decide +kernel)
def mjSm_fearx_37 : MjSm := ([(3, 209, 209, 0, 0), (0, 1, 1, 0, 0), (0, 2, 2, 0, 0), (0, 0, 0, 0, 0)], [(209, 8, (0, 1, 1, 0, 0))], [((7, 0, 0, 0, 0), [], [(209, 8, (0, 1, 1, 0, 0))])], [(210, 8), (210, 9)], 2)
set_option maxRecDepth 100000 in
theorem mjC_fearx_37 : mjCtr (mjSW 0 240 mjWd_fearx) 91 mjSm_fearx_37 := aiOk_ctr mjUW_ok (env := [(48, mjSm_fearx_33), (92, mjSm_fearx_34)]) (mjEnvC mjC_fearx_33 (mjEnvC mjC_fearx_34 (fun e he => (by cases he)))) (pr := []) (cuts := [(25, ([(3, 209, 209, 0, 0), (0, 1, 1, 0, 0), (0, 2, 2, 0, 0), (0, 0, 0, 0, 0), (0, 3, 3, 0, 0), (9, 0, 0, 0, 0)], [], [(209, 8, (0, 1, 1, 0, 0))]), [(0, 0, 49975), (1, 4, 2147483647), (0, 0, 60000), (0, 0, 0), (0, 0, 0), (0, 0, 0), (0, 0, 0), (0, 0, 0)])]) (n := 19) (by decide +kernel)
def mjSm_fearx_38 : MjSm := ([(3, 209, 209, 0, 0), (0, 1, 1, 0, 0), (0, 2, 2, 0, 0)], [(209, 8, (0, 1, 1, 0, 0))], [((7, 0, 0, 0, 0), [], [(209, 8, (0, 1, 1, 0, 0))])], [(210, 8), (210, 9)], 3)
set_option maxRecDepth 100000 in
theorem mjC_fearx_38 : mjCtr (mjSW 0 240 mjWd_fearx) 119 mjSm_fearx_38 := aiOk_ctr mjUW_ok (env := [(91, mjSm_fearx_37)]) (mjEnvC mjC_fearx_37 (fun e he => (by cases he))) (pr := []) (cuts := []) (n := 9) (by decide +kernel)
def mjSm_fearx_39 : MjSm := ([(0, 2, 2, 0, 0), (0, 0, 0, 0, 0)], [], [((0, 10, 10, 0, 0), [], [])], [], 1)
set_option maxRecDepth 100000 in
theorem mjC_fearx_39 : mjCtr (mjSW 0 240 mjWd_fearx) 48 mjSm_fearx_39 := aiOk_ctr mjUW_ok (env := []) (fun e he => (by cases he)) (pr := []) (cuts := []) (n := 9) (by decide +kernel)
def mjSm_fearx_40 : MjSm := ([(3, 209, 209, 0, 0), (0, 10, 10, 0, 0), (0, 0, 0, 0, 0)], [], [((7, 0, 0, 0, 0), [], [])], [(210, 9)], 1)
set_option maxRecDepth 100000 in
theorem mjC_fearx_40 : mjCtr (mjSW 0 240 mjWd_fearx) 92 mjSm_fearx_40 := aiOk_ctr mjUW_ok (env := []) (fun e he => (by cases he)) (pr := []) (cuts := []) (n := 16) (by decide +kernel)
def mjSm_fearx_41 : MjSm := ([(0, 2, 2, 0, 0), (0, 1, 1, 0, 0)], [], [((0, 11, 11, 0, 0), [], [])], [], 1)
set_option maxRecDepth 100000 in
theorem mjC_fearx_41 : mjCtr (mjSW 0 240 mjWd_fearx) 48 mjSm_fearx_41 := aiOk_ctr mjUW_ok (env := []) (fun e he => (by cases he)) (pr := []) (cuts := []) (n := 9) (by decide +kernel)
def mjSm_fearx_42 : MjSm := ([(3, 193, 193, 0, 0), (0, 2, 2, 0, 0)], [], [((0, 1, 1, 0, 0), [], [])], [], 1)
set_option maxRecDepth 100000 in
theorem mjC_fearx_42 : mjCtr (mjSW 0 240 mjWd_fearx) 69 mjSm_fearx_42 := aiOk_ctr mjUW_ok (env := []) (fun e he => (by cases he)) (pr := []) (cuts := []) (n := 15) (by decide +kernel)
def mjSm_fearx_43 : MjSm := ([(3, 209, 209, 0, 0), (0, 11, 11, 0, 0), (0, 0, 0, 0, 0)], [], [((7, 0, 0, 0, 0), [], [])], [(210, 9)], 1)
set_option maxRecDepth 100000 in
theorem mjC_fearx_43 : mjCtr (mjSW 0 240 mjWd_fearx) 92 mjSm_fearx_43 := aiOk_ctr mjUW_ok (env := []) (fun e he => (by cases he)) (pr := []) (cuts := []) (n := 16) (by decide +kernel)
def mjSm_fearx_44 : MjSm := ([(0, 2, 2, 0, 0), (0, 1, 2, 0, 0)], [], [((0, 11, 12, 0, 0), [], [])], [], 1)
set_option maxRecDepth 100000 in
theorem mjC_fearx_44 : mjCtr (mjSW 0 240 mjWd_fearx) 48 mjSm_fearx_44 := aiOk_ctr mjUW_ok (env := []) (fun e he => (by cases he)) (pr := []) (cuts := []) (n := 9) (by decide +kernel)
def mjSm_fearx_45 : MjSm := ([(3, 209, 209, 0, 0), (0, 11, 12, 0, 0), (0, 0, 0, 0, 0)], [], [((7, 0, 0, 0, 0), [], [])], [(210, 9)], 1)
set_option maxRecDepth 100000 in
theorem mjC_fearx_45 : mjCtr (mjSW 0 240 mjWd_fearx) 92 mjSm_fearx_45 := aiOk_ctr mjUW_ok (env := []) (fun e he => (by cases he)) (pr := []) (cuts := []) (n := 16) (by decide +kernel)
def mjSm_fearx_46 : MjSm := ([(3, 209, 209, 0, 0), (0, 2, 2, 0, 0), (0, 0, 0, 0, 0), (0, 0, 0, 0, 0)], [(209, 8, (0, 1, 1, 0, 0))], [((7, 0, 0, 0, 0), [], [(209, 8, (0, 2, 2, 0, 0))])], [(210, 8), (210, 9)], 2)
set_option maxRecDepth 100000 in
theorem mjC_fearx_46 : mjCtr (mjSW 0 240 mjWd_fearx) 91 mjSm_fearx_46 := aiOk_ctr mjUW_ok (env := [(48, mjSm_fearx_39), (69, mjSm_fearx_42), (92, mjSm_fearx_40), (92, mjSm_fearx_45), (48, mjSm_fearx_44)]) (mjEnvC mjC_fearx_39 (mjEnvC mjC_fearx_42 (mjEnvC mjC_fearx_40 (mjEnvC mjC_fearx_45 (mjEnvC mjC_fearx_44 (fun e he => (by cases he))))))) (pr := []) (cuts := [(25, ([(3, 209, 209, 0, 0), (0, 2, 2, 0, 0), (0, 0, 0, 0, 0), (0, 0, 0, 0, 0), (0, 1, 3, 0, 0), (9, 0, 0, 0, 0)], [], [(209, 8, (0, 2, 2, 0, 0))]), [(0, 0, 49975), (1, 4, 2147483647), (0, 0, 60000), (0, 0, 0), (0, 0, 0), (0, 0, 0), (0, 0, 0), (0, 0, 0)])]) (n := 43) (by decide +kernel)
def mjSm_fearx_47 : MjSm := ([(3, 209, 209, 0, 0), (0, 2, 2, 0, 0), (0, 0, 0, 0, 0)], [(209, 8, (0, 1, 1, 0, 0))], [((7, 0, 0, 0, 0), [], [(209, 8, (0, 2, 2, 0, 0))])], [(210, 8), (210, 9)], 3)
set_option maxRecDepth 100000 in
theorem mjC_fearx_47 : mjCtr (mjSW 0 240 mjWd_fearx) 119 mjSm_fearx_47 := aiOk_ctr mjUW_ok (env := [(91, mjSm_fearx_46)]) (mjEnvC mjC_fearx_46 (fun e he => (by cases he))) (pr := []) (cuts := []) (n := 9) (by decide +kernel)
def mjSm_fearx_48 : MjSm := ([(0, 2, 2, 0, 0), (0, 2, 2, 0, 0)], [], [((0, 12, 12, 0, 0), [], [])], [], 1)
set_option maxRecDepth 100000 in
theorem mjC_fearx_48 : mjCtr (mjSW 0 240 mjWd_fearx) 48 mjSm_fearx_48 := aiOk_ctr mjUW_ok (env := []) (fun e he => (by cases he)) (pr := []) (cuts := []) (n := 9) (by decide +kernel)
def mjSm_fearx_49 : MjSm := ([(3, 209, 209, 0, 0), (0, 12, 12, 0, 0), (0, 0, 0, 0, 0)], [], [((7, 0, 0, 0, 0), [], [])], [(210, 9)], 1)
set_option maxRecDepth 100000 in
theorem mjC_fearx_49 : mjCtr (mjSW 0 240 mjWd_fearx) 92 mjSm_fearx_49 := aiOk_ctr mjUW_ok (env := []) (fun e he => (by cases he)) (pr := []) (cuts := []) (n := 16) (by decide +kernel)
def mjSm_fearx_50 : MjSm := ([(3, 209, 209, 0, 0), (0, 2, 2, 0, 0), (0, 1, 1, 0, 0), (0, 0, 0, 0, 0)], [(209, 8, (0, 2, 2, 0, 0))], [((7, 0, 0, 0, 0), [], [(209, 8, (0, 2, 2, 0, 0))])], [(210, 8), (210, 9)], 2)
set_option maxRecDepth 100000 in
theorem mjC_fearx_50 : mjCtr (mjSW 0 240 mjWd_fearx) 91 mjSm_fearx_50 := aiOk_ctr mjUW_ok (env := [(92, mjSm_fearx_43), (92, mjSm_fearx_49), (48, mjSm_fearx_41), (69, mjSm_fearx_42), (48, mjSm_fearx_48)]) (mjEnvC mjC_fearx_43 (mjEnvC mjC_fearx_49 (mjEnvC mjC_fearx_41 (mjEnvC mjC_fearx_42 (mjEnvC mjC_fearx_48 (fun e he => (by cases he))))))) (pr := []) (cuts := [(25, ([(3, 209, 209, 0, 0), (0, 2, 2, 0, 0), (0, 1, 1, 0, 0), (0, 0, 0, 0, 0), (0, 2, 3, 0, 0), (9, 0, 0, 0, 0)], [], [(209, 8, (0, 2, 2, 0, 0))]), [(0, 0, 49975), (1, 4, 2147483647), (0, 0, 60000), (0, 0, 0), (0, 0, 0), (0, 0, 0), (0, 0, 0), (0, 0, 0)])]) (n := 43) (by decide +kernel)
def mjSm_fearx_51 : MjSm := ([(3, 209, 209, 0, 0), (0, 2, 2, 0, 0), (0, 1, 1, 0, 0)], [(209, 8, (0, 2, 2, 0, 0))], [((7, 0, 0, 0, 0), [], [(209, 8, (0, 2, 2, 0, 0))])], [(210, 8), (210, 9)], 3)
set_option maxRecDepth 100000 in
theorem mjC_fearx_51 : mjCtr (mjSW 0 240 mjWd_fearx) 119 mjSm_fearx_51 := aiOk_ctr mjUW_ok (env := [(91, mjSm_fearx_50)]) (mjEnvC mjC_fearx_50 (fun e he => (by cases he))) (pr := []) (cuts := []) (n := 9) (by decide +kernel)
def mjSm_fearx_52 : MjSm := ([(3, 209, 209, 0, 0), (0, 2, 2, 0, 0), (0, 2, 2, 0, 0), (0, 0, 0, 0, 0)], [(209, 8, (0, 2, 2, 0, 0))], [((7, 0, 0, 0, 0), [], [(209, 8, (0, 2, 2, 0, 0))])], [(210, 8), (210, 9)], 2)
set_option maxRecDepth 100000 in
theorem mjC_fearx_52 : mjCtr (mjSW 0 240 mjWd_fearx) 91 mjSm_fearx_52 := aiOk_ctr mjUW_ok (env := [(92, mjSm_fearx_49), (48, mjSm_fearx_48)]) (mjEnvC mjC_fearx_49 (mjEnvC mjC_fearx_48 (fun e he => (by cases he)))) (pr := []) (cuts := [(25, ([(3, 209, 209, 0, 0), (0, 2, 2, 0, 0), (0, 2, 2, 0, 0), (0, 0, 0, 0, 0), (0, 3, 3, 0, 0), (9, 0, 0, 0, 0)], [], [(209, 8, (0, 2, 2, 0, 0))]), [(0, 0, 49975), (1, 4, 2147483647), (0, 0, 60000), (0, 0, 0), (0, 0, 0), (0, 0, 0), (0, 0, 0), (0, 0, 0)])]) (n := 19) (by decide +kernel)
def mjSm_fearx_53 : MjSm := ([(3, 209, 209, 0, 0), (0, 2, 2, 0, 0), (0, 2, 2, 0, 0)], [(209, 8, (0, 2, 2, 0, 0))], [((7, 0, 0, 0, 0), [], [(209, 8, (0, 2, 2, 0, 0))])], [(210, 8), (210, 9)], 3)
set_option maxRecDepth 100000 in
theorem mjC_fearx_53 : mjCtr (mjSW 0 240 mjWd_fearx) 119 mjSm_fearx_53 := aiOk_ctr mjUW_ok (env := [(91, mjSm_fearx_52)]) (mjEnvC mjC_fearx_52 (fun e he => (by cases he))) (pr := []) (cuts := []) (n := 9) (by decide +kernel)
def mjSm_fearx_54 : MjSm := ([(0, 3, 3, 0, 0), (0, 0, 0, 0, 0)], [], [((0, 15, 15, 0, 0), [], [])], [], 1)
set_option maxRecDepth 100000 in
theorem mjC_fearx_54 : mjCtr (mjSW 0 240 mjWd_fearx) 48 mjSm_fearx_54 := aiOk_ctr mjUW_ok (env := []) (fun e he => (by cases he)) (pr := []) (cuts := []) (n := 9) (by decide +kernel)
def mjSm_fearx_55 : MjSm := ([(3, 209, 209, 0, 0), (0, 15, 15, 0, 0), (0, 0, 0, 0, 0)], [], [((7, 0, 0, 0, 0), [], [])], [(210, 9)], 1)
set_option maxRecDepth 100000 in
theorem mjC_fearx_55 : mjCtr (mjSW 0 240 mjWd_fearx) 92 mjSm_fearx_55 := aiOk_ctr mjUW_ok (env := []) (fun e he => (by cases he)) (pr := []) (cuts := []) (n := 16) (by decide +kernel)
def mjSm_fearx_56 : MjSm := ([(0, 3, 3, 0, 0), (0, 1, 1, 0, 0)], [], [((0, 16, 16, 0, 0), [], [])], [], 1)
set_option maxRecDepth 100000 in
theorem mjC_fearx_56 : mjCtr (mjSW 0 240 mjWd_fearx) 48 mjSm_fearx_56 := aiOk_ctr mjUW_ok (env := []) (fun e he => (by cases he)) (pr := []) (cuts := []) (n := 9) (by decide +kernel)
def mjSm_fearx_57 : MjSm := ([(3, 193, 193, 0, 0), (0, 3, 3, 0, 0)], [], [((0, 1, 1, 0, 0), [], [])], [], 1)
set_option maxRecDepth 100000 in
theorem mjC_fearx_57 : mjCtr (mjSW 0 240 mjWd_fearx) 69 mjSm_fearx_57 := aiOk_ctr mjUW_ok (env := []) (fun e he => (by cases he)) (pr := []) (cuts := []) (n := 15) (by decide +kernel)
def mjSm_fearx_58 : MjSm := ([(3, 209, 209, 0, 0), (0, 16, 16, 0, 0), (0, 0, 0, 0, 0)], [], [((7, 0, 0, 0, 0), [], [])], [(210, 9)], 1)
set_option maxRecDepth 100000 in
theorem mjC_fearx_58 : mjCtr (mjSW 0 240 mjWd_fearx) 92 mjSm_fearx_58 := aiOk_ctr mjUW_ok (env := []) (fun e he => (by cases he)) (pr := []) (cuts := []) (n := 16) (by decide +kernel)
def mjSm_fearx_59 : MjSm := ([(0, 3, 3, 0, 0), (0, 1, 2, 0, 0)], [], [((0, 16, 17, 0, 0), [], [])], [], 1)
set_option maxRecDepth 100000 in
theorem mjC_fearx_59 : mjCtr (mjSW 0 240 mjWd_fearx) 48 mjSm_fearx_59 := aiOk_ctr mjUW_ok (env := []) (fun e he => (by cases he)) (pr := []) (cuts := []) (n := 9) (by decide +kernel)
def mjSm_fearx_60 : MjSm := ([(3, 209, 209, 0, 0), (0, 16, 17, 0, 0), (0, 0, 0, 0, 0)], [], [((7, 0, 0, 0, 0), [], [])], [(210, 9)], 1)
set_option maxRecDepth 100000 in
theorem mjC_fearx_60 : mjCtr (mjSW 0 240 mjWd_fearx) 92 mjSm_fearx_60 := aiOk_ctr mjUW_ok (env := []) (fun e he => (by cases he)) (pr := []) (cuts := []) (n := 16) (by decide +kernel)
def mjSm_fearx_61 : MjSm := ([(3, 209, 209, 0, 0), (0, 3, 3, 0, 0), (0, 0, 0, 0, 0), (0, 0, 0, 0, 0)], [(209, 8, (0, 2, 2, 0, 0))], [((7, 0, 0, 0, 0), [], [(209, 8, (0, 3, 3, 0, 0))])], [(210, 8), (210, 9)], 2)
set_option maxRecDepth 100000 in
theorem mjC_fearx_61 : mjCtr (mjSW 0 240 mjWd_fearx) 91 mjSm_fearx_61 := aiOk_ctr mjUW_ok (env := [(69, mjSm_fearx_57), (48, mjSm_fearx_54), (92, mjSm_fearx_55), (92, mjSm_fearx_60), (48, mjSm_fearx_59)]) (mjEnvC mjC_fearx_57 (mjEnvC mjC_fearx_54 (mjEnvC mjC_fearx_55 (mjEnvC mjC_fearx_60 (mjEnvC mjC_fearx_59 (fun e he => (by cases he))))))) (pr := []) (cuts := [(25, ([(3, 209, 209, 0, 0), (0, 3, 3, 0, 0), (0, 0, 0, 0, 0), (0, 0, 0, 0, 0), (0, 1, 3, 0, 0), (9, 0, 0, 0, 0)], [], [(209, 8, (0, 3, 3, 0, 0))]), [(0, 0, 49975), (1, 4, 2147483647), (0, 0, 60000), (0, 0, 0), (0, 0, 0), (0, 0, 0), (0, 0, 0), (0, 0, 0)])]) (n := 43) (by decide +kernel)
def mjSm_fearx_62 : MjSm := ([(3, 209, 209, 0, 0), (0, 3, 3, 0, 0), (0, 0, 0, 0, 0)], [(209, 8, (0, 2, 2, 0, 0))], [((7, 0, 0, 0, 0), [], [(209, 8, (0, 3, 3, 0, 0))])], [(210, 8), (210, 9)], 3)
set_option maxRecDepth 100000 in
theorem mjC_fearx_62 : mjCtr (mjSW 0 240 mjWd_fearx) 119 mjSm_fearx_62 := aiOk_ctr mjUW_ok (env := [(91, mjSm_fearx_61)]) (mjEnvC mjC_fearx_61 (fun e he => (by cases he))) (pr := []) (cuts := []) (n := 9) (by decide +kernel)
def mjSm_fearx_63 : MjSm := ([(0, 3, 3, 0, 0), (0, 2, 2, 0, 0)], [], [((0, 17, 17, 0, 0), [], [])], [], 1)
set_option maxRecDepth 100000 in
theorem mjC_fearx_63 : mjCtr (mjSW 0 240 mjWd_fearx) 48 mjSm_fearx_63 := aiOk_ctr mjUW_ok (env := []) (fun e he => (by cases he)) (pr := []) (cuts := []) (n := 9) (by decide +kernel)
def mjSm_fearx_64 : MjSm := ([(3, 209, 209, 0, 0), (0, 17, 17, 0, 0), (0, 0, 0, 0, 0)], [], [((7, 0, 0, 0, 0), [], [])], [(210, 9)], 1)
set_option maxRecDepth 100000 in
theorem mjC_fearx_64 : mjCtr (mjSW 0 240 mjWd_fearx) 92 mjSm_fearx_64 := aiOk_ctr mjUW_ok (env := []) (fun e he => (by cases he)) (pr := []) (cuts := []) (n := 16) (by decide +kernel)
def mjSm_fearx_65 : MjSm := ([(3, 209, 209, 0, 0), (0, 3, 3, 0, 0), (0, 1, 1, 0, 0), (0, 0, 0, 0, 0)], [(209, 8, (0, 3, 3, 0, 0))], [((7, 0, 0, 0, 0), [], [(209, 8, (0, 3, 3, 0, 0))])], [(210, 8), (210, 9)], 2)
set_option maxRecDepth 100000 in
theorem mjC_fearx_65 : mjCtr (mjSW 0 240 mjWd_fearx) 91 mjSm_fearx_65 := aiOk_ctr mjUW_ok (env := [(48, mjSm_fearx_63), (48, mjSm_fearx_56), (69, mjSm_fearx_57), (92, mjSm_fearx_58), (92, mjSm_fearx_64)]) (mjEnvC mjC_fearx_63 (mjEnvC mjC_fearx_56 (mjEnvC mjC_fearx_57 (mjEnvC mjC_fearx_58 (mjEnvC mjC_fearx_64 (fun e he => (by cases he))))))) (pr := []) (cuts := [(25, ([(3, 209, 209, 0, 0), (0, 3, 3, 0, 0), (0, 1, 1, 0, 0), (0, 0, 0, 0, 0), (0, 2, 3, 0, 0), (9, 0, 0, 0, 0)], [], [(209, 8, (0, 3, 3, 0, 0))]), [(0, 0, 49975), (1, 4, 2147483647), (0, 0, 60000), (0, 0, 0), (0, 0, 0), (0, 0, 0), (0, 0, 0), (0, 0, 0)])]) (n := 43) (by decide +kernel)
def mjSm_fearx_66 : MjSm := ([(3, 209, 209, 0, 0), (0, 3, 3, 0, 0), (0, 1, 1, 0, 0)], [(209, 8, (0, 3, 3, 0, 0))], [((7, 0, 0, 0, 0), [], [(209, 8, (0, 3, 3, 0, 0))])], [(210, 8), (210, 9)], 3)
set_option maxRecDepth 100000 in
theorem mjC_fearx_66 : mjCtr (mjSW 0 240 mjWd_fearx) 119 mjSm_fearx_66 := aiOk_ctr mjUW_ok (env := [(91, mjSm_fearx_65)]) (mjEnvC mjC_fearx_65 (fun e he => (by cases he))) (pr := []) (cuts := []) (n := 9) (by decide +kernel)
def mjSm_fearx_67 : MjSm := ([(3, 209, 209, 0, 0), (0, 3, 3, 0, 0), (0, 2, 2, 0, 0), (0, 0, 0, 0, 0)], [(209, 8, (0, 3, 3, 0, 0))], [((7, 0, 0, 0, 0), [], [(209, 8, (0, 3, 3, 0, 0))])], [(210, 8), (210, 9)], 2)
set_option maxRecDepth 100000 in
theorem mjC_fearx_67 : mjCtr (mjSW 0 240 mjWd_fearx) 91 mjSm_fearx_67 := aiOk_ctr mjUW_ok (env := [(48, mjSm_fearx_63), (92, mjSm_fearx_64)]) (mjEnvC mjC_fearx_63 (mjEnvC mjC_fearx_64 (fun e he => (by cases he)))) (pr := []) (cuts := [(25, ([(3, 209, 209, 0, 0), (0, 3, 3, 0, 0), (0, 2, 2, 0, 0), (0, 0, 0, 0, 0), (0, 3, 3, 0, 0), (9, 0, 0, 0, 0)], [], [(209, 8, (0, 3, 3, 0, 0))]), [(0, 0, 49975), (1, 4, 2147483647), (0, 0, 60000), (0, 0, 0), (0, 0, 0), (0, 0, 0), (0, 0, 0), (0, 0, 0)])]) (n := 19) (by decide +kernel)
def mjSm_fearx_68 : MjSm := ([(3, 209, 209, 0, 0), (0, 3, 3, 0, 0), (0, 2, 2, 0, 0)], [(209, 8, (0, 3, 3, 0, 0))], [((7, 0, 0, 0, 0), [], [(209, 8, (0, 3, 3, 0, 0))])], [(210, 8), (210, 9)], 3)
set_option maxRecDepth 100000 in
theorem mjC_fearx_68 : mjCtr (mjSW 0 240 mjWd_fearx) 119 mjSm_fearx_68 := aiOk_ctr mjUW_ok (env := [(91, mjSm_fearx_67)]) (mjEnvC mjC_fearx_67 (fun e he => (by cases he))) (pr := []) (cuts := []) (n := 9) (by decide +kernel)
def mjSm_fearx_69 : MjSm := ([(3, 0, 0, 0, 0), (0, -2147483648, 2147483647, 0, 0)], [(209, 8, (0, 0, 0, 0, 0))], [((0, -1, -1, 0, 0), [(1, 2, 2147483647)], [(209, 8, (0, 0, 0, 0, 0))]), ((0, 0, 0, 0, 0), [(1, 0, 0)], [(209, 8, (0, 3, 3, 0, 0))]), ((0, 0, 0, 0, 0), [(1, 1, 1)], [(209, 8, (0, 3, 3, 0, 0))]), ((0, -1, -1, 0, 0), [(1, -2147483648, -1)], [(209, 8, (0, 0, 0, 0, 0))])], [(210, 2), (210, 3), (210, 7), (210, 8), (210, 9), (211, 3), (211, 4), (211, 5), (211, 6), (211, 7), (212, 255), (213, 255), (214, 255), (216, 255), (217, 255), (218, 255)], 5)
set_option maxRecDepth 100000 in
theorem mjC_fearx_69 : mjCtr (mjSW 0 240 mjWd_fearx) 148 mjSm_fearx_69 := aiOk_ctr mjUW_ok (env := [(119, mjSm_fearx_68), (119, mjSm_fearx_36), (119, mjSm_fearx_23), (119, mjSm_fearx_66), (119, mjSm_fearx_53), (119, mjSm_fearx_32), (119, mjSm_fearx_38), (119, mjSm_fearx_51), (119, mjSm_fearx_62), (119, mjSm_fearx_47), (119, mjSm_fearx_17), (119, mjSm_fearx_21), (70, mjSm_fearx_0), (72, mjSm_fearx_8)]) (mjEnvC mjC_fearx_68 (mjEnvC mjC_fearx_36 (mjEnvC mjC_fearx_23 (mjEnvC mjC_fearx_66 (mjEnvC mjC_fearx_53 (mjEnvC mjC_fearx_32 (mjEnvC mjC_fearx_38 (mjEnvC mjC_fearx_51 (mjEnvC mjC_fearx_62 (mjEnvC mjC_fearx_47 (mjEnvC mjC_fearx_17 (mjEnvC mjC_fearx_21 (mjEnvC mjC_fearx_0 (mjEnvC mjC_fearx_8 (fun e he => (by cases he)))))))))))))))) (pr := [1]) (cuts := []) (n := 302) (by decide +kernel)
def mjWd_fearm : MjWd := [(240, 57, (0, 0, 3))]
theorem mjWd_fearm_ok : mjWdB mjWd_fearm = true := by decide +kernel
def mjSm_fearm_0 : MjSm := ([(0, -2147483648, 2147483647, 0, 0), (0, 0, 0, 0, 0), (0, 1, 1, 0, 0)], [], [((0, 1, 1, 0, 0), [(0, 0, 1)], []), ((0, 0, 0, 0, 0), [(0, 2, 2147483647)], []), ((0, 0, 0, 0, 0), [(0, -2147483648, -1)], [])], [], 1)
set_option maxRecDepth 100000 in
theorem mjC_fearm_0 : mjCtr (mjSW 240 290 mjWd_fearm) 221 mjSm_fearm_0 := aiOk_ctr mjUW_ok (env := []) (fun e he => (by cases he)) (pr := [0]) (cuts := []) (n := 12) (by decide +kernel)
def mjSm_fearm_1 : MjSm := ([(3, 240, 240, 0, 0)], [], [((0, 4, 4, 0, 0), [], [])], [], 1)
set_option maxRecDepth 100000 in
theorem mjC_fearm_1 : mjCtr (mjSW 240 290 mjWd_fearm) 220 mjSm_fearm_1 := aiOk_ctr mjUW_ok (env := []) (fun e he => (by cases he)) (pr := []) (cuts := []) (n := 9) (by decide +kernel)
def mjSm_fearm_2 : MjSm := ([(3, 240, 240, 0, 0)], [], [((0, 3, 3, 0, 0), [], [])], [], 1)
set_option maxRecDepth 100000 in
theorem mjC_fearm_2 : mjCtr (mjSW 240 290 mjWd_fearm) 222 mjSm_fearm_2 := aiOk_ctr mjUW_ok (env := []) (fun e he => (by cases he)) (pr := []) (cuts := []) (n := 9) (by decide +kernel)
def mjSm_fearm_3 : MjSm := ([(3, 240, 240, 0, 0), (0, 0, 0, 0, 0), (0, 0, 0, 0, 0)], [], [((0, 0, 0, 0, 0), [], [])], [], 1)
set_option maxRecDepth 100000 in
theorem mjC_fearm_3 : mjCtr (mjSW 240 290 mjWd_fearm) 223 mjSm_fearm_3 := aiOk_ctr mjUW_ok (env := []) (fun e he => (by cases he)) (pr := []) (cuts := []) (n := 14) (by decide +kernel)
def mjSm_fearm_4 : MjSm := ([(0, 0, 0, 0, 0), (0, 0, 0, 0, 0), (0, 3, 3, 0, 0)], [], [((0, 1, 1, 0, 0), [], [])], [], 1)
set_option maxRecDepth 100000 in
theorem mjC_fearm_4 : mjCtr (mjSW 240 290 mjWd_fearm) 221 mjSm_fearm_4 := aiOk_ctr mjUW_ok (env := []) (fun e he => (by cases he)) (pr := []) (cuts := []) (n := 12) (by decide +kernel)
def mjSm_fearm_5 : MjSm := ([(3, 240, 240, 0, 0), (0, 0, 0, 0, 0)], [], [((0, 1, 1, 0, 0), [], [])], [], 2)
set_option maxRecDepth 100000 in
theorem mjC_fearm_5 : mjCtr (mjSW 240 290 mjWd_fearm) 219 mjSm_fearm_5 := aiOk_ctr mjUW_ok (env := [(221, mjSm_fearm_4), (220, mjSm_fearm_1)]) (mjEnvC mjC_fearm_4 (mjEnvC mjC_fearm_1 (fun e he => (by cases he)))) (pr := []) (cuts := []) (n := 11) (by decide +kernel)
def mjSm_fearm_6 : MjSm := ([(3, 240, 240, 0, 0), (0, 0, 0, 0, 0), (0, 1, 1, 0, 0)], [], [((0, 0, 0, 0, 0), [], [])], [], 1)
set_option maxRecDepth 100000 in
theorem mjC_fearm_6 : mjCtr (mjSW 240 290 mjWd_fearm) 223 mjSm_fearm_6 := aiOk_ctr mjUW_ok (env := []) (fun e he => (by cases he)) (pr := []) (cuts := []) (n := 14) (by decide +kernel)
def mjSm_fearm_7 : MjSm := ([(3, 240, 240, 0, 0), (0, 0, 0, 0, 0), (0, 1, 2, 0, 0)], [], [((0, 0, 0, 0, 0), [], [])], [], 1)
set_option maxRecDepth 100000 in
theorem mjC_fearm_7 : mjCtr (mjSW 240 290 mjWd_fearm) 224 mjSm_fearm_7 := aiOk_ctr mjUW_ok (env := []) (fun e he => (by cases he)) (pr := []) (cuts := []) (n := 14) (by decide +kernel)
def mjSm_fearm_8 : MjSm := ([(3, 240, 240, 0, 0), (0, 0, 0, 0, 0), (0, 1, 2, 0, 0)], [], [((0, 0, 0, 0, 0), [], [])], [], 1)
set_option maxRecDepth 100000 in
theorem mjC_fearm_8 : mjCtr (mjSW 240 290 mjWd_fearm) 223 mjSm_fearm_8 := aiOk_ctr mjUW_ok (env := []) (fun e he => (by cases he)) (pr := []) (cuts := []) (n := 14) (by decide +kernel)
def mjSm_fearm_9 : MjSm := ([(3, 240, 240, 0, 0), (0, 0, 0, 0, 0), (0, 0, 0, 0, 0), (0, 0, 0, 0, 0)], [(240, 57, (0, 0, 0, 0, 0))], [((7, 0, 0, 0, 0), [], [(240, 57, (0, 0, 0, 0, 0))])], [(241, 57), (241, 58)], 3)
set_option maxRecDepth 100000 in
theorem mjC_fearm_9 : mjCtr (mjSW 240 290 mjWd_fearm) 241 mjSm_fearm_9 := aiOk_ctr mjUW_ok (env := [(223, mjSm_fearm_3), (219, mjSm_fearm_5), (222, mjSm_fearm_2), (223, mjSm_fearm_8), (224, mjSm_fearm_7)]) (mjEnvC mjC_fearm_3 (mjEnvC mjC_fearm_5 (mjEnvC mjC_fearm_2 (mjEnvC mjC_fearm_8 (mjEnvC mjC_fearm_7 (fun e he => (by cases he))))))) (pr := []) (cuts := [(37, ([(3, 240, 240, 0, 0), (0, 0, 0, 0, 0), (0, 0, 0, 0, 0), (0, 0, 0, 0, 0), (0, 1, 3, 0, 0), (9, 0, 0, 0, 0)], [], [(240, 57, (0, 0, 0, 0, 0))]), [(0, 0, 49963), (1, 4, 2147483647), (0, 0, 60000), (0, 0, 0), (0, 0, 0), (0, 0, 0), (0, 0, 0), (0, 0, 0)])]) (n := 47) (by decide +kernel)
def mjSm_fearm_10 : MjSm := ([(3, 240, 240, 0, 0), (0, 0, 0, 0, 0), (0, 2, 2, 0, 0)], [], [((0, 0, 0, 0, 0), [], [])], [], 1)
set_option maxRecDepth 100000 in
theorem mjC_fearm_10 : mjCtr (mjSW 240 290 mjWd_fearm) 224 mjSm_fearm_10 := aiOk_ctr mjUW_ok (env := []) (fun e he => (by cases he)) (pr := []) (cuts := []) (n := 14) (by decide +kernel)
def mjSm_fearm_11 : MjSm := ([(3, 240, 240, 0, 0), (0, 0, 0, 0, 0), (0, 2, 2, 0, 0)], [], [((0, 0, 0, 0, 0), [], [])], [], 1)
set_option maxRecDepth 100000 in
theorem mjC_fearm_11 : mjCtr (mjSW 240 290 mjWd_fearm) 223 mjSm_fearm_11 := aiOk_ctr mjUW_ok (env := []) (fun e he => (by cases he)) (pr := []) (cuts := []) (n := 14) (by decide +kernel)
def mjSm_fearm_12 : MjSm := ([(3, 240, 240, 0, 0), (0, 0, 0, 0, 0), (0, 1, 1, 0, 0), (0, 0, 0, 0, 0)], [(240, 57, (0, 0, 0, 0, 0))], [((7, 0, 0, 0, 0), [], [(240, 57, (0, 0, 0, 0, 0))])], [(241, 57), (241, 58)], 3)
set_option maxRecDepth 100000 in
theorem mjC_fearm_12 : mjCtr (mjSW 240 290 mjWd_fearm) 241 mjSm_fearm_12 := aiOk_ctr mjUW_ok (env := [(223, mjSm_fearm_11), (219, mjSm_fearm_5), (222, mjSm_fearm_2), (223, mjSm_fearm_6), (224, mjSm_fearm_10)]) (mjEnvC mjC_fearm_11 (mjEnvC mjC_fearm_5 (mjEnvC mjC_fearm_2 (mjEnvC mjC_fearm_6 (mjEnvC mjC_fearm_10 (fun e he => (by cases he))))))) (pr := []) (cuts := [(37, ([(3, 240, 240, 0, 0), (0, 0, 0, 0, 0), (0, 1, 1, 0, 0), (0, 0, 0, 0, 0), (0, 2, 3, 0, 0), (9, 0, 0, 0, 0)], [], [(240, 57, (0, 0, 0, 0, 0))]), [(0, 0, 49963), (1, 4, 2147483647), (0, 0, 60000), (0, 0, 0), (0, 0, 0), (0, 0, 0), (0, 0, 0), (0, 0, 0)])]) (n := 47) (by decide +kernel)
def mjSm_fearm_13 : MjSm := ([(3, 240, 240, 0, 0), (0, 0, 0, 0, 0), (0, 2, 2, 0, 0), (0, 0, 0, 0, 0)], [(240, 57, (0, 0, 0, 0, 0))], [((7, 0, 0, 0, 0), [], [(240, 57, (0, 0, 0, 0, 0))])], [(241, 57), (241, 58)], 2)
set_option maxRecDepth 100000 in
theorem mjC_fearm_13 : mjCtr (mjSW 240 290 mjWd_fearm) 241 mjSm_fearm_13 := aiOk_ctr mjUW_ok (env := [(222, mjSm_fearm_2), (223, mjSm_fearm_11)]) (mjEnvC mjC_fearm_2 (mjEnvC mjC_fearm_11 (fun e he => (by cases he)))) (pr := []) (cuts := [(37, ([(3, 240, 240, 0, 0), (0, 0, 0, 0, 0), (0, 2, 2, 0, 0), (0, 0, 0, 0, 0), (0, 3, 3, 0, 0), (9, 0, 0, 0, 0)], [], [(240, 57, (0, 0, 0, 0, 0))]), [(0, 0, 49963), (1, 4, 2147483647), (0, 0, 60000), (0, 0, 0), (0, 0, 0), (0, 0, 0), (0, 0, 0), (0, 0, 0)])]) (n := 18) (by decide +kernel)
def mjSm_fearm_14 : MjSm := ([(3, 240, 240, 0, 0), (0, 1, 1, 0, 0), (0, 0, 0, 0, 0)], [], [((0, 0, 0, 0, 0), [], [])], [], 1)
set_option maxRecDepth 100000 in
theorem mjC_fearm_14 : mjCtr (mjSW 240 290 mjWd_fearm) 223 mjSm_fearm_14 := aiOk_ctr mjUW_ok (env := []) (fun e he => (by cases he)) (pr := []) (cuts := []) (n := 14) (by decide +kernel)
def mjSm_fearm_15 : MjSm := ([(0, 1, 1, 0, 0), (0, 0, 0, 0, 0), (0, 3, 3, 0, 0)], [], [((0, 1, 1, 0, 0), [], [])], [], 1)
set_option maxRecDepth 100000 in
theorem mjC_fearm_15 : mjCtr (mjSW 240 290 mjWd_fearm) 221 mjSm_fearm_15 := aiOk_ctr mjUW_ok (env := []) (fun e he => (by cases he)) (pr := []) (cuts := []) (n := 12) (by decide +kernel)
def mjSm_fearm_16 : MjSm := ([(3, 240, 240, 0, 0), (0, 1, 1, 0, 0)], [], [((0, 1, 1, 0, 0), [], [])], [], 2)
set_option maxRecDepth 100000 in
theorem mjC_fearm_16 : mjCtr (mjSW 240 290 mjWd_fearm) 219 mjSm_fearm_16 := aiOk_ctr mjUW_ok (env := [(221, mjSm_fearm_15), (220, mjSm_fearm_1)]) (mjEnvC mjC_fearm_15 (mjEnvC mjC_fearm_1 (fun e he => (by cases he)))) (pr := []) (cuts := []) (n := 11) (by decide +kernel)
def mjSm_fearm_17 : MjSm := ([(3, 240, 240, 0, 0), (0, 1, 1, 0, 0), (0, 1, 1, 0, 0)], [], [((0, 0, 0, 0, 0), [], [])], [], 1)
set_option maxRecDepth 100000 in
theorem mjC_fearm_17 : mjCtr (mjSW 240 290 mjWd_fearm) 223 mjSm_fearm_17 := aiOk_ctr mjUW_ok (env := []) (fun e he => (by cases he)) (pr := []) (cuts := []) (n := 14) (by decide +kernel)
def mjSm_fearm_18 : MjSm := ([(3, 240, 240, 0, 0), (0, 1, 1, 0, 0), (0, 1, 2, 0, 0)], [], [((0, 0, 0, 0, 0), [], [])], [], 1)
set_option maxRecDepth 100000 in
theorem mjC_fearm_18 : mjCtr (mjSW 240 290 mjWd_fearm) 224 mjSm_fearm_18 := aiOk_ctr mjUW_ok (env := []) (fun e he => (by cases he)) (pr := []) (cuts := []) (n := 14) (by decide +kernel)
def mjSm_fearm_19 : MjSm := ([(3, 240, 240, 0, 0), (0, 1, 1, 0, 0), (0, 1, 2, 0, 0)], [], [((0, 0, 0, 0, 0), [], [])], [], 1)
set_option maxRecDepth 100000 in
theorem mjC_fearm_19 : mjCtr (mjSW 240 290 mjWd_fearm) 223 mjSm_fearm_19 := aiOk_ctr mjUW_ok (env := []) (fun e he => (by cases he)) (pr := []) (cuts := []) (n := 14) (by decide +kernel)
def mjSm_fearm_20 : MjSm := ([(3, 240, 240, 0, 0), (0, 1, 1, 0, 0), (0, 0, 0, 0, 0), (0, 0, 0, 0, 0)], [(240, 57, (0, 0, 0, 0, 0))], [((7, 0, 0, 0, 0), [], [(240, 57, (0, 1, 1, 0, 0))])], [(241, 57), (241, 58)], 3)
set_option maxRecDepth 100000 in
theorem mjC_fearm_20 : mjCtr (mjSW 240 290 mjWd_fearm) 241 mjSm_fearm_20 := aiOk_ctr mjUW_ok (env := [(219, mjSm_fearm_16), (223, mjSm_fearm_14), (222, mjSm_fearm_2), (223, mjSm_fearm_19), (224, mjSm_fearm_18)]) (mjEnvC mjC_fearm_16 (mjEnvC mjC_fearm_14 (mjEnvC mjC_fearm_2 (mjEnvC mjC_fearm_19 (mjEnvC mjC_fearm_18 (fun e he => (by cases he))))))) (pr := []) (cuts := [(37, ([(3, 240, 240, 0, 0), (0, 1, 1, 0, 0), (0, 0, 0, 0, 0), (0, 0, 0, 0, 0), (0, 1, 3, 0, 0), (9, 0, 0, 0, 0)], [], [(240, 57, (0, 1, 1, 0, 0))]), [(0, 0, 49963), (1, 4, 2147483647), (0, 0, 60000), (0, 0, 0), (0, 0, 0), (0, 0, 0), (0, 0, 0), (0, 0, 0)])]) (n := 47) (by decide +kernel)
def mjSm_fearm_21 : MjSm := ([(3, 240, 240, 0, 0), (0, 1, 1, 0, 0), (0, 2, 2, 0, 0)], [], [((0, 0, 0, 0, 0), [], [])], [], 1)
set_option maxRecDepth 100000 in
theorem mjC_fearm_21 : mjCtr (mjSW 240 290 mjWd_fearm) 224 mjSm_fearm_21 := aiOk_ctr mjUW_ok (env := []) (fun e he => (by cases he)) (pr := []) (cuts := []) (n := 14) (by decide +kernel)
def mjSm_fearm_22 : MjSm := ([(3, 240, 240, 0, 0), (0, 1, 1, 0, 0), (0, 2, 2, 0, 0)], [], [((0, 0, 0, 0, 0), [], [])], [], 1)
set_option maxRecDepth 100000 in
theorem mjC_fearm_22 : mjCtr (mjSW 240 290 mjWd_fearm) 223 mjSm_fearm_22 := aiOk_ctr mjUW_ok (env := []) (fun e he => (by cases he)) (pr := []) (cuts := []) (n := 14) (by decide +kernel)
def mjSm_fearm_23 : MjSm := ([(3, 240, 240, 0, 0), (0, 1, 1, 0, 0), (0, 1, 1, 0, 0), (0, 0, 0, 0, 0)], [(240, 57, (0, 1, 1, 0, 0))], [((7, 0, 0, 0, 0), [], [(240, 57, (0, 1, 1, 0, 0))])], [(241, 57), (241, 58)], 3)
set_option maxRecDepth 100000 in
theorem mjC_fearm_23 : mjCtr (mjSW 240 290 mjWd_fearm) 241 mjSm_fearm_23 := aiOk_ctr mjUW_ok (env := [(219, mjSm_fearm_16), (224, mjSm_fearm_21), (222, mjSm_fearm_2), (223, mjSm_fearm_17), (223, mjSm_fearm_22)]) (mjEnvC mjC_fearm_16 (mjEnvC mjC_fearm_21 (mjEnvC mjC_fearm_2 (mjEnvC mjC_fearm_17 (mjEnvC mjC_fearm_22 (fun e he => (by cases he))))))) (pr := []) (cuts := [(37, ([(3, 240, 240, 0, 0), (0, 1, 1, 0, 0), (0, 1, 1, 0, 0), (0, 0, 0, 0, 0), (0, 2, 3, 0, 0), (9, 0, 0, 0, 0)], [], [(240, 57, (0, 1, 1, 0, 0))]), [(0, 0, 49963), (1, 4, 2147483647), (0, 0, 60000), (0, 0, 0), (0, 0, 0), (0, 0, 0), (0, 0, 0), (0, 0, 0)])]) (n := 47) (by decide +kernel)
def mjSm_fearm_24 : MjSm := ([(3, 240, 240, 0, 0), (0, 1, 1, 0, 0), (0, 2, 2, 0, 0), (0, 0, 0, 0, 0)], [(240, 57, (0, 1, 1, 0, 0))], [((7, 0, 0, 0, 0), [], [(240, 57, (0, 1, 1, 0, 0))])], [(241, 57), (241, 58)], 2)
set_option maxRecDepth 100000 in
theorem mjC_fearm_24 : mjCtr (mjSW 240 290 mjWd_fearm) 241 mjSm_fearm_24 := aiOk_ctr mjUW_ok (env := [(222, mjSm_fearm_2), (223, mjSm_fearm_22)]) (mjEnvC mjC_fearm_2 (mjEnvC mjC_fearm_22 (fun e he => (by cases he)))) (pr := []) (cuts := [(37, ([(3, 240, 240, 0, 0), (0, 1, 1, 0, 0), (0, 2, 2, 0, 0), (0, 0, 0, 0, 0), (0, 3, 3, 0, 0), (9, 0, 0, 0, 0)], [], [(240, 57, (0, 1, 1, 0, 0))]), [(0, 0, 49963), (1, 4, 2147483647), (0, 0, 60000), (0, 0, 0), (0, 0, 0), (0, 0, 0), (0, 0, 0), (0, 0, 0)])]) (n := 18) (by decide +kernel)
def mjSm_fearm_25 : MjSm := ([(3, 240, 240, 0, 0), (0, 2, 2, 0, 0), (0, 0, 0, 0, 0)], [], [((0, 0, 0, 0, 0), [], [])], [], 1)
set_option maxRecDepth 100000 in
theorem mjC_fearm_25 : mjCtr (mjSW 240 290 mjWd_fearm) 223 mjSm_fearm_25 := aiOk_ctr mjUW_ok (env := []) (fun e he => (by cases he)) (pr := []) (cuts := []) (n := 14) (by decide +kernel)
def mjSm_fearm_26 : MjSm := ([(0, 2, 2, 0, 0), (0, 0, 0, 0, 0), (0, 3, 3, 0, 0)], [], [((0, 1, 1, 0, 0), [], [])], [], 1)
set_option maxRecDepth 100000 in
theorem mjC_fearm_26 : mjCtr (mjSW 240 290 mjWd_fearm) 221 mjSm_fearm_26 := aiOk_ctr mjUW_ok (env := []) (fun e he => (by cases he)) (pr := []) (cuts := []) (n := 12) (by decide +kernel)
def mjSm_fearm_27 : MjSm := ([(3, 240, 240, 0, 0), (0, 2, 2, 0, 0)], [], [((0, 1, 1, 0, 0), [], [])], [], 2)
set_option maxRecDepth 100000 in
theorem mjC_fearm_27 : mjCtr (mjSW 240 290 mjWd_fearm) 219 mjSm_fearm_27 := aiOk_ctr mjUW_ok (env := [(221, mjSm_fearm_26), (220, mjSm_fearm_1)]) (mjEnvC mjC_fearm_26 (mjEnvC mjC_fearm_1 (fun e he => (by cases he)))) (pr := []) (cuts := []) (n := 11) (by decide +kernel)
def mjSm_fearm_28 : MjSm := ([(3, 240, 240, 0, 0), (0, 2, 2, 0, 0), (0, 1, 1, 0, 0)], [], [((0, 0, 0, 0, 0), [], [])], [], 1)
set_option maxRecDepth 100000 in
theorem mjC_fearm_28 : mjCtr (mjSW 240 290 mjWd_fearm) 223 mjSm_fearm_28 := aiOk_ctr mjUW_ok (env := []) (fun e he => (by cases he)) (pr := []) (cuts := []) (n := 14) (by decide +kernel)
def mjSm_fearm_29 : MjSm := ([(3, 240, 240, 0, 0), (0, 2, 2, 0, 0), (0, 1, 2, 0, 0)], [], [((0, 0, 0, 0, 0), [], [])], [], 1)
set_option maxRecDepth 100000 in
theorem mjC_fearm_29 : mjCtr (mjSW 240 290 mjWd_fearm) 224 mjSm_fearm_29 := aiOk_ctr mjUW_ok (env := []) (fun e he => (by cases he)) (pr := []) (cuts := []) (n := 14) (by decide +kernel)
def mjSm_fearm_30 : MjSm := ([(3, 240, 240, 0, 0), (0, 2, 2, 0, 0), (0, 1, 2, 0, 0)], [], [((0, 0, 0, 0, 0), [], [])], [], 1)
set_option maxRecDepth 100000 in
theorem mjC_fearm_30 : mjCtr (mjSW 240 290 mjWd_fearm) 223 mjSm_fearm_30 := aiOk_ctr mjUW_ok (env := []) (fun e he => (by cases he)) (pr := []) (cuts := []) (n := 14) (by decide +kernel)
def mjSm_fearm_31 : MjSm := ([(3, 240, 240, 0, 0), (0, 2, 2, 0, 0), (0, 0, 0, 0, 0), (0, 0, 0, 0, 0)], [(240, 57, (0, 1, 1, 0, 0))], [((7, 0, 0, 0, 0), [], [(240, 57, (0, 2, 2, 0, 0))])], [(241, 57), (241, 58)], 3)
set_option maxRecDepth 100000 in
theorem mjC_fearm_31 : mjCtr (mjSW 240 290 mjWd_fearm) 241 mjSm_fearm_31 := aiOk_ctr mjUW_ok (env := [(219, mjSm_fearm_27), (223, mjSm_fearm_25), (222, mjSm_fearm_2), (224, mjSm_fearm_29), (223, mjSm_fearm_30)]) (mjEnvC mjC_fearm_27 (mjEnvC mjC_fearm_25 (mjEnvC mjC_fearm_2 (mjEnvC mjC_fearm_29 (mjEnvC mjC_fearm_30 (fun e he => (by cases he))))))) (pr := []) (cuts := [(37, ([(3, 240, 240, 0, 0), (0, 2, 2, 0, 0), (0, 0, 0, 0, 0), (0, 0, 0, 0, 0), (0, 1, 3, 0, 0), (9, 0, 0, 0, 0)], [], [(240, 57, (0, 2, 2, 0, 0))]), [(0, 0, 49963), (1, 4, 2147483647), (0, 0, 60000), (0, 0, 0), (0, 0, 0), (0, 0, 0), (0, 0, 0), (0, 0, 0)])]) (n := 47) (by decide +kernel)
def mjSm_fearm_32 : MjSm := ([(3, 240, 240, 0, 0), (0, 2, 2, 0, 0), (0, 2, 2, 0, 0)], [], [((0, 0, 0, 0, 0), [], [])], [], 1)
set_option maxRecDepth 100000 in
theorem mjC_fearm_32 : mjCtr (mjSW 240 290 mjWd_fearm) 224 mjSm_fearm_32 := aiOk_ctr mjUW_ok (env := []) (fun e he => (by cases he)) (pr := []) (cuts := []) (n := 14) (by decide +kernel)
def mjSm_fearm_33 : MjSm := ([(3, 240, 240, 0, 0), (0, 2, 2, 0, 0), (0, 2, 2, 0, 0)], [], [((0, 0, 0, 0, 0), [], [])], [], 1)
set_option maxRecDepth 100000 in
theorem mjC_fearm_33 : mjCtr (mjSW 240 290 mjWd_fearm) 223 mjSm_fearm_33 := aiOk_ctr mjUW_ok (env := []) (fun e he => (by cases he)) (pr := []) (cuts := []) (n := 14) (by decide +kernel)
def mjSm_fearm_34 : MjSm := ([(3, 240, 240, 0, 0), (0, 2, 2, 0, 0), (0, 1, 1, 0, 0), (0, 0, 0, 0, 0)], [(240, 57, (0, 2, 2, 0, 0))], [((7, 0, 0, 0, 0), [], [(240, 57, (0, 2, 2, 0, 0))])], [(241, 57), (241, 58)], 3)
set_option maxRecDepth 100000 in
theorem mjC_fearm_34 : mjCtr (mjSW 240 290 mjWd_fearm) 241 mjSm_fearm_34 := aiOk_ctr mjUW_ok (env := [(219, mjSm_fearm_27), (223, mjSm_fearm_28), (224, mjSm_fearm_32), (222, mjSm_fearm_2), (223, mjSm_fearm_33)]) (mjEnvC mjC_fearm_27 (mjEnvC mjC_fearm_28 (mjEnvC mjC_fearm_32 (mjEnvC mjC_fearm_2 (mjEnvC mjC_fearm_33 (fun e he => (by cases he))))))) (pr := []) (cuts := [(37, ([(3, 240, 240, 0, 0), (0, 2, 2, 0, 0), (0, 1, 1, 0, 0), (0, 0, 0, 0, 0), (0, 2, 3, 0, 0), (9, 0, 0, 0, 0)], [], [(240, 57, (0, 2, 2, 0, 0))]), [(0, 0, 49963), (1, 4, 2147483647), (0, 0, 60000), (0, 0, 0), (0, 0, 0), (0, 0, 0), (0, 0, 0), (0, 0, 0)])]) (n := 47) (by decide +kernel)
def mjSm_fearm_35 : MjSm := ([(3, 240, 240, 0, 0), (0, 2, 2, 0, 0), (0, 2, 2, 0, 0), (0, 0, 0, 0, 0)], [(240, 57, (0, 2, 2, 0, 0))], [((7, 0, 0, 0, 0), [], [(240, 57, (0, 2, 2, 0, 0))])], [(241, 57), (241, 58)], 2)
set_option maxRecDepth 100000 in
theorem mjC_fearm_35 : mjCtr (mjSW 240 290 mjWd_fearm) 241 mjSm_fearm_35 := aiOk_ctr mjUW_ok (env := [(222, mjSm_fearm_2), (223, mjSm_fearm_33)]) (mjEnvC mjC_fearm_2 (mjEnvC mjC_fearm_33 (fun e he => (by cases he)))) (pr := []) (cuts := [(37, ([(3, 240, 240, 0, 0), (0, 2, 2, 0, 0), (0, 2, 2, 0, 0), (0, 0, 0, 0, 0), (0, 3, 3, 0, 0), (9, 0, 0, 0, 0)], [], [(240, 57, (0, 2, 2, 0, 0))]), [(0, 0, 49963), (1, 4, 2147483647), (0, 0, 60000), (0, 0, 0), (0, 0, 0), (0, 0, 0), (0, 0, 0), (0, 0, 0)])]) (n := 18) (by decide +kernel)
def mjSm_fearm_36 : MjSm := ([(3, 240, 240, 0, 0), (0, 3, 3, 0, 0), (0, 0, 0, 0, 0)], [], [((0, 0, 0, 0, 0), [], [])], [], 1)
set_option maxRecDepth 100000 in
theorem mjC_fearm_36 : mjCtr (mjSW 240 290 mjWd_fearm) 223 mjSm_fearm_36 := aiOk_ctr mjUW_ok (env := []) (fun e he => (by cases he)) (pr := []) (cuts := []) (n := 14) (by decide +kernel)
def mjSm_fearm_37 : MjSm := ([(0, 3, 3, 0, 0), (0, 0, 0, 0, 0), (0, 3, 3, 0, 0)], [], [((0, 1, 1, 0, 0), [], [])], [], 1)
set_option maxRecDepth 100000 in
theorem mjC_fearm_37 : mjCtr (mjSW 240 290 mjWd_fearm) 221 mjSm_fearm_37 := aiOk_ctr mjUW_ok (env := []) (fun e he => (by cases he)) (pr := []) (cuts := []) (n := 12) (by decide +kernel)
def mjSm_fearm_38 : MjSm := ([(3, 240, 240, 0, 0), (0, 3, 3, 0, 0)], [], [((0, 1, 1, 0, 0), [], [])], [], 2)
set_option maxRecDepth 100000 in
theorem mjC_fearm_38 : mjCtr (mjSW 240 290 mjWd_fearm) 219 mjSm_fearm_38 := aiOk_ctr mjUW_ok (env := [(221, mjSm_fearm_37), (220, mjSm_fearm_1)]) (mjEnvC mjC_fearm_37 (mjEnvC mjC_fearm_1 (fun e he => (by cases he)))) (pr := []) (cuts := []) (n := 11) (by decide +kernel)
def mjSm_fearm_39 : MjSm := ([(3, 240, 240, 0, 0), (0, 3, 3, 0, 0), (0, 1, 1, 0, 0)], [], [((0, 0, 0, 0, 0), [], [])], [], 1)
set_option maxRecDepth 100000 in
theorem mjC_fearm_39 : mjCtr (mjSW 240 290 mjWd_fearm) 223 mjSm_fearm_39 := aiOk_ctr mjUW_ok (env := []) (fun e he => (by cases he)) (pr := []) (cuts := []) (n := 14) (by decide +kernel)
def mjSm_fearm_40 : MjSm := ([(3, 240, 240, 0, 0), (0, 3, 3, 0, 0), (0, 1, 2, 0, 0)], [], [((0, 0, 0, 0, 0), [], [])], [], 1)
set_option maxRecDepth 100000 in
theorem mjC_fearm_40 : mjCtr (mjSW 240 290 mjWd_fearm) 224 mjSm_fearm_40 := aiOk_ctr mjUW_ok (env := []) (fun e he => (by cases he)) (pr := []) (cuts := []) (n := 14) (by decide +kernel)
def mjSm_fearm_41 : MjSm := ([(3, 240, 240, 0, 0), (0, 3, 3, 0, 0), (0, 1, 2, 0, 0)], [], [((0, 0, 0, 0, 0), [], [])], [], 1)
set_option maxRecDepth 100000 in
theorem mjC_fearm_41 : mjCtr (mjSW 240 290 mjWd_fearm) 223 mjSm_fearm_41 := aiOk_ctr mjUW_ok (env := []) (fun e he => (by cases he)) (pr := []) (cuts := []) (n := 14) (by decide +kernel)
def mjSm_fearm_42 : MjSm := ([(3, 240, 240, 0, 0), (0, 3, 3, 0, 0), (0, 0, 0, 0, 0), (0, 0, 0, 0, 0)], [(240, 57, (0, 2, 2, 0, 0))], [((7, 0, 0, 0, 0), [], [(240, 57, (0, 3, 3, 0, 0))])], [(241, 57), (241, 58)], 3)
set_option maxRecDepth 100000 in
theorem mjC_fearm_42 : mjCtr (mjSW 240 290 mjWd_fearm) 241 mjSm_fearm_42 := aiOk_ctr mjUW_ok (env := [(219, mjSm_fearm_38), (222, mjSm_fearm_2), (223, mjSm_fearm_36), (224, mjSm_fearm_40), (223, mjSm_fearm_41)]) (mjEnvC mjC_fearm_38 (mjEnvC mjC_fearm_2 (mjEnvC mjC_fearm_36 (mjEnvC mjC_fearm_40 (mjEnvC mjC_fearm_41 (fun e he => (by cases he))))))) (pr := []) (cuts := [(37, ([(3, 240, 240, 0, 0), (0, 3, 3, 0, 0), (0, 0, 0, 0, 0), (0, 0, 0, 0, 0), (0, 1, 3, 0, 0), (9, 0, 0, 0, 0)], [], [(240, 57, (0, 3, 3, 0, 0))]), [(0, 0, 49963), (1, 4, 2147483647), (0, 0, 60000), (0, 0, 0), (0, 0, 0), (0, 0, 0), (0, 0, 0), (0, 0, 0)])]) (n := 47) (by decide +kernel)
def mjSm_fearm_43 : MjSm := ([(3, 240, 240, 0, 0), (0, 3, 3, 0, 0), (0, 2, 2, 0, 0)], [], [((0, 0, 0, 0, 0), [], [])], [], 1)
set_option maxRecDepth 100000 in
theorem mjC_fearm_43 : mjCtr (mjSW 240 290 mjWd_fearm) 224 mjSm_fearm_43 := aiOk_ctr mjUW_ok (env := []) (fun e he => (by cases he)) (pr := []) (cuts := []) (n := 14) (by decide +kernel)
def mjSm_fearm_44 : MjSm := ([(3, 240, 240, 0, 0), (0, 3, 3, 0, 0), (0, 2, 2, 0, 0)], [], [((0, 0, 0, 0, 0), [], [])], [], 1)
set_option maxRecDepth 100000 in
theorem mjC_fearm_44 : mjCtr (mjSW 240 290 mjWd_fearm) 223 mjSm_fearm_44 := aiOk_ctr mjUW_ok (env := []) (fun e he => (by cases he)) (pr := []) (cuts := []) (n := 14) (by decide +kernel)
def mjSm_fearm_45 : MjSm := ([(3, 240, 240, 0, 0), (0, 3, 3, 0, 0), (0, 1, 1, 0, 0), (0, 0, 0, 0, 0)], [(240, 57, (0, 3, 3, 0, 0))], [((7, 0, 0, 0, 0), [], [(240, 57, (0, 3, 3, 0, 0))])], [(241, 57), (241, 58)], 3)
set_option maxRecDepth 100000 in
theorem mjC_fearm_45 : mjCtr (mjSW 240 290 mjWd_fearm) 241 mjSm_fearm_45 := aiOk_ctr mjUW_ok (env := [(224, mjSm_fearm_43), (219, mjSm_fearm_38), (223, mjSm_fearm_44), (223, mjSm_fearm_39), (222, mjSm_fearm_2)]) (mjEnvC mjC_fearm_43 (mjEnvC mjC_fearm_38 (mjEnvC mjC_fearm_44 (mjEnvC mjC_fearm_39 (mjEnvC mjC_fearm_2 (fun e he => (by cases he))))))) (pr := []) (cuts := [(37, ([(3, 240, 240, 0, 0), (0, 3, 3, 0, 0), (0, 1, 1, 0, 0), (0, 0, 0, 0, 0), (0, 2, 3, 0, 0), (9, 0, 0, 0, 0)], [], [(240, 57, (0, 3, 3, 0, 0))]), [(0, 0, 49963), (1, 4, 2147483647), (0, 0, 60000), (0, 0, 0), (0, 0, 0), (0, 0, 0), (0, 0, 0), (0, 0, 0)])]) (n := 47) (by decide +kernel)
def mjSm_fearm_46 : MjSm := ([(3, 240, 240, 0, 0), (0, 3, 3, 0, 0), (0, 2, 2, 0, 0), (0, 0, 0, 0, 0)], [(240, 57, (0, 3, 3, 0, 0))], [((7, 0, 0, 0, 0), [], [(240, 57, (0, 3, 3, 0, 0))])], [(241, 57), (241, 58)], 2)
set_option maxRecDepth 100000 in
theorem mjC_fearm_46 : mjCtr (mjSW 240 290 mjWd_fearm) 241 mjSm_fearm_46 := aiOk_ctr mjUW_ok (env := [(223, mjSm_fearm_44), (222, mjSm_fearm_2)]) (mjEnvC mjC_fearm_44 (mjEnvC mjC_fearm_2 (fun e he => (by cases he)))) (pr := []) (cuts := [(37, ([(3, 240, 240, 0, 0), (0, 3, 3, 0, 0), (0, 2, 2, 0, 0), (0, 0, 0, 0, 0), (0, 3, 3, 0, 0), (9, 0, 0, 0, 0)], [], [(240, 57, (0, 3, 3, 0, 0))]), [(0, 0, 49963), (1, 4, 2147483647), (0, 0, 60000), (0, 0, 0), (0, 0, 0), (0, 0, 0), (0, 0, 0), (0, 0, 0)])]) (n := 18) (by decide +kernel)
def mjSm_fearm_47 : MjSm := ([(3, 240, 240, 0, 0), (0, -2147483648, 2147483647, 0, 0)], [(240, 57, (0, 0, 0, 0, 0))], [((0, -1, -1, 0, 0), [(1, -2147483648, -1)], [(240, 57, (0, 0, 0, 0, 0))]), ((0, -1, -1, 0, 0), [(1, 2, 2147483647)], [(240, 57, (0, 0, 0, 0, 0))]), ((0, 0, 0, 0, 0), [(1, 0, 0)], [(240, 57, (0, 3, 3, 0, 0))]), ((0, 0, 0, 0, 0), [(1, 1, 1)], [(240, 57, (0, 3, 3, 0, 0))])], [(241, 57), (241, 58)], 4)
set_option maxRecDepth 100000 in
theorem mjC_fearm_47 : mjCtr (mjSW 240 290 mjWd_fearm) 242 mjSm_fearm_47 := aiOk_ctr mjUW_ok (env := [(241, mjSm_fearm_45), (241, mjSm_fearm_31), (241, mjSm_fearm_9), (241, mjSm_fearm_12), (241, mjSm_fearm_35), (241, mjSm_fearm_13), (241, mjSm_fearm_46), (241, mjSm_fearm_34), (241, mjSm_fearm_42), (241, mjSm_fearm_24), (241, mjSm_fearm_23), (241, mjSm_fearm_20), (222, mjSm_fearm_2), (220, mjSm_fearm_1), (221, mjSm_fearm_0)]) (mjEnvC mjC_fearm_45 (mjEnvC mjC_fearm_31 (mjEnvC mjC_fearm_9 (mjEnvC mjC_fearm_12 (mjEnvC mjC_fearm_35 (mjEnvC mjC_fearm_13 (mjEnvC mjC_fearm_46 (mjEnvC mjC_fearm_34 (mjEnvC mjC_fearm_42 (mjEnvC mjC_fearm_24 (mjEnvC mjC_fearm_23 (mjEnvC mjC_fearm_20 (mjEnvC mjC_fearm_2 (mjEnvC mjC_fearm_1 (mjEnvC mjC_fearm_0 (fun e he => (by cases he))))))))))))))))) (pr := [1]) (cuts := []) (n := 333) (by decide +kernel)
set_option maxRecDepth 100000 in
theorem mjPair_fear (sc : List Int32) (s1 : Int32)  : ∃ (v : Int32) (n1 : Nat) (w1 : MjW) (n2 : Nat) (w2 : MjW), mjEx mjTb mjMt sc n1 5 148 0 (mjEntry mjM_148.2.2.1 (.ref 0 :: [.int s1])) [] mjW0 = some (some (.int v), w1) ∧ mjEx mjTb mjMt sc n2 4 242 0 (mjEntry mjM_242.2.2.1 (.ref 240 :: [.int s1])) [] w1 = some (some (.int v), w2) ∧ mjShp w1 = mjShp mjW0 ∧ mjShp w2 = mjShp mjW0 := mj_pair (smx := mjSm_fearx_69) (smm := mjSm_fearm_47) mjC_fearx_69 mjC_fearm_47 mjWd_fearx_ok mjWd_fearm_ok (by decide +kernel) (by decide +kernel) (by decide +kernel) (by decide +kernel) (by decide +kernel) ⟨⟨0, rfl, rfl⟩, ⟨⟨s1, rfl, mjB.all s1⟩, trivial⟩⟩ ⟨⟨240, rfl, rfl⟩, ⟨⟨s1, rfl, mjB.all s1⟩, trivial⟩⟩ rfl rfl
