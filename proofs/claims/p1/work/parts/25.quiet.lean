def mjWd_quietx : MjWd := [(209, 7, (0, -2147483648, 2147483647)), (209, 8, (0, 0, 3)), (209, 9, (0, -2147483648, 2147483647)), (210, 6, (0, -2147483648, 2147483647)), (210, 7, (0, 0, 999)), (211, 255, (0, 0, 99)), (214, 255, (0, -2147483648, 2147483647)), (216, 255, (0, -2147483648, 2147483647)), (217, 255, (0, 0, 2147483647)), (224, 2, (6, 0, 0))]
theorem mjWd_quietx_ok : mjWdB mjWd_quietx = true := by decide +kernel
def mjSm_quietx_0 : MjSm := ([(3, 18, 18, 0, 0)], [], [((3, 20, 20, 0, 0), [], [])], [], 1)
set_option maxRecDepth 100000 in
theorem mjC_quietx_0 : mjCtr (mjSW 0 240 mjWd_quietx) 70 mjSm_quietx_0 := aiOk_ctr mjUW_ok (env := []) (fun e he => (by cases he)) (pr := []) (cuts := []) (n := 9) (by decide +kernel)
def mjSm_quietx_1 : MjSm := ([(3, 210, 210, 0, 0), (3, 20, 20, 0, 0)], [], [((7, 0, 0, 0, 0), [], [])], [(211, 3), (211, 4), (211, 5), (211, 6), (211, 7), (212, 255), (213, 255), (214, 255)], 1)
set_option maxRecDepth 100000 in
theorem mjC_quietx_1 : mjCtr (mjSW 0 240 mjWd_quietx) 64 mjSm_quietx_1 := aiOk_ctr mjUW_ok (env := []) (fun e he => (by cases he)) (pr := []) (cuts := []) (n := 48) (by decide +kernel)
def mjSm_quietx_2 : MjSm := ([(3, 216, 216, 0, 0), (0, 0, 0, 0, 0)], [], [((7, 0, 0, 0, 0), [], [])], [(217, 255)], 1)
set_option maxRecDepth 100000 in
theorem mjC_quietx_2 : mjCtr (mjSW 0 240 mjWd_quietx) 6 mjSm_quietx_2 := aiOk_ctr mjUW_ok (env := []) (fun e he => (by cases he)) (pr := []) (cuts := [(5, ([(3, 216, 216, 0, 0), (0, 0, 0, 0, 0), (0, 0, 6, 0, 0), (0, 6, 6, 0, 0)], [], []), [(0, 0, 49995), (1, 2, 2147483647), (0, 0, 60000), (0, 0, 0), (0, 0, 0), (0, 0, 0), (0, 0, 0), (0, 0, 0)])]) (n := 12) (by decide +kernel)
def mjSm_quietx_3 : MjSm := ([(3, 217, 217, 0, 0), (0, 0, 0, 0, 0)], [], [((7, 0, 0, 0, 0), [], [])], [(218, 255)], 1)
set_option maxRecDepth 100000 in
theorem mjC_quietx_3 : mjCtr (mjSW 0 240 mjWd_quietx) 6 mjSm_quietx_3 := aiOk_ctr mjUW_ok (env := []) (fun e he => (by cases he)) (pr := []) (cuts := [(5, ([(3, 217, 217, 0, 0), (0, 0, 0, 0, 0), (0, 0, 6, 0, 0), (0, 6, 6, 0, 0)], [], []), [(0, 0, 49995), (1, 2, 2147483647), (0, 0, 60000), (0, 0, 0), (0, 0, 0), (0, 0, 0), (0, 0, 0), (0, 0, 0)])]) (n := 12) (by decide +kernel)
def mjSm_quietx_4 : MjSm := ([(3, 215, 215, 0, 0), (0, 0, 0, 0, 0)], [], [((7, 0, 0, 0, 0), [], [])], [(216, 255)], 1)
set_option maxRecDepth 100000 in
theorem mjC_quietx_4 : mjCtr (mjSW 0 240 mjWd_quietx) 6 mjSm_quietx_4 := aiOk_ctr mjUW_ok (env := []) (fun e he => (by cases he)) (pr := []) (cuts := [(5, ([(3, 215, 215, 0, 0), (0, 0, 0, 0, 0), (0, 0, 6, 0, 0), (0, 6, 6, 0, 0)], [], []), [(0, 0, 49995), (1, 2, 2147483647), (0, 0, 60000), (0, 0, 0), (0, 0, 0), (0, 0, 0), (0, 0, 0), (0, 0, 0)])]) (n := 12) (by decide +kernel)
def mjSm_quietx_5 : MjSm := ([(3, 193, 193, 0, 0), (3, 210, 210, 0, 0), (0, -2147483648, 2147483647, 0, 0)], [], [((0, 0, 0, 0, 0), [], [])], [], 1)
set_option maxRecDepth 100000 in
theorem mjC_quietx_5 : mjCtr (mjSW 0 240 mjWd_quietx) 75 mjSm_quietx_5 := aiOk_ctr mjUW_ok (env := []) (fun e he => (by cases he)) (pr := []) (cuts := [(5, ([(3, 193, 193, 0, 0), (3, 210, 210, 0, 0), (0, -2147483648, 2147483647, 0, 0), (0, 0, 0, 0, 0), (0, 0, 0, 0, 0), (9, 0, 0, 0, 0)], [], []), [(0, 0, 49995), (1, 4, 2147483647), (0, 0, 60000), (0, 0, 0), (0, 0, 0), (0, 0, 0), (0, 0, 0), (0, 0, 0)])]) (n := 9) (by decide +kernel)
def mjSm_quietx_6 : MjSm := ([(3, 209, 209, 0, 0)], [], [((7, 0, 0, 0, 0), [], [])], [(216, 255)], 2)
set_option maxRecDepth 100000 in
theorem mjC_quietx_6 : mjCtr (mjSW 0 240 mjWd_quietx) 74 mjSm_quietx_6 := aiOk_ctr mjUW_ok (env := [(6, mjSm_quietx_4), (75, mjSm_quietx_5)]) (mjEnvC mjC_quietx_4 (mjEnvC mjC_quietx_5 (fun e he => (by cases he)))) (pr := []) (cuts := [(32, ([(3, 209, 209, 0, 0), (0, 0, 0, 0, 0), (0, 0, 0, 0, 0)], [], []), [(0, 0, 49968), (1, 2, 2147483647), (0, 0, 60000), (0, 0, 0), (0, 0, 0), (0, 0, 0), (0, 0, 0), (0, 0, 0)])]) (n := 20) (by decide +kernel)
def mjSm_quietx_7 : MjSm := ([(3, 209, 209, 0, 0), (3, 193, 193, 0, 0), (3, 210, 210, 0, 0)], [], [((7, 0, 0, 0, 0), [], [])], [(210, 2), (210, 3), (210, 7), (216, 255), (217, 255), (218, 255)], 3)
set_option maxRecDepth 100000 in
theorem mjC_quietx_7 : mjCtr (mjSW 0 240 mjWd_quietx) 73 mjSm_quietx_7 := aiOk_ctr mjUW_ok (env := [(6, mjSm_quietx_3), (6, mjSm_quietx_2), (74, mjSm_quietx_6)]) (mjEnvC mjC_quietx_3 (mjEnvC mjC_quietx_2 (mjEnvC mjC_quietx_6 (fun e he => (by cases he))))) (pr := []) (cuts := []) (n := 23) (by decide +kernel)
def mjSm_quietx_8 : MjSm := ([(3, 209, 209, 0, 0), (3, 193, 193, 0, 0), (3, 20, 20, 0, 0)], [], [((7, 0, 0, 0, 0), [], [])], [(210, 2), (210, 3), (210, 7), (211, 3), (211, 4), (211, 5), (211, 6), (211, 7), (212, 255), (213, 255), (214, 255), (216, 255), (217, 255), (218, 255)], 4)
set_option maxRecDepth 100000 in
theorem mjC_quietx_8 : mjCtr (mjSW 0 240 mjWd_quietx) 72 mjSm_quietx_8 := aiOk_ctr mjUW_ok (env := [(73, mjSm_quietx_7), (64, mjSm_quietx_1)]) (mjEnvC mjC_quietx_7 (mjEnvC mjC_quietx_1 (fun e he => (by cases he)))) (pr := []) (cuts := []) (n := 13) (by decide +kernel)
def mjSm_quietx_9 : MjSm := ([(3, 224, 224, 0, 0), (3, 193, 193, 0, 0), (3, 20, 20, 0, 0)], [], [((7, 0, 0, 0, 0), [], [(224, 2, (3, 20, 20, 0, 0))])], [(210, 2), (210, 3), (210, 7), (211, 3), (211, 4), (211, 5), (211, 6), (211, 7), (212, 255), (213, 255), (214, 255), (216, 255), (217, 255), (218, 255), (225, 1), (225, 2)], 5)
set_option maxRecDepth 100000 in
theorem mjC_quietx_9 : mjCtr (mjSW 0 240 mjWd_quietx) 123 mjSm_quietx_9 := aiOk_ctr mjUW_ok (env := [(72, mjSm_quietx_8)]) (mjEnvC mjC_quietx_8 (fun e he => (by cases he))) (pr := []) (cuts := []) (n := 15) (by decide +kernel)
def mjSm_quietx_10 : MjSm := ([(0, 0, 0, 0, 0)], [], [((0, 0, 0, 0, 0), [], [])], [], 1)
set_option maxRecDepth 100000 in
theorem mjC_quietx_10 : mjCtr (mjSW 0 240 mjWd_quietx) 99 mjSm_quietx_10 := aiOk_ctr mjUW_ok (env := []) (fun e he => (by cases he)) (pr := []) (cuts := []) (n := 45) (by decide +kernel)
def mjSm_quietx_11 : MjSm := ([(0, 0, 3, 0, 0), (0, 0, 2, 0, 0)], [], [((0, 0, 17, 0, 0), [], [])], [], 1)
set_option maxRecDepth 100000 in
theorem mjC_quietx_11 : mjCtr (mjSW 0 240 mjWd_quietx) 48 mjSm_quietx_11 := aiOk_ctr mjUW_ok (env := []) (fun e he => (by cases he)) (pr := []) (cuts := []) (n := 9) (by decide +kernel)
def mjSm_quietx_12 : MjSm := ([(3, 209, 209, 0, 0), (0, 0, 17, 0, 0), (0, 1, 1, 0, 0)], [], [((7, 0, 0, 0, 0), [], [])], [(212, 255)], 1)
set_option maxRecDepth 100000 in
theorem mjC_quietx_12 : mjCtr (mjSW 0 240 mjWd_quietx) 89 mjSm_quietx_12 := aiOk_ctr mjUW_ok (env := []) (fun e he => (by cases he)) (pr := []) (cuts := []) (n := 18) (by decide +kernel)
def mjSm_quietx_13 : MjSm := ([(3, 201, 201, 0, 0), (3, 214, 214, 0, 0)], [], [((0, -2147483648, 2147483647, 0, 0), [], [])], [], 1)
set_option maxRecDepth 100000 in
theorem mjC_quietx_13 : mjCtr (mjSW 0 240 mjWd_quietx) 77 mjSm_quietx_13 := aiOk_ctr mjUW_ok (env := []) (fun e he => (by cases he)) (pr := []) (cuts := []) (n := 20) (by decide +kernel)
def mjSm_quietx_14 : MjSm := ([(3, 193, 193, 0, 0), (0, 0, 3, 0, 0)], [], [((0, 1, 1, 0, 0), [], [])], [], 1)
set_option maxRecDepth 100000 in
theorem mjC_quietx_14 : mjCtr (mjSW 0 240 mjWd_quietx) 69 mjSm_quietx_14 := aiOk_ctr mjUW_ok (env := []) (fun e he => (by cases he)) (pr := []) (cuts := []) (n := 15) (by decide +kernel)
def mjSm_quietx_15 : MjSm := ([(0, 0, 3, 0, 0), (0, 1, 2, 0, 0)], [], [((0, 1, 17, 0, 0), [], [])], [], 1)
set_option maxRecDepth 100000 in
theorem mjC_quietx_15 : mjCtr (mjSW 0 240 mjWd_quietx) 48 mjSm_quietx_15 := aiOk_ctr mjUW_ok (env := []) (fun e he => (by cases he)) (pr := []) (cuts := []) (n := 9) (by decide +kernel)
def mjSm_quietx_16 : MjSm := ([(3, 209, 209, 0, 0), (0, 1, 17, 0, 0), (0, 1, 1, 0, 0)], [], [((7, 0, 0, 0, 0), [], [])], [(210, 9), (212, 255)], 1)
set_option maxRecDepth 100000 in
theorem mjC_quietx_16 : mjCtr (mjSW 0 240 mjWd_quietx) 92 mjSm_quietx_16 := aiOk_ctr mjUW_ok (env := []) (fun e he => (by cases he)) (pr := []) (cuts := []) (n := 22) (by decide +kernel)
def mjSm_quietx_17 : MjSm := ([(0, 0, 3, 0, 0), (0, 0, 1, 0, 0)], [], [((0, 0, 16, 0, 0), [], [])], [], 1)
set_option maxRecDepth 100000 in
theorem mjC_quietx_17 : mjCtr (mjSW 0 240 mjWd_quietx) 48 mjSm_quietx_17 := aiOk_ctr mjUW_ok (env := []) (fun e he => (by cases he)) (pr := []) (cuts := []) (n := 9) (by decide +kernel)
def mjSm_quietx_18 : MjSm := ([(3, 209, 209, 0, 0), (0, 0, 16, 0, 0), (0, 1, 1, 0, 0)], [], [((7, 0, 0, 0, 0), [], [])], [(210, 9), (212, 255)], 1)
set_option maxRecDepth 100000 in
theorem mjC_quietx_18 : mjCtr (mjSW 0 240 mjWd_quietx) 92 mjSm_quietx_18 := aiOk_ctr mjUW_ok (env := []) (fun e he => (by cases he)) (pr := []) (cuts := []) (n := 22) (by decide +kernel)
def mjSm_quietx_19 : MjSm := ([(3, 209, 209, 0, 0), (0, 0, 3, 0, 0), (0, 0, 1, 0, 0), (0, 1, 1, 0, 0)], [], [((7, 0, 0, 0, 0), [], [])], [(210, 8), (210, 9), (212, 255)], 2)
set_option maxRecDepth 100000 in
theorem mjC_quietx_19 : mjCtr (mjSW 0 240 mjWd_quietx) 91 mjSm_quietx_19 := aiOk_ctr mjUW_ok (env := [(69, mjSm_quietx_14), (48, mjSm_quietx_17), (48, mjSm_quietx_15), (92, mjSm_quietx_18), (92, mjSm_quietx_16)]) (mjEnvC mjC_quietx_14 (mjEnvC mjC_quietx_17 (mjEnvC mjC_quietx_15 (mjEnvC mjC_quietx_18 (mjEnvC mjC_quietx_16 (fun e he => (by cases he))))))) (pr := []) (cuts := [(25, ([(3, 209, 209, 0, 0), (0, 0, 3, 0, 0), (0, 0, 1, 0, 0), (0, 1, 1, 0, 0), (0, 1, 3, 0, 0), (9, 0, 0, 0, 0)], [], []), [(0, 0, 49975), (1, 4, 2147483647), (0, 0, 60000), (0, 0, 0), (0, 0, 0), (0, 0, 0), (0, 0, 0), (0, 0, 0)])]) (n := 43) (by decide +kernel)
def mjSm_quietx_20 : MjSm := ([(3, 209, 209, 0, 0), (0, 0, 3, 0, 0), (0, 0, 1, 0, 0)], [], [((7, 0, 0, 0, 0), [], [])], [(210, 7), (210, 8), (210, 9), (212, 255), (217, 255), (218, 255)], 3)
set_option maxRecDepth 100000 in
theorem mjC_quietx_20 : mjCtr (mjSW 0 240 mjWd_quietx) 90 mjSm_quietx_20 := aiOk_ctr mjUW_ok (env := [(91, mjSm_quietx_19)]) (mjEnvC mjC_quietx_19 (fun e he => (by cases he))) (pr := []) (cuts := [(78, ([(3, 209, 209, 0, 0), (0, 0, 3, 0, 0), (0, 0, 1, 0, 0), (0, 0, 0, 0, 0), (0, 0, 0, 0, 0)], [], []), [(0, 0, 49922), (1, 4, 2147483647), (0, 0, 60000), (0, 0, 0), (0, 0, 0), (0, 0, 0), (0, 0, 0), (0, 0, 0)])]) (n := 47) (by decide +kernel)
def mjSm_quietx_21 : MjSm := ([(3, 209, 209, 0, 0), (0, 0, 3, 0, 0), (0, 0, 2, 0, 0), (0, 0, 0, 0, 0)], [], [((0, 0, 0, 0, 0), [], []), ((0, 1, 1, 0, 0), [(2, 0, 1)], []), ((0, 0, 0, 0, 0), [(2, 0, 1)], []), ((0, 1, 1, 0, 0), [(2, 2, 2)], []), ((0, 0, 0, 0, 0), [(2, 2, 2)], [])], [(215, 255)], 2)
set_option maxRecDepth 100000 in
theorem mjC_quietx_21 : mjCtr (mjSW 0 240 mjWd_quietx) 76 mjSm_quietx_21 := aiOk_ctr mjUW_ok (env := [(77, mjSm_quietx_13), (48, mjSm_quietx_11)]) (mjEnvC mjC_quietx_13 (mjEnvC mjC_quietx_11 (fun e he => (by cases he)))) (pr := [2]) (cuts := []) (n := 80) (by decide +kernel)
def mjSm_quietx_22 : MjSm := ([(0, 0, 3, 0, 0), (0, 2, 2, 0, 0)], [], [((0, 2, 17, 0, 0), [], [])], [], 1)
set_option maxRecDepth 100000 in
theorem mjC_quietx_22 : mjCtr (mjSW 0 240 mjWd_quietx) 48 mjSm_quietx_22 := aiOk_ctr mjUW_ok (env := []) (fun e he => (by cases he)) (pr := []) (cuts := []) (n := 9) (by decide +kernel)
def mjSm_quietx_23 : MjSm := ([(3, 209, 209, 0, 0), (0, 2, 17, 0, 0), (0, 1, 1, 0, 0)], [], [((7, 0, 0, 0, 0), [], [])], [(210, 9), (212, 255)], 1)
set_option maxRecDepth 100000 in
theorem mjC_quietx_23 : mjCtr (mjSW 0 240 mjWd_quietx) 92 mjSm_quietx_23 := aiOk_ctr mjUW_ok (env := []) (fun e he => (by cases he)) (pr := []) (cuts := []) (n := 22) (by decide +kernel)
def mjSm_quietx_24 : MjSm := ([(3, 209, 209, 0, 0), (0, 0, 3, 0, 0), (0, 2, 2, 0, 0), (0, 1, 1, 0, 0)], [], [((7, 0, 0, 0, 0), [], [])], [(210, 8), (210, 9), (212, 255)], 2)
set_option maxRecDepth 100000 in
theorem mjC_quietx_24 : mjCtr (mjSW 0 240 mjWd_quietx) 91 mjSm_quietx_24 := aiOk_ctr mjUW_ok (env := [(48, mjSm_quietx_22), (92, mjSm_quietx_23)]) (mjEnvC mjC_quietx_22 (mjEnvC mjC_quietx_23 (fun e he => (by cases he)))) (pr := []) (cuts := [(25, ([(3, 209, 209, 0, 0), (0, 0, 3, 0, 0), (0, 2, 2, 0, 0), (0, 1, 1, 0, 0), (0, 3, 3, 0, 0), (9, 0, 0, 0, 0)], [], []), [(0, 0, 49975), (1, 4, 2147483647), (0, 0, 60000), (0, 0, 0), (0, 0, 0), (0, 0, 0), (0, 0, 0), (0, 0, 0)])]) (n := 19) (by decide +kernel)
def mjSm_quietx_25 : MjSm := ([(3, 209, 209, 0, 0), (0, 0, 3, 0, 0), (0, 2, 2, 0, 0)], [], [((7, 0, 0, 0, 0), [], [])], [(210, 7), (210, 8), (210, 9), (212, 255), (217, 255), (218, 255)], 3)
set_option maxRecDepth 100000 in
theorem mjC_quietx_25 : mjCtr (mjSW 0 240 mjWd_quietx) 90 mjSm_quietx_25 := aiOk_ctr mjUW_ok (env := [(91, mjSm_quietx_24)]) (mjEnvC mjC_quietx_24 (fun e he => (by cases he))) (pr := []) (cuts := [(78, ([(3, 209, 209, 0, 0), (0, 0, 3, 0, 0), (0, 2, 2, 0, 0), (0, 0, 0, 0, 0), (0, 0, 0, 0, 0)], [], []), [(0, 0, 49922), (1, 4, 2147483647), (0, 0, 60000), (0, 0, 0), (0, 0, 0), (0, 0, 0), (0, 0, 0), (0, 0, 0)])]) (n := 47) (by decide +kernel)
def mjSm_quietx_26 : MjSm := ([(3, 209, 209, 0, 0), (0, -1, -1, 0, 0)], [], [((0, 0, 0, 0, 0), [], [])], [], 1)
set_option maxRecDepth 100000 in
theorem mjC_quietx_26 : mjCtr (mjSW 0 240 mjWd_quietx) 94 mjSm_quietx_26 := aiOk_ctr mjUW_ok (env := []) (fun e he => (by cases he)) (pr := []) (cuts := [(4, ([(3, 209, 209, 0, 0), (0, -1, -1, 0, 0), (0, 0, 0, 0, 0), (0, 0, 0, 0, 0)], [], []), [(0, 0, 49996), (1, 3, 2147483647), (0, 0, 60000), (0, 0, 0), (0, 0, 0), (0, 0, 0), (0, 0, 0), (0, 0, 0)])]) (n := 10) (by decide +kernel)
def mjSm_quietx_27 : MjSm := ([(3, 209, 209, 0, 0)], [], [((0, 0, 0, 0, 0), [], [])], [], 2)
set_option maxRecDepth 100000 in
theorem mjC_quietx_27 : mjCtr (mjSW 0 240 mjWd_quietx) 93 mjSm_quietx_27 := aiOk_ctr mjUW_ok (env := [(94, mjSm_quietx_26)]) (mjEnvC mjC_quietx_26 (fun e he => (by cases he))) (pr := []) (cuts := []) (n := 11) (by decide +kernel)
def mjSm_quietx_28 : MjSm := ([(3, 209, 209, 0, 0), (0, 1, 1, 0, 0), (0, 0, 0, 0, 0)], [], [((7, 0, 0, 0, 0), [], [])], [(210, 7), (210, 8), (210, 9), (211, 5), (211, 6), (211, 7), (212, 255), (215, 255), (216, 255), (217, 255), (218, 255)], 4)
set_option maxRecDepth 100000 in
theorem mjC_quietx_28 : mjCtr (mjSW 0 240 mjWd_quietx) 88 mjSm_quietx_28 := aiOk_ctr mjUW_ok (env := [(74, mjSm_quietx_6), (93, mjSm_quietx_27), (90, mjSm_quietx_25), (90, mjSm_quietx_20), (48, mjSm_quietx_11), (76, mjSm_quietx_21), (89, mjSm_quietx_12)]) (mjEnvC mjC_quietx_6 (mjEnvC mjC_quietx_27 (mjEnvC mjC_quietx_25 (mjEnvC mjC_quietx_20 (mjEnvC mjC_quietx_11 (mjEnvC mjC_quietx_21 (mjEnvC mjC_quietx_12 (fun e he => (by cases he))))))))) (pr := []) (cuts := [(2, ([(3, 209, 209, 0, 0), (0, 1, 1, 0, 0), (0, 0, 0, 0, 0), (0, 0, 4, 0, 0), (9, 0, 0, 0, 0)], [], []), [(0, 0, 49998), (1, 3, 2147483647), (0, 0, 60000), (0, 0, 0), (0, 0, 0), (0, 0, 0), (0, 0, 0), (0, 0, 0)]), (16, ([(3, 209, 209, 0, 0), (0, 1, 1, 0, 0), (0, 0, 0, 0, 0), (0, 0, 3, 0, 0), (0, 0, 3, 0, 0)], [], []), [(0, 0, 49998), (1, 3, 2147483647), (0, 0, 49984), (1, 4, 2147483647), (0, 0, 60000), (0, 0, 0), (0, 0, 0), (0, 0, 0)]), (140, ([(3, 209, 209, 0, 0), (0, 1, 1, 0, 0), (0, 0, 0, 0, 0), (0, 0, 3, 0, 0), (9, 0, 0, 0, 0)], [], []), [(0, 0, 49860), (1, 3, 2147483647), (0, 0, 60000), (0, 0, 0), (0, 0, 0), (0, 0, 0), (0, 0, 0), (0, 0, 0)]), (154, ([(3, 209, 209, 0, 0), (0, 1, 1, 0, 0), (0, 0, 0, 0, 0), (0, 0, 2, 0, 0), (0, 0, 4, 0, 0)], [], []), [(0, 0, 49860), (1, 3, 2147483647), (0, 0, 49846), (1, 4, 2147483647), (0, 0, 60000), (0, 0, 0), (0, 0, 0), (0, 0, 0)])]) (n := 26) (by decide +kernel)
def mjSm_quietx_29 : MjSm := ([(3, 224, 224, 0, 0), (0, 0, 0, 0, 0), (0, 0, 24, 0, 0)], [(209, 8, (0, 0, 0, 0, 0)), (224, 2, (3, 20, 20, 0, 0))], [((0, 1, 1, 0, 0), [], [])], [(210, 2), (210, 3), (210, 7), (210, 8), (210, 9), (211, 3), (211, 4), (211, 5), (211, 6), (211, 7), (212, 255), (213, 255), (214, 255), (215, 255), (216, 255), (217, 255), (218, 255)], 5)
set_option maxRecDepth 100000 in
theorem mjC_quietx_29 : mjCtr (mjSW 0 240 mjWd_quietx) 134 mjSm_quietx_29 := aiOk_ctr mjUW_ok (env := [(72, mjSm_quietx_8), (88, mjSm_quietx_28)]) (mjEnvC mjC_quietx_8 (mjEnvC mjC_quietx_28 (fun e he => (by cases he)))) (pr := []) (cuts := [(28, ([(3, 224, 224, 0, 0), (0, 0, 0, 0, 0), (0, 0, 24, 0, 0), (0, 0, 24, 0, 0)], [], [(224, 2, (3, 20, 20, 0, 0))]), [(0, 0, 49972), (1, 3, 2147483647), (0, 0, 60000), (0, 0, 0), (0, 0, 0), (0, 0, 0), (0, 0, 0), (0, 0, 0)])]) (n := 23) (by decide +kernel)
def mjSm_quietx_30 : MjSm := ([(3, 224, 224, 0, 0), (3, 193, 193, 0, 0), (3, 20, 20, 0, 0), (0, 0, 24, 0, 0)], [(209, 8, (0, 0, 0, 0, 0)), (224, 2, (3, 205, 205, 0, 0))], [((0, 0, 0, 0, 0), [], [(224, 2, (3, 20, 20, 0, 0))])], [(210, 2), (210, 3), (210, 7), (210, 8), (210, 9), (211, 3), (211, 4), (211, 5), (211, 6), (211, 7), (212, 255), (213, 255), (214, 255), (215, 255), (216, 255), (217, 255), (218, 255), (225, 1), (225, 2)], 6)
set_option maxRecDepth 100000 in
theorem mjC_quietx_30 : mjCtr (mjSW 0 240 mjWd_quietx) 133 mjSm_quietx_30 := aiOk_ctr mjUW_ok (env := [(134, mjSm_quietx_29), (99, mjSm_quietx_10), (123, mjSm_quietx_9)]) (mjEnvC mjC_quietx_29 (mjEnvC mjC_quietx_10 (mjEnvC mjC_quietx_9 (fun e he => (by cases he))))) (pr := []) (cuts := []) (n := 46) (by decide +kernel)
def mjSm_quietx_31 : MjSm := ([(3, 0, 0, 0, 0), (0, -2147483648, 2147483647, 0, 0), (0, -2147483648, 2147483647, 0, 0)], [(209, 8, (0, 0, 0, 0, 0)), (224, 2, (3, 205, 205, 0, 0))], [((0, -1, -1, 0, 0), [(1, 0, 24), (2, 2, 2147483647)], [(209, 8, (0, 0, 0, 0, 0)), (224, 2, (3, 205, 205, 0, 0))]), ((0, 0, 0, 0, 0), [(1, 0, 24), (2, 1, 1)], [(224, 2, (3, 20, 20, 0, 0))]), ((0, 0, 0, 0, 0), [(1, 0, 24), (2, 0, 0)], [(224, 2, (3, 20, 20, 0, 0))]), ((0, -1, -1, 0, 0), [(1, 0, 24), (2, -2147483648, -1)], [(209, 8, (0, 0, 0, 0, 0)), (224, 2, (3, 205, 205, 0, 0))]), ((0, -1, -1, 0, 0), [(1, 25, 2147483647)], [(209, 8, (0, 0, 0, 0, 0)), (224, 2, (3, 205, 205, 0, 0))]), ((0, -1, -1, 0, 0), [(1, -2147483648, -1)], [(209, 8, (0, 0, 0, 0, 0)), (224, 2, (3, 205, 205, 0, 0))])], [(210, 2), (210, 3), (210, 7), (210, 8), (210, 9), (211, 3), (211, 4), (211, 5), (211, 6), (211, 7), (212, 255), (213, 255), (214, 255), (215, 255), (216, 255), (217, 255), (218, 255), (225, 1), (225, 2)], 7)
set_option maxRecDepth 100000 in
theorem mjC_quietx_31 : mjCtr (mjSW 0 240 mjWd_quietx) 132 mjSm_quietx_31 := aiOk_ctr mjUW_ok (env := [(133, mjSm_quietx_30), (70, mjSm_quietx_0), (99, mjSm_quietx_10)]) (mjEnvC mjC_quietx_30 (mjEnvC mjC_quietx_0 (mjEnvC mjC_quietx_10 (fun e he => (by cases he))))) (pr := [1, 2]) (cuts := []) (n := 32) (by decide +kernel)
def mjWd_quietm : MjWd := [(240, 49, (0, 0, 3)), (240, 50, (0, 0, 2)), (240, 56, (0, -2147483648, 2147483647)), (240, 57, (0, 0, 3)), (240, 58, (0, -2147483648, 2147483647)), (274, 0, (0, 0, 99)), (274, 1, (0, 0, 99)), (274, 2, (0, 0, 99)), (274, 3, (0, 0, 99)), (274, 4, (0, 0, 99)), (274, 5, (0, 0, 99)), (274, 6, (0, 0, 99)), (274, 7, (0, 0, 99)), (274, 8, (0, 0, 99)), (274, 9, (0, 0, 99)), (274, 10, (0, 0, 99)), (274, 11, (0, 0, 99)), (274, 12, (0, 0, 99)), (274, 13, (0, 0, 99)), (274, 14, (0, 0, 99)), (274, 15, (0, 0, 99)), (274, 16, (0, 0, 99)), (274, 17, (0, 0, 99)), (274, 68, (0, -2147483648, 2147483647)), (275, 0, (0, 0, 99)), (275, 1, (0, 0, 99)), (275, 2, (0, 0, 99)), (275, 3, (0, 0, 99)), (275, 4, (0, 0, 99)), (275, 5, (0, 0, 99)), (275, 6, (0, 0, 99)), (275, 7, (0, 0, 99)), (275, 8, (0, 0, 99)), (275, 9, (0, 0, 99)), (275, 10, (0, 0, 99)), (275, 11, (0, 0, 99)), (275, 12, (0, 0, 99)), (275, 13, (0, 0, 99)), (275, 14, (0, 0, 99)), (275, 15, (0, 0, 99)), (275, 16, (0, 0, 99)), (275, 17, (0, 0, 99)), (275, 68, (0, -2147483648, 2147483647)), (276, 255, (0, -2147483648, 2147483647))]
theorem mjWd_quietm_ok : mjWdB mjWd_quietm = true := by decide +kernel
def mjSm_quietm_0 : MjSm := ([(0, -2147483648, 2147483647, 0, 0), (0, 0, 0, 0, 0), (0, 24, 24, 0, 0)], [], [((0, 1, 1, 0, 0), [(0, 0, 24)], []), ((0, 0, 0, 0, 0), [(0, 25, 2147483647)], []), ((0, 0, 0, 0, 0), [(0, -2147483648, -1)], [])], [], 1)
set_option maxRecDepth 100000 in
theorem mjC_quietm_0 : mjCtr (mjSW 240 290 mjWd_quietm) 221 mjSm_quietm_0 := aiOk_ctr mjUW_ok (env := []) (fun e he => (by cases he)) (pr := [0]) (cuts := []) (n := 12) (by decide +kernel)
def mjSm_quietm_1 : MjSm := ([(0, -2147483648, 2147483647, 0, 0), (0, 0, 0, 0, 0), (0, 1, 1, 0, 0)], [], [((0, 1, 1, 0, 0), [(0, 0, 1)], []), ((0, 0, 0, 0, 0), [(0, 2, 2147483647)], []), ((0, 0, 0, 0, 0), [(0, -2147483648, -1)], [])], [], 1)
set_option maxRecDepth 100000 in
theorem mjC_quietm_1 : mjCtr (mjSW 240 290 mjWd_quietm) 221 mjSm_quietm_1 := aiOk_ctr mjUW_ok (env := []) (fun e he => (by cases he)) (pr := [0]) (cuts := []) (n := 12) (by decide +kernel)
def mjSm_quietm_2 : MjSm := ([(3, 240, 240, 0, 0)], [], [((7, 0, 0, 0, 0), [], [])], [(276, 255)], 1)
set_option maxRecDepth 100000 in
theorem mjC_quietm_2 : mjCtr (mjSW 240 290 mjWd_quietm) 266 mjSm_quietm_2 := aiOk_ctr mjUW_ok (env := []) (fun e he => (by cases he)) (pr := []) (cuts := []) (n := 919) (by decide +kernel)
def mjSm_quietm_3 : MjSm := ([(3, 240, 240, 0, 0)], [], [((0, 4, 4, 0, 0), [], [])], [], 1)
set_option maxRecDepth 100000 in
theorem mjC_quietm_3 : mjCtr (mjSW 240 290 mjWd_quietm) 220 mjSm_quietm_3 := aiOk_ctr mjUW_ok (env := []) (fun e he => (by cases he)) (pr := []) (cuts := []) (n := 9) (by decide +kernel)
def mjSm_quietm_4 : MjSm := ([(3, 240, 240, 0, 0)], [], [((0, 3, 3, 0, 0), [], [])], [], 1)
set_option maxRecDepth 100000 in
theorem mjC_quietm_4 : mjCtr (mjSW 240 290 mjWd_quietm) 222 mjSm_quietm_4 := aiOk_ctr mjUW_ok (env := []) (fun e he => (by cases he)) (pr := []) (cuts := []) (n := 9) (by decide +kernel)
def mjSm_quietm_5 : MjSm := ([(0, 1, 100, 0, 0), (0, 0, 0, 0, 0), (0, 99, 99, 0, 0)], [], [((0, 99, 99, 0, 0), [(0, 100, 100)], []), ((0, 1, 99, 0, 0), [(0, 1, 99)], [])], [], 1)
set_option maxRecDepth 100000 in
theorem mjC_quietm_5 : mjCtr (mjSW 240 290 mjWd_quietm) 249 mjSm_quietm_5 := aiOk_ctr mjUW_ok (env := []) (fun e he => (by cases he)) (pr := [0]) (cuts := []) (n := 12) (by decide +kernel)
def mjSm_quietm_6 : MjSm := ([(3, 240, 240, 0, 0), (0, 0, 3, 0, 0), (0, 0, 2, 0, 0)], [], [((0, 0, 99, 0, 0), [], [])], [], 1)
set_option maxRecDepth 100000 in
theorem mjC_quietm_6 : mjCtr (mjSW 240 290 mjWd_quietm) 223 mjSm_quietm_6 := aiOk_ctr mjUW_ok (env := []) (fun e he => (by cases he)) (pr := []) (cuts := []) (n := 14) (by decide +kernel)
def mjSm_quietm_7 : MjSm := ([(3, 240, 240, 0, 0), (0, 0, 3, 0, 0), (0, 0, 2, 0, 0), (0, 1, 1, 0, 0)], [], [((7, 0, 0, 0, 0), [], [])], [(275, 255)], 2)
set_option maxRecDepth 100000 in
theorem mjC_quietm_7 : mjCtr (mjSW 240 290 mjWd_quietm) 248 mjSm_quietm_7 := aiOk_ctr mjUW_ok (env := [(223, mjSm_quietm_6), (249, mjSm_quietm_5)]) (mjEnvC mjC_quietm_6 (mjEnvC mjC_quietm_5 (fun e he => (by cases he)))) (pr := []) (cuts := []) (n := 23) (by decide +kernel)
def mjSm_quietm_8 : MjSm := ([(0, 0, 0, 0, 0), (0, 2, 2, 0, 0)], [], [((0, 0, 0, 0, 0), [], [])], [], 1)
set_option maxRecDepth 100000 in
theorem mjC_quietm_8 : mjCtr (mjSW 240 290 mjWd_quietm) 191 mjSm_quietm_8 := aiOk_ctr mjUW_ok (env := []) (fun e he => (by cases he)) (pr := []) (cuts := []) (n := 12) (by decide +kernel)
def mjSm_quietm_9 : MjSm := ([(3, 240, 240, 0, 0)], [], [((0, 0, 0, 0, 0), [], [])], [], 1)
set_option maxRecDepth 100000 in
theorem mjC_quietm_9 : mjCtr (mjSW 240 290 mjWd_quietm) 179 mjSm_quietm_9 := aiOk_ctr mjUW_ok (env := []) (fun e he => (by cases he)) (pr := []) (cuts := []) (n := 9) (by decide +kernel)
def mjSm_quietm_10 : MjSm := ([(3, 240, 240, 0, 0), (0, 0, 3, 0, 0)], [], [((0, 0, 0, 0, 0), [], [])], [], 1)
set_option maxRecDepth 100000 in
theorem mjC_quietm_10 : mjCtr (mjSW 240 290 mjWd_quietm) 226 mjSm_quietm_10 := aiOk_ctr mjUW_ok (env := []) (fun e he => (by cases he)) (pr := []) (cuts := [(4, ([(3, 240, 240, 0, 0), (0, 0, 3, 0, 0), (0, 0, 0, 0, 0), (0, 0, 0, 0, 0)], [], []), [(0, 0, 49996), (1, 3, 2147483647), (0, 0, 60000), (0, 0, 0), (0, 0, 0), (0, 0, 0), (0, 0, 0), (0, 0, 0)])]) (n := 12) (by decide +kernel)
def mjSm_quietm_11 : MjSm := ([(0, 0, 3, 0, 0), (0, 0, 0, 0, 0), (0, 3, 3, 0, 0)], [], [((0, 1, 1, 0, 0), [], [])], [], 1)
set_option maxRecDepth 100000 in
theorem mjC_quietm_11 : mjCtr (mjSW 240 290 mjWd_quietm) 221 mjSm_quietm_11 := aiOk_ctr mjUW_ok (env := []) (fun e he => (by cases he)) (pr := []) (cuts := []) (n := 12) (by decide +kernel)
def mjSm_quietm_12 : MjSm := ([(3, 240, 240, 0, 0), (0, 0, 3, 0, 0)], [], [((0, 1, 1, 0, 0), [], [])], [], 2)
set_option maxRecDepth 100000 in
theorem mjC_quietm_12 : mjCtr (mjSW 240 290 mjWd_quietm) 219 mjSm_quietm_12 := aiOk_ctr mjUW_ok (env := [(220, mjSm_quietm_3), (221, mjSm_quietm_11)]) (mjEnvC mjC_quietm_3 (mjEnvC mjC_quietm_11 (fun e he => (by cases he)))) (pr := []) (cuts := []) (n := 11) (by decide +kernel)
def mjSm_quietm_13 : MjSm := ([(3, 240, 240, 0, 0), (0, 0, 3, 0, 0), (0, 1, 2, 0, 0)], [], [((0, 0, 0, 0, 0), [], [])], [], 1)
set_option maxRecDepth 100000 in
theorem mjC_quietm_13 : mjCtr (mjSW 240 290 mjWd_quietm) 224 mjSm_quietm_13 := aiOk_ctr mjUW_ok (env := []) (fun e he => (by cases he)) (pr := []) (cuts := []) (n := 14) (by decide +kernel)
def mjSm_quietm_14 : MjSm := ([(3, 240, 240, 0, 0), (0, 0, 3, 0, 0), (0, 1, 2, 0, 0)], [], [((0, 0, 99, 0, 0), [], [])], [], 1)
set_option maxRecDepth 100000 in
theorem mjC_quietm_14 : mjCtr (mjSW 240 290 mjWd_quietm) 223 mjSm_quietm_14 := aiOk_ctr mjUW_ok (env := []) (fun e he => (by cases he)) (pr := []) (cuts := []) (n := 14) (by decide +kernel)
def mjSm_quietm_15 : MjSm := ([(3, 240, 240, 0, 0), (0, 0, 3, 0, 0), (0, 0, 2, 0, 0), (0, 0, 0, 0, 0)], [], [((0, 0, 0, 0, 0), [], []), ((0, 1, 1, 0, 0), [], [])], [(241, 49), (241, 50), (241, 51)], 2)
set_option maxRecDepth 100000 in
theorem mjC_quietm_15 : mjCtr (mjSW 240 290 mjWd_quietm) 225 mjSm_quietm_15 := aiOk_ctr mjUW_ok (env := [(191, mjSm_quietm_8), (226, mjSm_quietm_10), (223, mjSm_quietm_6)]) (mjEnvC mjC_quietm_8 (mjEnvC mjC_quietm_10 (mjEnvC mjC_quietm_6 (fun e he => (by cases he))))) (pr := []) (cuts := []) (n := 52) (by decide +kernel)
def mjSm_quietm_16 : MjSm := ([(3, 240, 240, 0, 0), (0, 0, 3, 0, 0), (0, 0, 2, 0, 0), (0, 1, 1, 0, 0)], [], [((7, 0, 0, 0, 0), [], [])], [(241, 57), (241, 58), (275, 255)], 3)
set_option maxRecDepth 100000 in
theorem mjC_quietm_16 : mjCtr (mjSW 240 290 mjWd_quietm) 241 mjSm_quietm_16 := aiOk_ctr mjUW_ok (env := [(222, mjSm_quietm_4), (219, mjSm_quietm_12), (223, mjSm_quietm_14), (224, mjSm_quietm_13), (223, mjSm_quietm_6)]) (mjEnvC mjC_quietm_4 (mjEnvC mjC_quietm_12 (mjEnvC mjC_quietm_14 (mjEnvC mjC_quietm_13 (mjEnvC mjC_quietm_6 (fun e he => (by cases he))))))) (pr := []) (cuts := [(37, ([(3, 240, 240, 0, 0), (0, 0, 3, 0, 0), (0, 0, 2, 0, 0), (0, 1, 1, 0, 0), (0, 1, 3, 0, 0), (9, 0, 0, 0, 0)], [], []), [(0, 0, 49963), (1, 4, 2147483647), (0, 0, 60000), (0, 0, 0), (0, 0, 0), (0, 0, 0), (0, 0, 0), (0, 0, 0)])]) (n := 59) (by decide +kernel)
def mjSm_quietm_17 : MjSm := ([(3, 240, 240, 0, 0), (0, 0, 3, 0, 0), (0, 0, 2, 0, 0), (0, 0, 0, 0, 0)], [], [((7, 0, 0, 0, 0), [], [])], [(241, 49), (241, 50), (241, 51), (241, 56), (241, 57), (241, 58), (275, 255), (277, 255)], 4)
set_option maxRecDepth 100000 in
theorem mjC_quietm_17 : mjCtr (mjSW 240 290 mjWd_quietm) 250 mjSm_quietm_17 := aiOk_ctr mjUW_ok (env := [(179, mjSm_quietm_9), (241, mjSm_quietm_16), (225, mjSm_quietm_15)]) (mjEnvC mjC_quietm_9 (mjEnvC mjC_quietm_16 (mjEnvC mjC_quietm_15 (fun e he => (by cases he))))) (pr := []) (cuts := [(55, ([(3, 240, 240, 0, 0), (0, 0, 3, 0, 0), (0, 0, 2, 0, 0), (0, 0, 0, 0, 0), (0, 0, 0, 0, 0)], [], []), [(0, 0, 49945), (1, 4, 2147483647), (0, 0, 60000), (0, 0, 0), (0, 0, 0), (0, 0, 0), (0, 0, 0), (0, 0, 0)])]) (n := 35) (by decide +kernel)
def mjSm_quietm_18 : MjSm := ([(3, 240, 240, 0, 0)], [], [((0, 0, 0, 0, 0), [], [])], [], 2)
set_option maxRecDepth 100000 in
theorem mjC_quietm_18 : mjCtr (mjSW 240 290 mjWd_quietm) 251 mjSm_quietm_18 := aiOk_ctr mjUW_ok (env := [(179, mjSm_quietm_9)]) (mjEnvC mjC_quietm_9 (fun e he => (by cases he))) (pr := []) (cuts := [(4, ([(3, 240, 240, 0, 0), (0, 0, 0, 0, 0), (0, 0, 0, 0, 0)], [], []), [(0, 0, 49996), (1, 2, 2147483647), (0, 0, 60000), (0, 0, 0), (0, 0, 0), (0, 0, 0), (0, 0, 0), (0, 0, 0)])]) (n := 9) (by decide +kernel)
def mjSm_quietm_19 : MjSm := ([(3, 240, 240, 0, 0), (0, 0, 0, 0, 0)], [], [((7, 0, 0, 0, 0), [], [])], [(241, 49), (241, 50), (241, 51), (241, 56), (241, 57), (241, 58), (275, 255), (277, 255)], 5)
set_option maxRecDepth 100000 in
theorem mjC_quietm_19 : mjCtr (mjSW 240 290 mjWd_quietm) 247 mjSm_quietm_19 := aiOk_ctr mjUW_ok (env := [(220, mjSm_quietm_3), (251, mjSm_quietm_18), (222, mjSm_quietm_4), (250, mjSm_quietm_17), (248, mjSm_quietm_7)]) (mjEnvC mjC_quietm_3 (mjEnvC mjC_quietm_18 (mjEnvC mjC_quietm_4 (mjEnvC mjC_quietm_17 (mjEnvC mjC_quietm_7 (fun e he => (by cases he))))))) (pr := []) (cuts := [(7, ([(3, 240, 240, 0, 0), (0, 0, 0, 0, 0), (0, 0, 6, 0, 0), (9, 0, 0, 0, 0)], [], [(240, 56, (0, 0, 0, 0, 0))]), [(0, 0, 49993), (1, 2, 2147483647), (0, 0, 60000), (0, 0, 0), (0, 0, 0), (0, 0, 0), (0, 0, 0), (0, 0, 0)]), (52, ([(3, 240, 240, 0, 0), (0, 0, 0, 0, 0), (0, 1, 1, 0, 0), (0, 0, 12, 0, 0)], [], [(240, 56, (0, 0, 0, 0, 0))]), [(0, 0, 49948), (1, 3, 2147483647), (0, 0, 60000), (0, 0, 0), (0, 0, 0), (0, 0, 0), (0, 0, 0), (0, 0, 0)]), (159, ([(3, 240, 240, 0, 0), (0, 0, 0, 0, 0), (0, 1, 1, 0, 0), (0, 0, 12, 0, 0)], [], []), [(0, 0, 49841), (1, 3, 2147483647), (0, 0, 60000), (0, 0, 0), (0, 0, 0), (0, 0, 0), (0, 0, 0), (0, 0, 0)])]) (n := 28) (by decide +kernel)
def mjSm_quietm_20 : MjSm := ([(3, 240, 240, 0, 0), (0, 0, 24, 0, 0)], [(240, 57, (0, 0, 0, 0, 0))], [((7, 0, 0, 0, 0), [], [])], [(241, 49), (241, 50), (241, 51), (241, 56), (241, 57), (241, 58), (275, 255), (277, 255)], 6)
set_option maxRecDepth 100000 in
theorem mjC_quietm_20 : mjCtr (mjSW 240 290 mjWd_quietm) 269 mjSm_quietm_20 := aiOk_ctr mjUW_ok (env := [(247, mjSm_quietm_19)]) (mjEnvC mjC_quietm_19 (fun e he => (by cases he))) (pr := []) (cuts := [(2, ([(3, 240, 240, 0, 0), (0, 0, 24, 0, 0), (0, 0, 24, 0, 0)], [], []), [(0, 0, 49998), (1, 2, 2147483647), (0, 0, 60000), (0, 0, 0), (0, 0, 0), (0, 0, 0), (0, 0, 0), (0, 0, 0)])]) (n := 11) (by decide +kernel)
def mjSm_quietm_21 : MjSm := ([(3, 240, 240, 0, 0)], [], [((7, 0, 0, 0, 0), [], [])], [(275, 255)], 1)
set_option maxRecDepth 100000 in
theorem mjC_quietm_21 : mjCtr (mjSW 240 290 mjWd_quietm) 267 mjSm_quietm_21 := aiOk_ctr mjUW_ok (env := []) (fun e he => (by cases he)) (pr := []) (cuts := []) (n := 919) (by decide +kernel)
def mjSm_quietm_22 : MjSm := ([(0, 0, 0, 0, 0)], [], [((0, 0, 0, 0, 0), [], [])], [], 1)
set_option maxRecDepth 100000 in
theorem mjC_quietm_22 : mjCtr (mjSW 240 290 mjWd_quietm) 256 mjSm_quietm_22 := aiOk_ctr mjUW_ok (env := []) (fun e he => (by cases he)) (pr := []) (cuts := []) (n := 11) (by decide +kernel)
def mjSm_quietm_23 : MjSm := ([(3, 240, 240, 0, 0), (0, -2147483648, 2147483647, 0, 0), (0, -2147483648, 2147483647, 0, 0)], [(240, 57, (0, 0, 0, 0, 0))], [((0, -1, -1, 0, 0), [(1, -2147483648, -1)], [(240, 57, (0, 0, 0, 0, 0))]), ((0, -1, -1, 0, 0), [(1, 25, 2147483647)], [(240, 57, (0, 0, 0, 0, 0))]), ((0, -1, -1, 0, 0), [(1, 0, 24), (2, -2147483648, -1)], [(240, 57, (0, 0, 0, 0, 0))]), ((0, -1, -1, 0, 0), [(1, 0, 24), (2, 2, 2147483647)], [(240, 57, (0, 0, 0, 0, 0))]), ((0, 0, 0, 0, 0), [(1, 0, 24), (2, 0, 0)], []), ((0, 0, 0, 0, 0), [(1, 0, 24), (2, 1, 1)], [])], [(241, 49), (241, 50), (241, 51), (241, 56), (241, 57), (241, 58), (275, 255), (276, 255), (277, 255)], 7)
set_option maxRecDepth 100000 in
theorem mjC_quietm_23 : mjCtr (mjSW 240 290 mjWd_quietm) 289 mjSm_quietm_23 := aiOk_ctr mjUW_ok (env := [(269, mjSm_quietm_20), (256, mjSm_quietm_22), (267, mjSm_quietm_21), (266, mjSm_quietm_2), (221, mjSm_quietm_1), (221, mjSm_quietm_0)]) (mjEnvC mjC_quietm_20 (mjEnvC mjC_quietm_22 (mjEnvC mjC_quietm_21 (mjEnvC mjC_quietm_2 (mjEnvC mjC_quietm_1 (mjEnvC mjC_quietm_0 (fun e he => (by cases he)))))))) (pr := [1, 2]) (cuts := []) (n := 86) (by decide +kernel)
set_option maxRecDepth 100000 in
theorem mjPair_quiet (sc : List Int32) (s1 s2 : Int32)  : ∃ (v : Int32) (n1 : Nat) (w1 : MjW) (n2 : Nat) (w2 : MjW), mjEx mjTb mjMt sc n1 7 132 0 (mjEntry mjM_132.2.2.1 (.ref 0 :: [.int s1, .int s2])) [] mjW0 = some (some (.int v), w1) ∧ mjEx mjTb mjMt sc n2 7 289 0 (mjEntry mjM_289.2.2.1 (.ref 240 :: [.int s1, .int s2])) [] w1 = some (some (.int v), w2) ∧ mjShp w1 = mjShp mjW0 ∧ mjShp w2 = mjShp mjW0 := mj_pair (smx := mjSm_quietx_31) (smm := mjSm_quietm_23) mjC_quietx_31 mjC_quietm_23 mjWd_quietx_ok mjWd_quietm_ok (by decide +kernel) (by decide +kernel) (by decide +kernel) (by decide +kernel) (by decide +kernel) ⟨⟨0, rfl, rfl⟩, ⟨⟨s1, rfl, mjB.all s1⟩, ⟨⟨s2, rfl, mjB.all s2⟩, trivial⟩⟩⟩ ⟨⟨240, rfl, rfl⟩, ⟨⟨s1, rfl, mjB.all s1⟩, ⟨⟨s2, rfl, mjB.all s2⟩, trivial⟩⟩⟩ rfl rfl
