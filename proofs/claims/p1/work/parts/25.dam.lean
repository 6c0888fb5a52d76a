def mjWd_damx : MjWd := [(209, 7, (0, -2147483648, 2147483647)), (209, 8, (0, 0, 3)), (209, 9, (0, -2147483648, 2147483647)), (210, 6, (0, -2147483648, 2147483647)), (210, 7, (0, 0, 999)), (211, 255, (0, 0, 99)), (214, 255, (0, -2147483648, 2147483647)), (216, 255, (0, -2147483648, 2147483647)), (217, 255, (0, 0, 2147483647)), (224, 2, (6, 0, 0))]
theorem mjWd_damx_ok : mjWdB mjWd_damx = true := by decide +kernel
def mjSm_damx_0 : MjSm := ([(3, 18, 18, 0, 0)], [], [((3, 20, 20, 0, 0), [], [])], [], 1)
set_option maxRecDepth 100000 in
theorem mjC_damx_0 : mjCtr (mjSW 0 240 mjWd_damx) 70 mjSm_damx_0 := aiOk_ctr mjUW_ok (env := []) (fun e he => (by cases he)) (pr := []) (cuts := []) (n := 9) (by decide +kernel)
def mjSm_damx_1 : MjSm := ([(3, 210, 210, 0, 0), (3, 20, 20, 0, 0)], [], [((7, 0, 0, 0, 0), [], [])], [(211, 3), (211, 4), (211, 5), (211, 6), (211, 7), (212, 255), (213, 255), (214, 255)], 1)
set_option maxRecDepth 100000 in
theorem mjC_damx_1 : mjCtr (mjSW 0 240 mjWd_damx) 64 mjSm_damx_1 := aiOk_ctr mjUW_ok (env := []) (fun e he => (by cases he)) (pr := []) (cuts := []) (n := 48) (by decide +kernel)
def mjSm_damx_2 : MjSm := ([(3, 216, 216, 0, 0), (0, 0, 0, 0, 0)], [], [((7, 0, 0, 0, 0), [], [])], [(217, 255)], 1)
set_option maxRecDepth 100000 in
theorem mjC_damx_2 : mjCtr (mjSW 0 240 mjWd_damx) 6 mjSm_damx_2 := aiOk_ctr mjUW_ok (env := []) (fun e he => (by cases he)) (pr := []) (cuts := [(5, ([(3, 216, 216, 0, 0), (0, 0, 0, 0, 0), (0, 0, 6, 0, 0), (0, 6, 6, 0, 0)], [], []), [(0, 0, 49995), (1, 2, 2147483647), (0, 0, 60000), (0, 0, 0), (0, 0, 0), (0, 0, 0), (0, 0, 0), (0, 0, 0)])]) (n := 12) (by decide +kernel)
def mjSm_damx_3 : MjSm := ([(3, 217, 217, 0, 0), (0, 0, 0, 0, 0)], [], [((7, 0, 0, 0, 0), [], [])], [(218, 255)], 1)
set_option maxRecDepth 100000 in
theorem mjC_damx_3 : mjCtr (mjSW 0 240 mjWd_damx) 6 mjSm_damx_3 := aiOk_ctr mjUW_ok (env := []) (fun e he => (by cases he)) (pr := []) (cuts := [(5, ([(3, 217, 217, 0, 0), (0, 0, 0, 0, 0), (0, 0, 6, 0, 0), (0, 6, 6, 0, 0)], [], []), [(0, 0, 49995), (1, 2, 2147483647), (0, 0, 60000), (0, 0, 0), (0, 0, 0), (0, 0, 0), (0, 0, 0), (0, 0, 0)])]) (n := 12) (by decide +kernel)
def mjSm_damx_4 : MjSm := ([(3, 215, 215, 0, 0), (0, 0, 0, 0, 0)], [], [((7, 0, 0, 0, 0), [], [])], [(216, 255)], 1)
set_option maxRecDepth 100000 in
theorem mjC_damx_4 : mjCtr (mjSW 0 240 mjWd_damx) 6 mjSm_damx_4 := aiOk_ctr mjUW_ok (env := []) (fun e he => (by cases he)) (pr := []) (cuts := [(5, ([(3, 215, 215, 0, 0), (0, 0, 0, 0, 0), (0, 0, 6, 0, 0), (0, 6, 6, 0, 0)], [], []), [(0, 0, 49995), (1, 2, 2147483647), (0, 0, 60000), (0, 0, 0), (0, 0, 0), (0, 0, 0), (0, 0, 0), (0, 0, 0)])]) (n := 12) (by decide +kernel)
def mjSm_damx_5 : MjSm := ([(3, 193, 193, 0, 0), (3, 210, 210, 0, 0), (0, -2147483648, 2147483647, 0, 0)], [], [((0, 0, 0, 0, 0), [], [])], [], 1)
set_option maxRecDepth 100000 in
theorem mjC_damx_5 : mjCtr (mjSW 0 240 mjWd_damx) 75 mjSm_damx_5 := aiOk_ctr mjUW_ok (env := []) (fun e he => (by cases he)) (pr := []) (cuts := [(5, ([(3, 193, 193, 0, 0), (3, 210, 210, 0, 0), (0, -2147483648, 2147483647, 0, 0), (0, 0, 0, 0, 0), (0, 0, 0, 0, 0), (9, 0, 0, 0, 0)], [], []), [(0, 0, 49995), (1, 4, 2147483647), (0, 0, 60000), (0, 0, 0), (0, 0, 0), (0, 0, 0), (0, 0, 0), (0, 0, 0)])]) (n := 9) (by decide +kernel)
def mjSm_damx_6 : MjSm := ([(3, 209, 209, 0, 0)], [], [((7, 0, 0, 0, 0), [], [])], [(216, 255)], 2)
set_option maxRecDepth 100000 in
theorem mjC_damx_6 : mjCtr (mjSW 0 240 mjWd_damx) 74 mjSm_damx_6 := aiOk_ctr mjUW_ok (env := [(6, mjSm_damx_4), (75, mjSm_damx_5)]) (mjEnvC mjC_damx_4 (mjEnvC mjC_damx_5 (fun e he => (by cases he)))) (pr := []) (cuts := [(32, ([(3, 209, 209, 0, 0), (0, 0, 0, 0, 0), (0, 0, 0, 0, 0)], [], []), [(0, 0, 49968), (1, 2, 2147483647), (0, 0, 60000), (0, 0, 0), (0, 0, 0), (0, 0, 0), (0, 0, 0), (0, 0, 0)])]) (n := 20) (by decide +kernel)
def mjSm_damx_7 : MjSm := ([(3, 209, 209, 0, 0), (3, 193, 193, 0, 0), (3, 210, 210, 0, 0)], [], [((7, 0, 0, 0, 0), [], [])], [(210, 2), (210, 3), (210, 7), (216, 255), (217, 255), (218, 255)], 3)
set_option maxRecDepth 100000 in
theorem mjC_damx_7 : mjCtr (mjSW 0 240 mjWd_damx) 73 mjSm_damx_7 := aiOk_ctr mjUW_ok (env := [(6, mjSm_damx_3), (6, mjSm_damx_2), (74, mjSm_damx_6)]) (mjEnvC mjC_damx_3 (mjEnvC mjC_damx_2 (mjEnvC mjC_damx_6 (fun e he => (by cases he))))) (pr := []) (cuts := []) (n := 23) (by decide +kernel)
def mjSm_damx_8 : MjSm := ([(3, 209, 209, 0, 0), (3, 193, 193, 0, 0), (3, 20, 20, 0, 0)], [], [((7, 0, 0, 0, 0), [], [])], [(210, 2), (210, 3), (210, 7), (211, 3), (211, 4), (211, 5), (211, 6), (211, 7), (212, 255), (213, 255), (214, 255), (216, 255), (217, 255), (218, 255)], 4)
set_option maxRecDepth 100000 in
theorem mjC_damx_8 : mjCtr (mjSW 0 240 mjWd_damx) 72 mjSm_damx_8 := aiOk_ctr mjUW_ok (env := [(73, mjSm_damx_7), (64, mjSm_damx_1)]) (mjEnvC mjC_damx_7 (mjEnvC mjC_damx_1 (fun e he => (by cases he)))) (pr := []) (cuts := []) (n := 13) (by decide +kernel)
def mjSm_damx_9 : MjSm := ([(3, 224, 224, 0, 0), (3, 193, 193, 0, 0), (3, 20, 20, 0, 0)], [], [((7, 0, 0, 0, 0), [], [(224, 2, (3, 20, 20, 0, 0))])], [(210, 2), (210, 3), (210, 7), (211, 3), (211, 4), (211, 5), (211, 6), (211, 7), (212, 255), (213, 255), (214, 255), (216, 255), (217, 255), (218, 255), (225, 1), (225, 2)], 5)
set_option maxRecDepth 100000 in
theorem mjC_damx_9 : mjCtr (mjSW 0 240 mjWd_damx) 123 mjSm_damx_9 := aiOk_ctr mjUW_ok (env := [(72, mjSm_damx_8)]) (mjEnvC mjC_damx_8 (fun e he => (by cases he))) (pr := []) (cuts := []) (n := 15) (by decide +kernel)
def mjSm_damx_10 : MjSm := ([(3, 209, 209, 0, 0), (0, -1, -1, 0, 0)], [], [((0, 0, 0, 0, 0), [], [])], [], 1)
set_option maxRecDepth 100000 in
theorem mjC_damx_10 : mjCtr (mjSW 0 240 mjWd_damx) 94 mjSm_damx_10 := aiOk_ctr mjUW_ok (env := []) (fun e he => (by cases he)) (pr := []) (cuts := [(4, ([(3, 209, 209, 0, 0), (0, -1, -1, 0, 0), (0, 0, 0, 0, 0), (0, 0, 0, 0, 0)], [], []), [(0, 0, 49996), (1, 3, 2147483647), (0, 0, 60000), (0, 0, 0), (0, 0, 0), (0, 0, 0), (0, 0, 0), (0, 0, 0)])]) (n := 10) (by decide +kernel)
def mjSm_damx_11 : MjSm := ([(3, 209, 209, 0, 0)], [], [((0, 0, 0, 0, 0), [], [])], [], 2)
set_option maxRecDepth 100000 in
theorem mjC_damx_11 : mjCtr (mjSW 0 240 mjWd_damx) 93 mjSm_damx_11 := aiOk_ctr mjUW_ok (env := [(94, mjSm_damx_10)]) (mjEnvC mjC_damx_10 (fun e he => (by cases he))) (pr := []) (cuts := []) (n := 11) (by decide +kernel)
def mjSm_damx_12 : MjSm := ([(0, 0, 3, 0, 0), (0, 0, 2, 0, 0)], [], [((0, 0, 17, 0, 0), [], [])], [], 1)
set_option maxRecDepth 100000 in
theorem mjC_damx_12 : mjCtr (mjSW 0 240 mjWd_damx) 48 mjSm_damx_12 := aiOk_ctr mjUW_ok (env := []) (fun e he => (by cases he)) (pr := []) (cuts := []) (n := 9) (by decide +kernel)
def mjSm_damx_13 : MjSm := ([(3, 209, 209, 0, 0), (0, 0, 17, 0, 0), (0, 1, 1, 0, 0)], [], [((7, 0, 0, 0, 0), [], [])], [(212, 255)], 1)
set_option maxRecDepth 100000 in
theorem mjC_damx_13 : mjCtr (mjSW 0 240 mjWd_damx) 89 mjSm_damx_13 := aiOk_ctr mjUW_ok (env := []) (fun e he => (by cases he)) (pr := []) (cuts := []) (n := 18) (by decide +kernel)
def mjSm_damx_14 : MjSm := ([(3, 201, 201, 0, 0), (3, 214, 214, 0, 0)], [], [((0, -2147483648, 2147483647, 0, 0), [], [])], [], 1)
set_option maxRecDepth 100000 in
theorem mjC_damx_14 : mjCtr (mjSW 0 240 mjWd_damx) 77 mjSm_damx_14 := aiOk_ctr mjUW_ok (env := []) (fun e he => (by cases he)) (pr := []) (cuts := []) (n := 20) (by decide +kernel)
def mjSm_damx_15 : MjSm := ([(3, 193, 193, 0, 0), (0, 0, 3, 0, 0)], [], [((0, 1, 1, 0, 0), [], [])], [], 1)
set_option maxRecDepth 100000 in
theorem mjC_damx_15 : mjCtr (mjSW 0 240 mjWd_damx) 69 mjSm_damx_15 := aiOk_ctr mjUW_ok (env := []) (fun e he => (by cases he)) (pr := []) (cuts := []) (n := 15) (by decide +kernel)
def mjSm_damx_16 : MjSm := ([(0, 0, 3, 0, 0), (0, 1, 2, 0, 0)], [], [((0, 1, 17, 0, 0), [], [])], [], 1)
set_option maxRecDepth 100000 in
theorem mjC_damx_16 : mjCtr (mjSW 0 240 mjWd_damx) 48 mjSm_damx_16 := aiOk_ctr mjUW_ok (env := []) (fun e he => (by cases he)) (pr := []) (cuts := []) (n := 9) (by decide +kernel)
def mjSm_damx_17 : MjSm := ([(3, 209, 209, 0, 0), (0, 1, 17, 0, 0), (0, 1, 1, 0, 0)], [], [((7, 0, 0, 0, 0), [], [])], [(210, 9), (212, 255)], 1)
set_option maxRecDepth 100000 in
theorem mjC_damx_17 : mjCtr (mjSW 0 240 mjWd_damx) 92 mjSm_damx_17 := aiOk_ctr mjUW_ok (env := []) (fun e he => (by cases he)) (pr := []) (cuts := []) (n := 22) (by decide +kernel)
def mjSm_damx_18 : MjSm := ([(0, 0, 3, 0, 0), (0, 0, 1, 0, 0)], [], [((0, 0, 16, 0, 0), [], [])], [], 1)
set_option maxRecDepth 100000 in
theorem mjC_damx_18 : mjCtr (mjSW 0 240 mjWd_damx) 48 mjSm_damx_18 := aiOk_ctr mjUW_ok (env := []) (fun e he => (by cases he)) (pr := []) (cuts := []) (n := 9) (by decide +kernel)
def mjSm_damx_19 : MjSm := ([(3, 209, 209, 0, 0), (0, 0, 16, 0, 0), (0, 1, 1, 0, 0)], [], [((7, 0, 0, 0, 0), [], [])], [(210, 9), (212, 255)], 1)
set_option maxRecDepth 100000 in
theorem mjC_damx_19 : mjCtr (mjSW 0 240 mjWd_damx) 92 mjSm_damx_19 := aiOk_ctr mjUW_ok (env := []) (fun e he => (by cases he)) (pr := []) (cuts := []) (n := 22) (by decide +kernel)
def mjSm_damx_20 : MjSm := ([(3, 209, 209, 0, 0), (0, 0, 3, 0, 0), (0, 0, 1, 0, 0), (0, 1, 1, 0, 0)], [], [((7, 0, 0, 0, 0), [], [])], [(210, 8), (210, 9), (212, 255)], 2)
set_option maxRecDepth 100000 in
theorem mjC_damx_20 : mjCtr (mjSW 0 240 mjWd_damx) 91 mjSm_damx_20 := aiOk_ctr mjUW_ok (env := [(69, mjSm_damx_15), (48, mjSm_damx_18), (48, mjSm_damx_16), (92, mjSm_damx_19), (92, mjSm_damx_17)]) (mjEnvC mjC_damx_15 (mjEnvC mjC_damx_18 (mjEnvC mjC_damx_16 (mjEnvC mjC_damx_19 (mjEnvC mjC_damx_17 (fun e he => (by cases he))))))) (pr := []) (cuts := [(25, ([(3, 209, 209, 0, 0), (0, 0, 3, 0, 0), (0, 0, 1, 0, 0), (0, 1, 1, 0, 0), (0, 1, 3, 0, 0), (9, 0, 0, 0, 0)], [], []), [(0, 0, 49975), (1, 4, 2147483647), (0, 0, 60000), (0, 0, 0), (0, 0, 0), (0, 0, 0), (0, 0, 0), (0, 0, 0)])]) (n := 43) (by decide +kernel)
def mjSm_damx_21 : MjSm := ([(3, 209, 209, 0, 0), (0, 0, 3, 0, 0), (0, 0, 1, 0, 0)], [], [((7, 0, 0, 0, 0), [], [])], [(210, 7), (210, 8), (210, 9), (212, 255), (217, 255), (218, 255)], 3)
set_option maxRecDepth 100000 in
theorem mjC_damx_21 : mjCtr (mjSW 0 240 mjWd_damx) 90 mjSm_damx_21 := aiOk_ctr mjUW_ok (env := [(91, mjSm_damx_20)]) (mjEnvC mjC_damx_20 (fun e he => (by cases he))) (pr := []) (cuts := [(78, ([(3, 209, 209, 0, 0), (0, 0, 3, 0, 0), (0, 0, 1, 0, 0), (0, 0, 0, 0, 0), (0, 0, 0, 0, 0)], [], []), [(0, 0, 49922), (1, 4, 2147483647), (0, 0, 60000), (0, 0, 0), (0, 0, 0), (0, 0, 0), (0, 0, 0), (0, 0, 0)])]) (n := 47) (by decide +kernel)
def mjSm_damx_22 : MjSm := ([(3, 209, 209, 0, 0), (0, 0, 3, 0, 0), (0, 0, 2, 0, 0), (0, 0, 0, 0, 0)], [], [((0, 0, 0, 0, 0), [], []), ((0, 1, 1, 0, 0), [(2, 0, 1)], []), ((0, 0, 0, 0, 0), [(2, 0, 1)], []), ((0, 1, 1, 0, 0), [(2, 2, 2)], []), ((0, 0, 0, 0, 0), [(2, 2, 2)], [])], [(215, 255)], 2)
set_option maxRecDepth 100000 in
theorem mjC_damx_22 : mjCtr (mjSW 0 240 mjWd_damx) 76 mjSm_damx_22 := aiOk_ctr mjUW_ok (env := [(77, mjSm_damx_14), (48, mjSm_damx_12)]) (mjEnvC mjC_damx_14 (mjEnvC mjC_damx_12 (fun e he => (by cases he)))) (pr := [2]) (cuts := []) (n := 80) (by decide +kernel)
def mjSm_damx_23 : MjSm := ([(0, 0, 3, 0, 0), (0, 2, 2, 0, 0)], [], [((0, 2, 17, 0, 0), [], [])], [], 1)
set_option maxRecDepth 100000 in
theorem mjC_damx_23 : mjCtr (mjSW 0 240 mjWd_damx) 48 mjSm_damx_23 := aiOk_ctr mjUW_ok (env := []) (fun e he => (by cases he)) (pr := []) (cuts := []) (n := 9) (by decide +kernel)
def mjSm_damx_24 : MjSm := ([(3, 209, 209, 0, 0), (0, 2, 17, 0, 0), (0, 1, 1, 0, 0)], [], [((7, 0, 0, 0, 0), [], [])], [(210, 9), (212, 255)], 1)
set_option maxRecDepth 100000 in
theorem mjC_damx_24 : mjCtr (mjSW 0 240 mjWd_damx) 92 mjSm_damx_24 := aiOk_ctr mjUW_ok (env := []) (fun e he => (by cases he)) (pr := []) (cuts := []) (n := 22) (by decide +kernel)
def mjSm_damx_25 : MjSm := ([(3, 209, 209, 0, 0), (0, 0, 3, 0, 0), (0, 2, 2, 0, 0), (0, 1, 1, 0, 0)], [], [((7, 0, 0, 0, 0), [], [])], [(210, 8), (210, 9), (212, 255)], 2)
set_option maxRecDepth 100000 in
theorem mjC_damx_25 : mjCtr (mjSW 0 240 mjWd_damx) 91 mjSm_damx_25 := aiOk_ctr mjUW_ok (env := [(48, mjSm_damx_23), (92, mjSm_damx_24)]) (mjEnvC mjC_damx_23 (mjEnvC mjC_damx_24 (fun e he => (by cases he)))) (pr := []) (cuts := [(25, ([(3, 209, 209, 0, 0), (0, 0, 3, 0, 0), (0, 2, 2, 0, 0), (0, 1, 1, 0, 0), (0, 3, 3, 0, 0), (9, 0, 0, 0, 0)], [], []), [(0, 0, 49975), (1, 4, 2147483647), (0, 0, 60000), (0, 0, 0), (0, 0, 0), (0, 0, 0), (0, 0, 0), (0, 0, 0)])]) (n := 19) (by decide +kernel)
def mjSm_damx_26 : MjSm := ([(3, 209, 209, 0, 0), (0, 0, 3, 0, 0), (0, 2, 2, 0, 0)], [], [((7, 0, 0, 0, 0), [], [])], [(210, 7), (210, 8), (210, 9), (212, 255), (217, 255), (218, 255)], 3)
set_option maxRecDepth 100000 in
theorem mjC_damx_26 : mjCtr (mjSW 0 240 mjWd_damx) 90 mjSm_damx_26 := aiOk_ctr mjUW_ok (env := [(91, mjSm_damx_25)]) (mjEnvC mjC_damx_25 (fun e he => (by cases he))) (pr := []) (cuts := [(78, ([(3, 209, 209, 0, 0), (0, 0, 3, 0, 0), (0, 2, 2, 0, 0), (0, 0, 0, 0, 0), (0, 0, 0, 0, 0)], [], []), [(0, 0, 49922), (1, 4, 2147483647), (0, 0, 60000), (0, 0, 0), (0, 0, 0), (0, 0, 0), (0, 0, 0), (0, 0, 0)])]) (n := 47) (by decide +kernel)
def mjSm_damx_27 : MjSm := ([(3, 209, 209, 0, 0), (0, 1, 1, 0, 0), (0, 0, 0, 0, 0)], [(209, 8, (0, 0, 0, 0, 0))], [((7, 0, 0, 0, 0), [], [])], [(210, 7), (210, 8), (210, 9), (211, 5), (211, 6), (211, 7), (212, 255), (215, 255), (216, 255), (217, 255), (218, 255)], 4)
set_option maxRecDepth 100000 in
theorem mjC_damx_27 : mjCtr (mjSW 0 240 mjWd_damx) 88 mjSm_damx_27 := aiOk_ctr mjUW_ok (env := [(74, mjSm_damx_6), (93, mjSm_damx_11), (90, mjSm_damx_26), (90, mjSm_damx_21), (48, mjSm_damx_12), (76, mjSm_damx_22), (89, mjSm_damx_13)]) (mjEnvC mjC_damx_6 (mjEnvC mjC_damx_11 (mjEnvC mjC_damx_26 (mjEnvC mjC_damx_21 (mjEnvC mjC_damx_12 (mjEnvC mjC_damx_22 (mjEnvC mjC_damx_13 (fun e he => (by cases he))))))))) (pr := []) (cuts := [(2, ([(3, 209, 209, 0, 0), (0, 1, 1, 0, 0), (0, 0, 0, 0, 0), (0, 0, 4, 0, 0), (9, 0, 0, 0, 0)], [], [(209, 8, (0, 0, 0, 0, 0))]), [(0, 0, 49998), (1, 3, 2147483647), (0, 0, 60000), (0, 0, 0), (0, 0, 0), (0, 0, 0), (0, 0, 0), (0, 0, 0)]), (16, ([(3, 209, 209, 0, 0), (0, 1, 1, 0, 0), (0, 0, 0, 0, 0), (0, 0, 3, 0, 0), (0, 0, 3, 0, 0)], [], [(209, 8, (0, 0, 0, 0, 0))]), [(0, 0, 49998), (1, 3, 2147483647), (0, 0, 49984), (1, 4, 2147483647), (0, 0, 60000), (0, 0, 0), (0, 0, 0), (0, 0, 0)]), (140, ([(3, 209, 209, 0, 0), (0, 1, 1, 0, 0), (0, 0, 0, 0, 0), (0, 0, 3, 0, 0), (9, 0, 0, 0, 0)], [], []), [(0, 0, 49860), (1, 3, 2147483647), (0, 0, 60000), (0, 0, 0), (0, 0, 0), (0, 0, 0), (0, 0, 0), (0, 0, 0)]), (154, ([(3, 209, 209, 0, 0), (0, 1, 1, 0, 0), (0, 0, 0, 0, 0), (0, 0, 2, 0, 0), (0, 0, 4, 0, 0)], [], []), [(0, 0, 49860), (1, 3, 2147483647), (0, 0, 49846), (1, 4, 2147483647), (0, 0, 60000), (0, 0, 0), (0, 0, 0), (0, 0, 0)])]) (n := 26) (by decide +kernel)
def mjSm_damx_28 : MjSm := ([(3, 209, 209, 0, 0), (0, 1, 1, 0, 0), (0, 0, 0, 0, 0)], [], [((7, 0, 0, 0, 0), [], [])], [(210, 7), (210, 8), (210, 9), (211, 5), (211, 6), (211, 7), (212, 255), (215, 255), (216, 255), (217, 255), (218, 255)], 4)
set_option maxRecDepth 100000 in
theorem mjC_damx_28 : mjCtr (mjSW 0 240 mjWd_damx) 88 mjSm_damx_28 := aiOk_ctr mjUW_ok (env := [(74, mjSm_damx_6), (93, mjSm_damx_11), (90, mjSm_damx_26), (90, mjSm_damx_21), (48, mjSm_damx_12), (76, mjSm_damx_22), (89, mjSm_damx_13)]) (mjEnvC mjC_damx_6 (mjEnvC mjC_damx_11 (mjEnvC mjC_damx_26 (mjEnvC mjC_damx_21 (mjEnvC mjC_damx_12 (mjEnvC mjC_damx_22 (mjEnvC mjC_damx_13 (fun e he => (by cases he))))))))) (pr := []) (cuts := [(2, ([(3, 209, 209, 0, 0), (0, 1, 1, 0, 0), (0, 0, 0, 0, 0), (0, 0, 4, 0, 0), (9, 0, 0, 0, 0)], [], []), [(0, 0, 49998), (1, 3, 2147483647), (0, 0, 60000), (0, 0, 0), (0, 0, 0), (0, 0, 0), (0, 0, 0), (0, 0, 0)]), (16, ([(3, 209, 209, 0, 0), (0, 1, 1, 0, 0), (0, 0, 0, 0, 0), (0, 0, 3, 0, 0), (0, 0, 3, 0, 0)], [], []), [(0, 0, 49998), (1, 3, 2147483647), (0, 0, 49984), (1, 4, 2147483647), (0, 0, 60000), (0, 0, 0), (0, 0, 0), (0, 0, 0)]), (140, ([(3, 209, 209, 0, 0), (0, 1, 1, 0, 0), (0, 0, 0, 0, 0), (0, 0, 3, 0, 0), (9, 0, 0, 0, 0)], [], []), [(0, 0, 49860), (1, 3, 2147483647), (0, 0, 60000), (0, 0, 0), (0, 0, 0), (0, 0, 0), (0, 0, 0), (0, 0, 0)]), (154, ([(3, 209, 209, 0, 0), (0, 1, 1, 0, 0), (0, 0, 0, 0, 0), (0, 0, 2, 0, 0), (0, 0, 4, 0, 0)], [], []), [(0, 0, 49860), (1, 3, 2147483647), (0, 0, 49846), (1, 4, 2147483647), (0, 0, 60000), (0, 0, 0), (0, 0, 0), (0, 0, 0)])]) (n := 26) (by decide +kernel)
def mjSm_damx_29 : MjSm := ([(3, 224, 224, 0, 0), (0, 0, 24, 0, 0)], [(209, 8, (0, 0, 0, 0, 0))], [((0, 0, 0, 0, 0), [(1, 0, 24)], [])], [(210, 7), (210, 8), (210, 9), (211, 5), (211, 6), (211, 7), (212, 255), (215, 255), (216, 255), (217, 255), (218, 255)], 5)
set_option maxRecDepth 100000 in
theorem mjC_damx_29 : mjCtr (mjSW 0 240 mjWd_damx) 137 mjSm_damx_29 := aiOk_ctr mjUW_ok (env := [(88, mjSm_damx_27), (88, mjSm_damx_28), (93, mjSm_damx_11)]) (mjEnvC mjC_damx_27 (mjEnvC mjC_damx_28 (mjEnvC mjC_damx_11 (fun e he => (by cases he))))) (pr := [1]) (cuts := []) (n := 300) (by decide +kernel)
def mjSm_damx_30 : MjSm := ([(3, 224, 224, 0, 0), (3, 193, 193, 0, 0), (3, 20, 20, 0, 0), (0, 0, 24, 0, 0)], [(209, 8, (0, 0, 0, 0, 0)), (224, 2, (3, 205, 205, 0, 0))], [((0, 0, 0, 0, 0), [], [(224, 2, (3, 20, 20, 0, 0))])], [(210, 2), (210, 3), (210, 7), (210, 8), (210, 9), (211, 3), (211, 4), (211, 5), (211, 6), (211, 7), (212, 255), (213, 255), (214, 255), (215, 255), (216, 255), (217, 255), (218, 255), (225, 1), (225, 2), (225, 9)], 6)
set_option maxRecDepth 100000 in
theorem mjC_damx_30 : mjCtr (mjSW 0 240 mjWd_damx) 136 mjSm_damx_30 := aiOk_ctr mjUW_ok (env := [(137, mjSm_damx_29), (93, mjSm_damx_11), (123, mjSm_damx_9)]) (mjEnvC mjC_damx_29 (mjEnvC mjC_damx_11 (mjEnvC mjC_damx_9 (fun e he => (by cases he))))) (pr := []) (cuts := []) (n := 103) (by decide +kernel)
def mjSm_damx_31 : MjSm := ([(3, 0, 0, 0, 0), (0, -2147483648, 2147483647, 0, 0), (0, -2147483648, 2147483647, 0, 0)], [(209, 8, (0, 0, 0, 0, 0)), (224, 2, (3, 205, 205, 0, 0))], [((0, -1, -1, 0, 0), [(1, 0, 24), (2, 4, 2147483647)], [(209, 8, (0, 0, 0, 0, 0)), (224, 2, (3, 205, 205, 0, 0))]), ((0, -1, -1, 0, 0), [(1, 0, 24), (2, 0, 3)], [(224, 2, (3, 20, 20, 0, 0))]), ((0, -1, -1, 0, 0), [(1, 0, 24), (2, -2147483648, -1)], [(209, 8, (0, 0, 0, 0, 0)), (224, 2, (3, 205, 205, 0, 0))]), ((0, -1, -1, 0, 0), [(1, 25, 2147483647)], [(209, 8, (0, 0, 0, 0, 0)), (224, 2, (3, 205, 205, 0, 0))]), ((0, -1, -1, 0, 0), [(1, -2147483648, -1)], [(209, 8, (0, 0, 0, 0, 0)), (224, 2, (3, 205, 205, 0, 0))])], [(210, 2), (210, 3), (210, 7), (210, 8), (210, 9), (211, 3), (211, 4), (211, 5), (211, 6), (211, 7), (212, 255), (213, 255), (214, 255), (215, 255), (216, 255), (217, 255), (218, 255), (225, 1), (225, 2), (225, 9)], 7)
set_option maxRecDepth 100000 in
theorem mjC_damx_31 : mjCtr (mjSW 0 240 mjWd_damx) 135 mjSm_damx_31 := aiOk_ctr mjUW_ok (env := [(136, mjSm_damx_30), (70, mjSm_damx_0)]) (mjEnvC mjC_damx_30 (mjEnvC mjC_damx_0 (fun e he => (by cases he)))) (pr := [1, 2]) (cuts := []) (n := 25) (by decide +kernel)
def mjWd_damm : MjWd := [(240, 49, (0, 0, 3)), (240, 50, (0, 0, 2)), (240, 56, (0, -2147483648, 2147483647)), (240, 57, (0, -1, 4)), (240, 58, (0, -2147483648, 2147483647)), (274, 0, (0, 0, 99)), (274, 1, (0, 0, 99)), (274, 2, (0, 0, 99)), (274, 3, (0, 0, 99)), (274, 4, (0, 0, 99)), (274, 5, (0, 0, 99)), (274, 6, (0, 0, 99)), (274, 7, (0, 0, 99)), (274, 8, (0, 0, 99)), (274, 9, (0, 0, 99)), (274, 10, (0, 0, 99)), (274, 11, (0, 0, 99)), (274, 12, (0, 0, 99)), (274, 13, (0, 0, 99)), (274, 14, (0, 0, 99)), (274, 15, (0, 0, 99)), (274, 16, (0, 0, 99)), (274, 17, (0, 0, 99)), (274, 30, (0, 0, 2)), (274, 31, (0, 0, 2)), (274, 32, (0, 0, 2)), (274, 33, (0, 0, 2)), (274, 34, (0, 0, 2)), (274, 35, (0, 0, 2)), (274, 36, (0, 0, 2)), (274, 37, (0, 0, 2)), (274, 38, (0, 0, 2)), (274, 39, (0, 0, 2)), (274, 40, (0, 0, 2)), (274, 41, (0, 0, 2)), (274, 42, (0, 0, 2)), (274, 43, (0, 0, 2)), (274, 44, (0, 0, 2)), (274, 45, (0, 0, 2)), (274, 46, (0, 0, 2)), (274, 47, (0, 0, 2)), (274, 68, (0, -2147483648, 2147483647)), (275, 0, (0, 0, 99)), (275, 1, (0, 0, 99)), (275, 2, (0, 0, 99)), (275, 3, (0, 0, 99)), (275, 4, (0, 0, 99)), (275, 5, (0, 0, 99)), (275, 6, (0, 0, 99)), (275, 7, (0, 0, 99)), (275, 8, (0, 0, 99)), (275, 9, (0, 0, 99)), (275, 10, (0, 0, 99)), (275, 11, (0, 0, 99)), (275, 12, (0, 0, 99)), (275, 13, (0, 0, 99)), (275, 14, (0, 0, 99)), (275, 15, (0, 0, 99)), (275, 16, (0, 0, 99)), (275, 17, (0, 0, 99)), (275, 30, (0, 0, 2)), (275, 31, (0, 0, 2)), (275, 32, (0, 0, 2)), (275, 33, (0, 0, 2)), (275, 34, (0, 0, 2)), (275, 35, (0, 0, 2)), (275, 36, (0, 0, 2)), (275, 37, (0, 0, 2)), (275, 38, (0, 0, 2)), (275, 39, (0, 0, 2)), (275, 40, (0, 0, 2)), (275, 41, (0, 0, 2)), (275, 42, (0, 0, 2)), (275, 43, (0, 0, 2)), (275, 44, (0, 0, 2)), (275, 45, (0, 0, 2)), (275, 46, (0, 0, 2)), (275, 47, (0, 0, 2)), (275, 68, (0, -2147483648, 2147483647)), (276, 255, (0, -2147483648, 2147483647))]
theorem mjWd_damm_ok : mjWdB mjWd_damm = true := by decide +kernel
def mjSm_damm_0 : MjSm := ([(0, -2147483648, 2147483647, 0, 0), (0, 0, 0, 0, 0), (0, 24, 24, 0, 0)], [], [((0, 1, 1, 0, 0), [(0, 0, 24)], []), ((0, 0, 0, 0, 0), [(0, 25, 2147483647)], []), ((0, 0, 0, 0, 0), [(0, -2147483648, -1)], [])], [], 1)
set_option maxRecDepth 100000 in
theorem mjC_damm_0 : mjCtr (mjSW 240 290 mjWd_damm) 221 mjSm_damm_0 := aiOk_ctr mjUW_ok (env := []) (fun e he => (by cases he)) (pr := [0]) (cuts := []) (n := 12) (by decide +kernel)
def mjSm_damm_1 : MjSm := ([(0, -2147483648, 2147483647, 0, 0), (0, 0, 0, 0, 0), (0, 3, 3, 0, 0)], [], [((0, 1, 1, 0, 0), [(0, 0, 3)], []), ((0, 0, 0, 0, 0), [(0, 4, 2147483647)], []), ((0, 0, 0, 0, 0), [(0, -2147483648, -1)], [])], [], 1)
set_option maxRecDepth 100000 in
theorem mjC_damm_1 : mjCtr (mjSW 240 290 mjWd_damm) 221 mjSm_damm_1 := aiOk_ctr mjUW_ok (env := []) (fun e he => (by cases he)) (pr := [0]) (cuts := []) (n := 12) (by decide +kernel)
def mjSm_damm_2 : MjSm := ([(3, 240, 240, 0, 0)], [], [((7, 0, 0, 0, 0), [], [])], [(276, 255)], 1)
set_option maxRecDepth 100000 in
theorem mjC_damm_2 : mjCtr (mjSW 240 290 mjWd_damm) 266 mjSm_damm_2 := aiOk_ctr mjUW_ok (env := []) (fun e he => (by cases he)) (pr := []) (cuts := []) (n := 919) (by decide +kernel)
def mjSm_damm_3 : MjSm := ([(3, 240, 240, 0, 0)], [], [((0, 4, 4, 0, 0), [], [])], [], 1)
set_option maxRecDepth 100000 in
theorem mjC_damm_3 : mjCtr (mjSW 240 290 mjWd_damm) 220 mjSm_damm_3 := aiOk_ctr mjUW_ok (env := []) (fun e he => (by cases he)) (pr := []) (cuts := []) (n := 9) (by decide +kernel)
def mjSm_damm_4 : MjSm := ([(3, 240, 240, 0, 0)], [], [((0, 3, 3, 0, 0), [], [])], [], 1)
set_option maxRecDepth 100000 in
theorem mjC_damm_4 : mjCtr (mjSW 240 290 mjWd_damm) 222 mjSm_damm_4 := aiOk_ctr mjUW_ok (env := []) (fun e he => (by cases he)) (pr := []) (cuts := []) (n := 9) (by decide +kernel)
def mjSm_damm_5 : MjSm := ([(0, 1, 100, 0, 0), (0, 0, 0, 0, 0), (0, 99, 99, 0, 0)], [], [((0, 99, 99, 0, 0), [(0, 100, 100)], []), ((0, 1, 99, 0, 0), [(0, 1, 99)], [])], [], 1)
set_option maxRecDepth 100000 in
theorem mjC_damm_5 : mjCtr (mjSW 240 290 mjWd_damm) 249 mjSm_damm_5 := aiOk_ctr mjUW_ok (env := []) (fun e he => (by cases he)) (pr := [0]) (cuts := []) (n := 12) (by decide +kernel)
def mjSm_damm_6 : MjSm := ([(3, 240, 240, 0, 0), (0, 0, 3, 0, 0), (0, 0, 2, 0, 0)], [], [((0, 0, 99, 0, 0), [], [])], [], 1)
set_option maxRecDepth 100000 in
theorem mjC_damm_6 : mjCtr (mjSW 240 290 mjWd_damm) 223 mjSm_damm_6 := aiOk_ctr mjUW_ok (env := []) (fun e he => (by cases he)) (pr := []) (cuts := []) (n := 14) (by decide +kernel)
def mjSm_damm_7 : MjSm := ([(3, 240, 240, 0, 0), (0, 0, 3, 0, 0), (0, 0, 2, 0, 0), (0, 1, 1, 0, 0)], [], [((7, 0, 0, 0, 0), [], [])], [(275, 255)], 2)
set_option maxRecDepth 100000 in
theorem mjC_damm_7 : mjCtr (mjSW 240 290 mjWd_damm) 248 mjSm_damm_7 := aiOk_ctr mjUW_ok (env := [(223, mjSm_damm_6), (249, mjSm_damm_5)]) (mjEnvC mjC_damm_6 (mjEnvC mjC_damm_5 (fun e he => (by cases he)))) (pr := []) (cuts := []) (n := 23) (by decide +kernel)
def mjSm_damm_8 : MjSm := ([(0, 0, 0, 0, 0), (0, 2, 2, 0, 0)], [], [((0, 0, 0, 0, 0), [], [])], [], 1)
set_option maxRecDepth 100000 in
theorem mjC_damm_8 : mjCtr (mjSW 240 290 mjWd_damm) 191 mjSm_damm_8 := aiOk_ctr mjUW_ok (env := []) (fun e he => (by cases he)) (pr := []) (cuts := []) (n := 12) (by decide +kernel)
def mjSm_damm_9 : MjSm := ([(3, 240, 240, 0, 0), (0, 1, 3, 0, 0), (0, 1, 2, 0, 0)], [], [((0, 0, 99, 0, 0), [], [])], [], 1)
set_option maxRecDepth 100000 in
theorem mjC_damm_9 : mjCtr (mjSW 240 290 mjWd_damm) 223 mjSm_damm_9 := aiOk_ctr mjUW_ok (env := []) (fun e he => (by cases he)) (pr := []) (cuts := []) (n := 14) (by decide +kernel)
def mjSm_damm_10 : MjSm := ([(3, 240, 240, 0, 0), (0, 0, 2, 0, 0), (0, 1, 2, 0, 0)], [], [((0, 0, 99, 0, 0), [], [])], [], 1)
set_option maxRecDepth 100000 in
theorem mjC_damm_10 : mjCtr (mjSW 240 290 mjWd_damm) 223 mjSm_damm_10 := aiOk_ctr mjUW_ok (env := []) (fun e he => (by cases he)) (pr := []) (cuts := []) (n := 14) (by decide +kernel)
def mjSm_damm_11 : MjSm := ([(3, 240, 240, 0, 0), (0, 0, 3, 0, 0), (0, 1, 2, 0, 0)], [], [((0, 0, 2, 0, 0), [], [])], [], 1)
set_option maxRecDepth 100000 in
theorem mjC_damm_11 : mjCtr (mjSW 240 290 mjWd_damm) 224 mjSm_damm_11 := aiOk_ctr mjUW_ok (env := []) (fun e he => (by cases he)) (pr := []) (cuts := []) (n := 14) (by decide +kernel)
def mjSm_damm_12 : MjSm := ([(0, -1, 2, 0, 0), (0, 0, 0, 0, 0), (0, 3, 3, 0, 0)], [], [((0, 1, 1, 0, 0), [(0, 0, 2)], []), ((0, 0, 0, 0, 0), [(0, -1, -1)], [])], [], 1)
set_option maxRecDepth 100000 in
theorem mjC_damm_12 : mjCtr (mjSW 240 290 mjWd_damm) 221 mjSm_damm_12 := aiOk_ctr mjUW_ok (env := []) (fun e he => (by cases he)) (pr := [0]) (cuts := []) (n := 12) (by decide +kernel)
def mjSm_damm_13 : MjSm := ([(3, 240, 240, 0, 0), (0, -1, 2, 0, 0)], [], [((0, 0, 0, 0, 0), [(1, -1, -1)], []), ((0, 1, 1, 0, 0), [(1, 0, 2)], [])], [], 2)
set_option maxRecDepth 100000 in
theorem mjC_damm_13 : mjCtr (mjSW 240 290 mjWd_damm) 219 mjSm_damm_13 := aiOk_ctr mjUW_ok (env := [(220, mjSm_damm_3), (221, mjSm_damm_12)]) (mjEnvC mjC_damm_3 (mjEnvC mjC_damm_12 (fun e he => (by cases he)))) (pr := [1]) (cuts := []) (n := 11) (by decide +kernel)
def mjSm_damm_14 : MjSm := ([(0, 1, 4, 0, 0), (0, 0, 0, 0, 0), (0, 3, 3, 0, 0)], [], [((0, 1, 1, 0, 0), [(0, 1, 3)], []), ((0, 0, 0, 0, 0), [(0, 4, 4)], [])], [], 1)
set_option maxRecDepth 100000 in
theorem mjC_damm_14 : mjCtr (mjSW 240 290 mjWd_damm) 221 mjSm_damm_14 := aiOk_ctr mjUW_ok (env := []) (fun e he => (by cases he)) (pr := [0]) (cuts := []) (n := 12) (by decide +kernel)
def mjSm_damm_15 : MjSm := ([(3, 240, 240, 0, 0), (0, 1, 4, 0, 0)], [], [((0, 0, 0, 0, 0), [(1, 4, 4)], []), ((0, 1, 1, 0, 0), [(1, 1, 3)], [])], [], 2)
set_option maxRecDepth 100000 in
theorem mjC_damm_15 : mjCtr (mjSW 240 290 mjWd_damm) 219 mjSm_damm_15 := aiOk_ctr mjUW_ok (env := [(220, mjSm_damm_3), (221, mjSm_damm_14)]) (mjEnvC mjC_damm_3 (mjEnvC mjC_damm_14 (fun e he => (by cases he)))) (pr := [1]) (cuts := []) (n := 11) (by decide +kernel)
def mjSm_damm_16 : MjSm := ([(0, 0, 3, 0, 0), (0, 0, 0, 0, 0), (0, 3, 3, 0, 0)], [], [((0, 1, 1, 0, 0), [], [])], [], 1)
set_option maxRecDepth 100000 in
theorem mjC_damm_16 : mjCtr (mjSW 240 290 mjWd_damm) 221 mjSm_damm_16 := aiOk_ctr mjUW_ok (env := []) (fun e he => (by cases he)) (pr := []) (cuts := []) (n := 12) (by decide +kernel)
def mjSm_damm_17 : MjSm := ([(3, 240, 240, 0, 0), (0, 0, 3, 0, 0)], [], [((0, 1, 1, 0, 0), [], [])], [], 2)
set_option maxRecDepth 100000 in
theorem mjC_damm_17 : mjCtr (mjSW 240 290 mjWd_damm) 219 mjSm_damm_17 := aiOk_ctr mjUW_ok (env := [(220, mjSm_damm_3), (221, mjSm_damm_16)]) (mjEnvC mjC_damm_3 (mjEnvC mjC_damm_16 (fun e he => (by cases he)))) (pr := []) (cuts := []) (n := 11) (by decide +kernel)
def mjSm_damm_18 : MjSm := ([(3, 240, 240, 0, 0), (0, 0, 3, 0, 0), (0, 1, 2, 0, 0)], [], [((0, 0, 99, 0, 0), [], [])], [], 1)
set_option maxRecDepth 100000 in
theorem mjC_damm_18 : mjCtr (mjSW 240 290 mjWd_damm) 223 mjSm_damm_18 := aiOk_ctr mjUW_ok (env := []) (fun e he => (by cases he)) (pr := []) (cuts := []) (n := 14) (by decide +kernel)
def mjSm_damm_19 : MjSm := ([(3, 240, 240, 0, 0)], [], [((0, 0, 0, 0, 0), [], [])], [], 1)
set_option maxRecDepth 100000 in
theorem mjC_damm_19 : mjCtr (mjSW 240 290 mjWd_damm) 179 mjSm_damm_19 := aiOk_ctr mjUW_ok (env := []) (fun e he => (by cases he)) (pr := []) (cuts := []) (n := 9) (by decide +kernel)
def mjSm_damm_20 : MjSm := ([(3, 240, 240, 0, 0), (0, 0, 3, 0, 0)], [], [((0, 0, 0, 0, 0), [], [])], [], 1)
set_option maxRecDepth 100000 in
theorem mjC_damm_20 : mjCtr (mjSW 240 290 mjWd_damm) 226 mjSm_damm_20 := aiOk_ctr mjUW_ok (env := []) (fun e he => (by cases he)) (pr := []) (cuts := [(4, ([(3, 240, 240, 0, 0), (0, 0, 3, 0, 0), (0, 0, 0, 0, 0), (0, 0, 0, 0, 0)], [], []), [(0, 0, 49996), (1, 3, 2147483647), (0, 0, 60000), (0, 0, 0), (0, 0, 0), (0, 0, 0), (0, 0, 0), (0, 0, 0)])]) (n := 12) (by decide +kernel)
def mjSm_damm_21 : MjSm := ([(3, 240, 240, 0, 0), (0, 0, 3, 0, 0), (0, 0, 2, 0, 0), (0, 0, 0, 0, 0)], [], [((0, 0, 0, 0, 0), [], []), ((0, 1, 1, 0, 0), [], [])], [(241, 49), (241, 50), (241, 51)], 2)
set_option maxRecDepth 100000 in
theorem mjC_damm_21 : mjCtr (mjSW 240 290 mjWd_damm) 225 mjSm_damm_21 := aiOk_ctr mjUW_ok (env := [(191, mjSm_damm_8), (226, mjSm_damm_20), (223, mjSm_damm_6)]) (mjEnvC mjC_damm_8 (mjEnvC mjC_damm_20 (mjEnvC mjC_damm_6 (fun e he => (by cases he))))) (pr := []) (cuts := []) (n := 52) (by decide +kernel)
def mjSm_damm_22 : MjSm := ([(3, 240, 240, 0, 0), (0, 0, 3, 0, 0), (0, 0, 2, 0, 0), (0, 1, 1, 0, 0)], [(240, 57, (0, -1, 3, 0, 0))], [((7, 0, 0, 0, 0), [], [(240, 57, (0, -1, -1, 0, 0))]), ((7, 0, 0, 0, 0), [], [(240, 57, (0, -1, 3, 0, 0))])], [(241, 57), (241, 58), (275, 255)], 3)
set_option maxRecDepth 100000 in
theorem mjC_damm_22 : mjCtr (mjSW 240 290 mjWd_damm) 241 mjSm_damm_22 := aiOk_ctr mjUW_ok (env := [(222, mjSm_damm_4), (219, mjSm_damm_15), (219, mjSm_damm_13), (223, mjSm_damm_10), (223, mjSm_damm_9), (219, mjSm_damm_17), (223, mjSm_damm_18), (224, mjSm_damm_11), (223, mjSm_damm_6)]) (mjEnvC mjC_damm_4 (mjEnvC mjC_damm_15 (mjEnvC mjC_damm_13 (mjEnvC mjC_damm_10 (mjEnvC mjC_damm_9 (mjEnvC mjC_damm_17 (mjEnvC mjC_damm_18 (mjEnvC mjC_damm_11 (mjEnvC mjC_damm_6 (fun e he => (by cases he))))))))))) (pr := []) (cuts := [(37, ([(3, 240, 240, 0, 0), (0, 0, 3, 0, 0), (0, 0, 2, 0, 0), (0, 1, 1, 0, 0), (0, 1, 3, 0, 0), (9, 0, 0, 0, 0)], [], [(240, 57, (0, -1, 3, 0, 0))]), [(0, 0, 49963), (1, 4, 2147483647), (0, 0, 60000), (0, 0, 0), (0, 0, 0), (0, 0, 0), (0, 0, 0), (0, 0, 0)])]) (n := 60) (by decide +kernel)
def mjSm_damm_23 : MjSm := ([(3, 240, 240, 0, 0), (0, 0, 3, 0, 0), (0, 0, 2, 0, 0), (0, 0, 0, 0, 0)], [(240, 57, (0, -1, 3, 0, 0))], [((7, 0, 0, 0, 0), [], [(240, 57, (0, -1, -1, 0, 0))]), ((7, 0, 0, 0, 0), [], [(240, 57, (0, -1, 3, 0, 0))]), ((7, 0, 0, 0, 0), [], [(240, 57, (0, 0, 3, 0, 0))])], [(241, 49), (241, 50), (241, 51), (241, 56), (241, 57), (241, 58), (275, 255), (277, 255)], 4)
set_option maxRecDepth 100000 in
theorem mjC_damm_23 : mjCtr (mjSW 240 290 mjWd_damm) 250 mjSm_damm_23 := aiOk_ctr mjUW_ok (env := [(241, mjSm_damm_22), (179, mjSm_damm_19), (225, mjSm_damm_21)]) (mjEnvC mjC_damm_22 (mjEnvC mjC_damm_19 (mjEnvC mjC_damm_21 (fun e he => (by cases he))))) (pr := []) (cuts := [(55, ([(3, 240, 240, 0, 0), (0, 0, 3, 0, 0), (0, 0, 2, 0, 0), (0, 0, 0, 0, 0), (0, 0, 0, 0, 0)], [], [(240, 57, (0, 0, 3, 0, 0))]), [(0, 0, 49945), (1, 4, 2147483647), (0, 0, 60000), (0, 0, 0), (0, 0, 0), (0, 0, 0), (0, 0, 0), (0, 0, 0)])]) (n := 35) (by decide +kernel)
def mjSm_damm_24 : MjSm := ([(3, 240, 240, 0, 0)], [], [((0, 0, 0, 0, 0), [], [])], [], 2)
set_option maxRecDepth 100000 in
theorem mjC_damm_24 : mjCtr (mjSW 240 290 mjWd_damm) 251 mjSm_damm_24 := aiOk_ctr mjUW_ok (env := [(179, mjSm_damm_19)]) (mjEnvC mjC_damm_19 (fun e he => (by cases he))) (pr := []) (cuts := [(4, ([(3, 240, 240, 0, 0), (0, 0, 0, 0, 0), (0, 0, 0, 0, 0)], [], []), [(0, 0, 49996), (1, 2, 2147483647), (0, 0, 60000), (0, 0, 0), (0, 0, 0), (0, 0, 0), (0, 0, 0), (0, 0, 0)])]) (n := 9) (by decide +kernel)
def mjSm_damm_25 : MjSm := ([(3, 240, 240, 0, 0), (0, 0, 0, 0, 0)], [(240, 57, (0, -1, 3, 0, 0))], [((7, 0, 0, 0, 0), [], [(240, 57, (0, -1, 3, 0, 0))])], [(241, 49), (241, 50), (241, 51), (241, 56), (241, 57), (241, 58), (275, 255), (277, 255)], 5)
set_option maxRecDepth 100000 in
theorem mjC_damm_25 : mjCtr (mjSW 240 290 mjWd_damm) 247 mjSm_damm_25 := aiOk_ctr mjUW_ok (env := [(250, mjSm_damm_23), (220, mjSm_damm_3), (251, mjSm_damm_24), (222, mjSm_damm_4), (248, mjSm_damm_7)]) (mjEnvC mjC_damm_23 (mjEnvC mjC_damm_3 (mjEnvC mjC_damm_24 (mjEnvC mjC_damm_4 (mjEnvC mjC_damm_7 (fun e he => (by cases he))))))) (pr := []) (cuts := [(7, ([(3, 240, 240, 0, 0), (0, 0, 0, 0, 0), (0, 0, 6, 0, 0), (9, 0, 0, 0, 0)], [], [(240, 56, (0, 0, 0, 0, 0)), (240, 57, (0, -1, 3, 0, 0))]), [(0, 0, 49993), (1, 2, 2147483647), (0, 0, 60000), (0, 0, 0), (0, 0, 0), (0, 0, 0), (0, 0, 0), (0, 0, 0)]), (52, ([(3, 240, 240, 0, 0), (0, 0, 0, 0, 0), (0, 1, 1, 0, 0), (0, 0, 12, 0, 0)], [], [(240, 56, (0, 0, 0, 0, 0)), (240, 57, (0, -1, 3, 0, 0))]), [(0, 0, 49948), (1, 3, 2147483647), (0, 0, 60000), (0, 0, 0), (0, 0, 0), (0, 0, 0), (0, 0, 0), (0, 0, 0)]), (159, ([(3, 240, 240, 0, 0), (0, 0, 0, 0, 0), (0, 1, 1, 0, 0), (0, 0, 12, 0, 0)], [], [(240, 57, (0, -1, 3, 0, 0))]), [(0, 0, 49841), (1, 3, 2147483647), (0, 0, 60000), (0, 0, 0), (0, 0, 0), (0, 0, 0), (0, 0, 0), (0, 0, 0)])]) (n := 28) (by decide +kernel)
def mjSm_damm_26 : MjSm := ([(3, 240, 240, 0, 0), (0, 0, 24, 0, 0)], [(240, 57, (0, 0, 0, 0, 0))], [((7, 0, 0, 0, 0), [], [(240, 57, (0, -1, 3, 0, 0))])], [(241, 49), (241, 50), (241, 51), (241, 56), (241, 57), (241, 58), (275, 255), (277, 255)], 6)
set_option maxRecDepth 100000 in
theorem mjC_damm_26 : mjCtr (mjSW 240 290 mjWd_damm) 269 mjSm_damm_26 := aiOk_ctr mjUW_ok (env := [(247, mjSm_damm_25)]) (mjEnvC mjC_damm_25 (fun e he => (by cases he))) (pr := []) (cuts := [(2, ([(3, 240, 240, 0, 0), (0, 0, 24, 0, 0), (0, 0, 24, 0, 0)], [], [(240, 57, (0, -1, 3, 0, 0))]), [(0, 0, 49998), (1, 2, 2147483647), (0, 0, 60000), (0, 0, 0), (0, 0, 0), (0, 0, 0), (0, 0, 0), (0, 0, 0)])]) (n := 11) (by decide +kernel)
def mjSm_damm_27 : MjSm := ([(3, 240, 240, 0, 0), (0, 0, 24, 0, 0)], [(240, 57, (0, 0, 0, 0, 0))], [((0, 0, 0, 0, 0), [], [(240, 57, (0, -1, 3, 0, 0))])], [(241, 49), (241, 50), (241, 51), (241, 56), (241, 57), (241, 58), (275, 255), (277, 255)], 7)
set_option maxRecDepth 100000 in
theorem mjC_damm_27 : mjCtr (mjSW 240 290 mjWd_damm) 272 mjSm_damm_27 := aiOk_ctr mjUW_ok (env := [(269, mjSm_damm_26), (251, mjSm_damm_24)]) (mjEnvC mjC_damm_26 (mjEnvC mjC_damm_24 (fun e he => (by cases he)))) (pr := []) (cuts := []) (n := 9) (by decide +kernel)
def mjSm_damm_28 : MjSm := ([(3, 240, 240, 0, 0)], [], [((7, 0, 0, 0, 0), [], [])], [(275, 255)], 1)
set_option maxRecDepth 100000 in
theorem mjC_damm_28 : mjCtr (mjSW 240 290 mjWd_damm) 267 mjSm_damm_28 := aiOk_ctr mjUW_ok (env := []) (fun e he => (by cases he)) (pr := []) (cuts := []) (n := 919) (by decide +kernel)
def mjSm_damm_29 : MjSm := ([(3, 240, 240, 0, 0), (0, 0, 24, 0, 0)], [(240, 57, (0, 0, 0, 0, 0))], [((0, 0, 0, 0, 0), [], [(240, 57, (0, -1, 3, 0, 0))])], [(241, 49), (241, 50), (241, 51), (241, 56), (241, 57), (241, 58), (275, 255), (276, 255), (277, 255)], 8)
set_option maxRecDepth 100000 in
theorem mjC_damm_29 : mjCtr (mjSW 240 290 mjWd_damm) 271 mjSm_damm_29 := aiOk_ctr mjUW_ok (env := [(272, mjSm_damm_27), (267, mjSm_damm_28), (266, mjSm_damm_2)]) (mjEnvC mjC_damm_27 (mjEnvC mjC_damm_28 (mjEnvC mjC_damm_2 (fun e he => (by cases he))))) (pr := []) (cuts := []) (n := 13) (by decide +kernel)
def mjSm_damm_30 : MjSm := ([(3, 240, 240, 0, 0), (0, 0, 24, 0, 0)], [(240, 57, (0, -1, 3, 0, 0))], [((7, 0, 0, 0, 0), [], [(240, 57, (0, -1, 3, 0, 0))])], [(241, 49), (241, 50), (241, 51), (241, 56), (241, 57), (241, 58), (275, 255), (277, 255)], 6)
set_option maxRecDepth 100000 in
theorem mjC_damm_30 : mjCtr (mjSW 240 290 mjWd_damm) 269 mjSm_damm_30 := aiOk_ctr mjUW_ok (env := [(247, mjSm_damm_25)]) (mjEnvC mjC_damm_25 (fun e he => (by cases he))) (pr := []) (cuts := [(2, ([(3, 240, 240, 0, 0), (0, 0, 24, 0, 0), (0, 0, 24, 0, 0)], [], [(240, 57, (0, -1, 3, 0, 0))]), [(0, 0, 49998), (1, 2, 2147483647), (0, 0, 60000), (0, 0, 0), (0, 0, 0), (0, 0, 0), (0, 0, 0), (0, 0, 0)])]) (n := 11) (by decide +kernel)
def mjSm_damm_31 : MjSm := ([(3, 240, 240, 0, 0), (0, 0, 24, 0, 0)], [(240, 57, (0, -1, 3, 0, 0))], [((0, 0, 0, 0, 0), [], [(240, 57, (0, -1, 3, 0, 0))])], [(241, 49), (241, 50), (241, 51), (241, 56), (241, 57), (241, 58), (275, 255), (277, 255)], 7)
set_option maxRecDepth 100000 in
theorem mjC_damm_31 : mjCtr (mjSW 240 290 mjWd_damm) 272 mjSm_damm_31 := aiOk_ctr mjUW_ok (env := [(269, mjSm_damm_30), (251, mjSm_damm_24)]) (mjEnvC mjC_damm_30 (mjEnvC mjC_damm_24 (fun e he => (by cases he)))) (pr := []) (cuts := []) (n := 9) (by decide +kernel)
def mjSm_damm_32 : MjSm := ([(3, 240, 240, 0, 0), (0, -2147483648, 2147483647, 0, 0), (0, -2147483648, 2147483647, 0, 0)], [(240, 57, (0, 0, 0, 0, 0))], [((0, -1, -1, 0, 0), [(1, -2147483648, -1)], [(240, 57, (0, 0, 0, 0, 0))]), ((0, -1, -1, 0, 0), [(1, 25, 2147483647)], [(240, 57, (0, 0, 0, 0, 0))]), ((0, -1, -1, 0, 0), [(1, 0, 24), (2, -2147483648, -1)], [(240, 57, (0, 0, 0, 0, 0))]), ((0, -1, -1, 0, 0), [(1, 0, 24), (2, 4, 2147483647)], [(240, 57, (0, 0, 0, 0, 0))]), ((0, -1, -1, 0, 0), [(1, 0, 24), (2, 0, 3)], [(240, 57, (0, -1, 3, 0, 0))])], [(241, 49), (241, 50), (241, 51), (241, 56), (241, 57), (241, 58), (275, 255), (276, 255), (277, 255)], 9)
set_option maxRecDepth 100000 in
theorem mjC_damm_32 : mjCtr (mjSW 240 290 mjWd_damm) 290 mjSm_damm_32 := aiOk_ctr mjUW_ok (env := [(271, mjSm_damm_29), (272, mjSm_damm_31), (266, mjSm_damm_2), (222, mjSm_damm_4), (267, mjSm_damm_28), (220, mjSm_damm_3), (221, mjSm_damm_1), (221, mjSm_damm_0)]) (mjEnvC mjC_damm_29 (mjEnvC mjC_damm_31 (mjEnvC mjC_damm_2 (mjEnvC mjC_damm_4 (mjEnvC mjC_damm_28 (mjEnvC mjC_damm_3 (mjEnvC mjC_damm_1 (mjEnvC mjC_damm_0 (fun e he => (by cases he)))))))))) (pr := [1, 2]) (cuts := [(37, ([(3, 240, 240, 0, 0), (0, 0, 24, 0, 0), (0, 0, 3, 0, 0), (0, -1, -1, 0, 0), (0, 0, 0, 0, 0), (0, 0, 24, 0, 0), (9, 0, 0, 0, 0), (9, 0, 0, 0, 0)], [], [(240, 57, (0, -1, 3, 0, 0))]), [(0, 0, 49963), (1, 5, 2147483647), (0, 0, 60000), (0, 0, 0), (0, 0, 0), (0, 0, 0), (0, 0, 0), (0, 0, 0)])]) (n := 58) (by decide +kernel)
set_option maxRecDepth 100000 in
theorem mjPair_dam (sc : List Int32) (s1 s2 : Int32)  : ∃ (v : Int32) (n1 : Nat) (w1 : MjW) (n2 : Nat) (w2 : MjW), mjEx mjTb mjMt sc n1 7 135 0 (mjEntry mjM_135.2.2.1 (.ref 0 :: [.int s1, .int s2])) [] mjW0 = some (some (.int v), w1) ∧ mjEx mjTb mjMt sc n2 9 290 0 (mjEntry mjM_290.2.2.1 (.ref 240 :: [.int s1, .int s2])) [] w1 = some (some (.int v), w2) ∧ mjShp w1 = mjShp mjW0 ∧ mjShp w2 = mjShp mjW0 := mj_pair (smx := mjSm_damx_31) (smm := mjSm_damm_32) mjC_damx_31 mjC_damm_32 mjWd_damx_ok mjWd_damm_ok (by decide +kernel) (by decide +kernel) (by decide +kernel) (by decide +kernel) (by decide +kernel) ⟨⟨0, rfl, rfl⟩, ⟨⟨s1, rfl, mjB.all s1⟩, ⟨⟨s2, rfl, mjB.all s2⟩, trivial⟩⟩⟩ ⟨⟨240, rfl, rfl⟩, ⟨⟨s1, rfl, mjB.all s1⟩, ⟨⟨s2, rfl, mjB.all s2⟩, trivial⟩⟩⟩ rfl rfl
