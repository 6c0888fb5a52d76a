def mjWd_leftx : MjWd := [(209, 7, (0, -2147483648, 2147483647)), (209, 8, (0, 0, 3)), (209, 9, (0, -2147483648, 2147483647)), (210, 6, (0, -2147483648, 2147483647)), (210, 7, (0, 0, 999)), (211, 255, (0, 0, 99)), (214, 255, (0, -2147483648, 2147483647)), (216, 255, (0, -2147483648, 2147483647)), (217, 255, (0, 0, 2147483647))]
theorem mjWd_leftx_ok : mjWdB mjWd_leftx = true := by decide +kernel
def mjSm_leftx_0 : MjSm := ([(3, 18, 18, 0, 0)], [], [((3, 20, 20, 0, 0), [], [])], [], 1)
set_option maxRecDepth 100000 in
theorem mjC_leftx_0 : mjCtr (mjSW 0 240 mjWd_leftx) 70 mjSm_leftx_0 := aiOk_ctr mjUW_ok (env := []) (fun e he => (by cases he)) (pr := []) (cuts := []) (n := 9) (by decide +kernel)
def mjSm_leftx_1 : MjSm := ([(3, 210, 210, 0, 0), (3, 20, 20, 0, 0)], [], [((7, 0, 0, 0, 0), [], [])], [(211, 3), (211, 4), (211, 5), (211, 6), (211, 7), (212, 255), (213, 255), (214, 255)], 1)
set_option maxRecDepth 100000 in
theorem mjC_leftx_1 : mjCtr (mjSW 0 240 mjWd_leftx) 64 mjSm_leftx_1 := aiOk_ctr mjUW_ok (env := []) (fun e he => (by cases he)) (pr := []) (cuts := []) (n := 48) (by decide +kernel)
def mjSm_leftx_2 : MjSm := ([(3, 216, 216, 0, 0), (0, 0, 0, 0, 0)], [], [((7, 0, 0, 0, 0), [], [])], [(217, 255)], 1)
set_option maxRecDepth 100000 in
theorem mjC_leftx_2 : mjCtr (mjSW 0 240 mjWd_leftx) 6 mjSm_leftx_2 := aiOk_ctr mjUW_ok (env := []) (fun e he => (by cases he)) (pr := []) (cuts := [(5, ([(3, 216, 216, 0, 0), (0, 0, 0, 0, 0), (0, 0, 6, 0, 0), (0, 6, 6, 0, 0)], [], []), [(0, 0, 49995), (1, 2, 2147483647), (0, 0, 60000), (0, 0, 0), (0, 0, 0), (0, 0, 0), (0, 0, 0), (0, 0, 0)])]) (n := 12) (by decide +kernel)
def mjSm_leftx_3 : MjSm := ([(3, 217, 217, 0, 0), (0, 0, 0, 0, 0)], [], [((7, 0, 0, 0, 0), [], [])], [(218, 255)], 1)
set_option maxRecDepth 100000 in
theorem mjC_leftx_3 : mjCtr (mjSW 0 240 mjWd_leftx) 6 mjSm_leftx_3 := aiOk_ctr mjUW_ok (env := []) (fun e he => (by cases he)) (pr := []) (cuts := [(5, ([(3, 217, 217, 0, 0), (0, 0, 0, 0, 0), (0, 0, 6, 0, 0), (0, 6, 6, 0, 0)], [], []), [(0, 0, 49995), (1, 2, 2147483647), (0, 0, 60000), (0, 0, 0), (0, 0, 0), (0, 0, 0), (0, 0, 0), (0, 0, 0)])]) (n := 12) (by decide +kernel)
def mjSm_leftx_4 : MjSm := ([(3, 215, 215, 0, 0), (0, 0, 0, 0, 0)], [], [((7, 0, 0, 0, 0), [], [])], [(216, 255)], 1)
set_option maxRecDepth 100000 in
theorem mjC_leftx_4 : mjCtr (mjSW 0 240 mjWd_leftx) 6 mjSm_leftx_4 := aiOk_ctr mjUW_ok (env := []) (fun e he => (by cases he)) (pr := []) (cuts := [(5, ([(3, 215, 215, 0, 0), (0, 0, 0, 0, 0), (0, 0, 6, 0, 0), (0, 6, 6, 0, 0)], [], []), [(0, 0, 49995), (1, 2, 2147483647), (0, 0, 60000), (0, 0, 0), (0, 0, 0), (0, 0, 0), (0, 0, 0), (0, 0, 0)])]) (n := 12) (by decide +kernel)
def mjSm_leftx_5 : MjSm := ([(3, 193, 193, 0, 0), (3, 210, 210, 0, 0), (0, -2147483648, 2147483647, 0, 0)], [], [((0, 0, 0, 0, 0), [], [])], [], 1)
set_option maxRecDepth 100000 in
theorem mjC_leftx_5 : mjCtr (mjSW 0 240 mjWd_leftx) 75 mjSm_leftx_5 := aiOk_ctr mjUW_ok (env := []) (fun e he => (by cases he)) (pr := []) (cuts := [(5, ([(3, 193, 193, 0, 0), (3, 210, 210, 0, 0), (0, -2147483648, 2147483647, 0, 0), (0, 0, 0, 0, 0), (0, 0, 0, 0, 0), (9, 0, 0, 0, 0)], [], []), [(0, 0, 49995), (1, 4, 2147483647), (0, 0, 60000), (0, 0, 0), (0, 0, 0), (0, 0, 0), (0, 0, 0), (0, 0, 0)])]) (n := 9) (by decide +kernel)
def mjSm_leftx_6 : MjSm := ([(3, 209, 209, 0, 0)], [], [((7, 0, 0, 0, 0), [], [])], [(216, 255)], 2)
set_option maxRecDepth 100000 in
theorem mjC_leftx_6 : mjCtr (mjSW 0 240 mjWd_leftx) 74 mjSm_leftx_6 := aiOk_ctr mjUW_ok (env := [(6, mjSm_leftx_4), (75, mjSm_leftx_5)]) (mjEnvC mjC_leftx_4 (mjEnvC mjC_leftx_5 (fun e he => (by cases he)))) (pr := []) (cuts := [(32, ([(3, 209, 209, 0, 0), (0, 0, 0, 0, 0), (0, 0, 0, 0, 0)], [], []), [(0, 0, 49968), (1, 2, 2147483647), (0, 0, 60000), (0, 0, 0), (0, 0, 0), (0, 0, 0), (0, 0, 0), (0, 0, 0)])]) (n := 20) (by decide +kernel)
def mjSm_leftx_7 : MjSm := ([(3, 209, 209, 0, 0), (3, 193, 193, 0, 0), (3, 210, 210, 0, 0)], [], [((7, 0, 0, 0, 0), [], [])], [(210, 2), (210, 3), (210, 7), (216, 255), (217, 255), (218, 255)], 3)
set_option maxRecDepth 100000 in
theorem mjC_leftx_7 : mjCtr (mjSW 0 240 mjWd_leftx) 73 mjSm_leftx_7 := aiOk_ctr mjUW_ok (env := [(6, mjSm_leftx_3), (6, mjSm_leftx_2), (74, mjSm_leftx_6)]) (mjEnvC mjC_leftx_3 (mjEnvC mjC_leftx_2 (mjEnvC mjC_leftx_6 (fun e he => (by cases he))))) (pr := []) (cuts := []) (n := 23) (by decide +kernel)
def mjSm_leftx_8 : MjSm := ([(3, 209, 209, 0, 0), (3, 193, 193, 0, 0), (3, 20, 20, 0, 0)], [], [((7, 0, 0, 0, 0), [], [])], [(210, 2), (210, 3), (210, 7), (211, 3), (211, 4), (211, 5), (211, 6), (211, 7), (212, 255), (213, 255), (214, 255), (216, 255), (217, 255), (218, 255)], 4)
set_option maxRecDepth 100000 in
theorem mjC_leftx_8 : mjCtr (mjSW 0 240 mjWd_leftx) 72 mjSm_leftx_8 := aiOk_ctr mjUW_ok (env := [(73, mjSm_leftx_7), (64, mjSm_leftx_1)]) (mjEnvC mjC_leftx_7 (mjEnvC mjC_leftx_1 (fun e he => (by cases he)))) (pr := []) (cuts := []) (n := 13) (by decide +kernel)
def mjSm_leftx_9 : MjSm := ([(0, 0, 3, 0, 0), (0, 0, 2, 0, 0)], [], [((0, 0, 17, 0, 0), [], [])], [], 1)
set_option maxRecDepth 100000 in
theorem mjC_leftx_9 : mjCtr (mjSW 0 240 mjWd_leftx) 48 mjSm_leftx_9 := aiOk_ctr mjUW_ok (env := []) (fun e he => (by cases he)) (pr := []) (cuts := []) (n := 9) (by decide +kernel)
def mjSm_leftx_10 : MjSm := ([(3, 209, 209, 0, 0), (0, 0, 17, 0, 0), (0, 1, 1, 0, 0)], [], [((7, 0, 0, 0, 0), [], [])], [(212, 255)], 1)
set_option maxRecDepth 100000 in
theorem mjC_leftx_10 : mjCtr (mjSW 0 240 mjWd_leftx) 89 mjSm_leftx_10 := aiOk_ctr mjUW_ok (env := []) (fun e he => (by cases he)) (pr := []) (cuts := []) (n := 18) (by decide +kernel)
def mjSm_leftx_11 : MjSm := ([(3, 201, 201, 0, 0), (3, 214, 214, 0, 0)], [], [((0, -2147483648, 2147483647, 0, 0), [], [])], [], 1)
set_option maxRecDepth 100000 in
theorem mjC_leftx_11 : mjCtr (mjSW 0 240 mjWd_leftx) 77 mjSm_leftx_11 := aiOk_ctr mjUW_ok (env := []) (fun e he => (by cases he)) (pr := []) (cuts := []) (n := 20) (by decide +kernel)
def mjSm_leftx_12 : MjSm := ([(3, 193, 193, 0, 0), (0, 0, 3, 0, 0)], [], [((0, 1, 1, 0, 0), [], [])], [], 1)
set_option maxRecDepth 100000 in
theorem mjC_leftx_12 : mjCtr (mjSW 0 240 mjWd_leftx) 69 mjSm_leftx_12 := aiOk_ctr mjUW_ok (env := []) (fun e he => (by cases he)) (pr := []) (cuts := []) (n := 15) (by decide +kernel)
def mjSm_leftx_13 : MjSm := ([(0, 0, 3, 0, 0), (0, 1, 2, 0, 0)], [], [((0, 1, 17, 0, 0), [], [])], [], 1)
set_option maxRecDepth 100000 in
theorem mjC_leftx_13 : mjCtr (mjSW 0 240 mjWd_leftx) 48 mjSm_leftx_13 := aiOk_ctr mjUW_ok (env := []) (fun e he => (by cases he)) (pr := []) (cuts := []) (n := 9) (by decide +kernel)
def mjSm_leftx_14 : MjSm := ([(3, 209, 209, 0, 0), (0, 1, 17, 0, 0), (0, 1, 1, 0, 0)], [], [((7, 0, 0, 0, 0), [], [])], [(210, 9), (212, 255)], 1)
set_option maxRecDepth 100000 in
theorem mjC_leftx_14 : mjCtr (mjSW 0 240 mjWd_leftx) 92 mjSm_leftx_14 := aiOk_ctr mjUW_ok (env := []) (fun e he => (by cases he)) (pr := []) (cuts := []) (n := 22) (by decide +kernel)
def mjSm_leftx_15 : MjSm := ([(0, 0, 3, 0, 0), (0, 0, 1, 0, 0)], [], [((0, 0, 16, 0, 0), [], [])], [], 1)
set_option maxRecDepth 100000 in
theorem mjC_leftx_15 : mjCtr (mjSW 0 240 mjWd_leftx) 48 mjSm_leftx_15 := aiOk_ctr mjUW_ok (env := []) (fun e he => (by cases he)) (pr := []) (cuts := []) (n := 9) (by decide +kernel)
def mjSm_leftx_16 : MjSm := ([(3, 209, 209, 0, 0), (0, 0, 16, 0, 0), (0, 1, 1, 0, 0)], [], [((7, 0, 0, 0, 0), [], [])], [(210, 9), (212, 255)], 1)
set_option maxRecDepth 100000 in
theorem mjC_leftx_16 : mjCtr (mjSW 0 240 mjWd_leftx) 92 mjSm_leftx_16 := aiOk_ctr mjUW_ok (env := []) (fun e he => (by cases he)) (pr := []) (cuts := []) (n := 22) (by decide +kernel)
def mjSm_leftx_17 : MjSm := ([(3, 209, 209, 0, 0), (0, 0, 3, 0, 0), (0, 0, 1, 0, 0), (0, 1, 1, 0, 0)], [], [((7, 0, 0, 0, 0), [], [])], [(210, 8), (210, 9), (212, 255)], 2)
set_option maxRecDepth 100000 in
theorem mjC_leftx_17 : mjCtr (mjSW 0 240 mjWd_leftx) 91 mjSm_leftx_17 := aiOk_ctr mjUW_ok (env := [(69, mjSm_leftx_12), (48, mjSm_leftx_15), (48, mjSm_leftx_13), (92, mjSm_leftx_16), (92, mjSm_leftx_14)]) (mjEnvC mjC_leftx_12 (mjEnvC mjC_leftx_15 (mjEnvC mjC_leftx_13 (mjEnvC mjC_leftx_16 (mjEnvC mjC_leftx_14 (fun e he => (by cases he))))))) (pr := []) (cuts := [(25, ([(3, 209, 209, 0, 0), (0, 0, 3, 0, 0), (0, 0, 1, 0, 0), (0, 1, 1, 0, 0), (0, 1, 3, 0, 0), (9, 0, 0, 0, 0)], [], []), [(0, 0, 49975), (1, 4, 2147483647), (0, 0, 60000), (0, 0, 0), (0, 0, 0), (0, 0, 0), (0, 0, 0), (0, 0, 0)])]) (n := 43) (by decide +kernel)
def mjSm_leftx_18 : MjSm := ([(3, 209, 209, 0, 0), (0, 0, 3, 0, 0), (0, 0, 1, 0, 0)], [], [((7, 0, 0, 0, 0), [], [])], [(210, 7), (210, 8), (210, 9), (212, 255), (217, 255), (218, 255)], 3)
set_option maxRecDepth 100000 in
theorem mjC_leftx_18 : mjCtr (mjSW 0 240 mjWd_leftx) 90 mjSm_leftx_18 := aiOk_ctr mjUW_ok (env := [(91, mjSm_leftx_17)]) (mjEnvC mjC_leftx_17 (fun e he => (by cases he))) (pr := []) (cuts := [(78, ([(3, 209, 209, 0, 0), (0, 0, 3, 0, 0), (0, 0, 1, 0, 0), (0, 0, 0, 0, 0), (0, 0, 0, 0, 0)], [], []), [(0, 0, 49922), (1, 4, 2147483647), (0, 0, 60000), (0, 0, 0), (0, 0, 0), (0, 0, 0), (0, 0, 0), (0, 0, 0)])]) (n := 47) (by decide +kernel)
def mjSm_leftx_19 : MjSm := ([(3, 209, 209, 0, 0), (0, 0, 3, 0, 0), (0, 0, 2, 0, 0), (0, 0, 0, 0, 0)], [], [((0, 0, 0, 0, 0), [], []), ((0, 1, 1, 0, 0), [(2, 0, 1)], []), ((0, 0, 0, 0, 0), [(2, 0, 1)], []), ((0, 1, 1, 0, 0), [(2, 2, 2)], []), ((0, 0, 0, 0, 0), [(2, 2, 2)], [])], [(215, 255)], 2)
set_option maxRecDepth 100000 in
theorem mjC_leftx_19 : mjCtr (mjSW 0 240 mjWd_leftx) 76 mjSm_leftx_19 := aiOk_ctr mjUW_ok (env := [(77, mjSm_leftx_11), (48, mjSm_leftx_9)]) (mjEnvC mjC_leftx_11 (mjEnvC mjC_leftx_9 (fun e he => (by cases he)))) (pr := [2]) (cuts := []) (n := 80) (by decide +kernel)
def mjSm_leftx_20 : MjSm := ([(0, 0, 3, 0, 0), (0, 2, 2, 0, 0)], [], [((0, 2, 17, 0, 0), [], [])], [], 1)
set_option maxRecDepth 100000 in
theorem mjC_leftx_20 : mjCtr (mjSW 0 240 mjWd_leftx) 48 mjSm_leftx_20 := aiOk_ctr mjUW_ok (env := []) (fun e he => (by cases he)) (pr := []) (cuts := []) (n := 9) (by decide +kernel)
def mjSm_leftx_21 : MjSm := ([(3, 209, 209, 0, 0), (0, 2, 17, 0, 0), (0, 1, 1, 0, 0)], [], [((7, 0, 0, 0, 0), [], [])], [(210, 9), (212, 255)], 1)
set_option maxRecDepth 100000 in
theorem mjC_leftx_21 : mjCtr (mjSW 0 240 mjWd_leftx) 92 mjSm_leftx_21 := aiOk_ctr mjUW_ok (env := []) (fun e he => (by cases he)) (pr := []) (cuts := []) (n := 22) (by decide +kernel)
def mjSm_leftx_22 : MjSm := ([(3, 209, 209, 0, 0), (0, 0, 3, 0, 0), (0, 2, 2, 0, 0), (0, 1, 1, 0, 0)], [], [((7, 0, 0, 0, 0), [], [])], [(210, 8), (210, 9), (212, 255)], 2)
set_option maxRecDepth 100000 in
theorem mjC_leftx_22 : mjCtr (mjSW 0 240 mjWd_leftx) 91 mjSm_leftx_22 := aiOk_ctr mjUW_ok (env := [(48, mjSm_leftx_20), (92, mjSm_leftx_21)]) (mjEnvC mjC_leftx_20 (mjEnvC mjC_leftx_21 (fun e he => (by cases he)))) (pr := []) (cuts := [(25, ([(3, 209, 209, 0, 0), (0, 0, 3, 0, 0), (0, 2, 2, 0, 0), (0, 1, 1, 0, 0), (0, 3, 3, 0, 0), (9, 0, 0, 0, 0)], [], []), [(0, 0, 49975), (1, 4, 2147483647), (0, 0, 60000), (0, 0, 0), (0, 0, 0), (0, 0, 0), (0, 0, 0), (0, 0, 0)])]) (n := 19) (by decide +kernel)
def mjSm_leftx_23 : MjSm := ([(3, 209, 209, 0, 0), (0, 0, 3, 0, 0), (0, 2, 2, 0, 0)], [], [((7, 0, 0, 0, 0), [], [])], [(210, 7), (210, 8), (210, 9), (212, 255), (217, 255), (218, 255)], 3)
set_option maxRecDepth 100000 in
theorem mjC_leftx_23 : mjCtr (mjSW 0 240 mjWd_leftx) 90 mjSm_leftx_23 := aiOk_ctr mjUW_ok (env := [(91, mjSm_leftx_22)]) (mjEnvC mjC_leftx_22 (fun e he => (by cases he))) (pr := []) (cuts := [(78, ([(3, 209, 209, 0, 0), (0, 0, 3, 0, 0), (0, 2, 2, 0, 0), (0, 0, 0, 0, 0), (0, 0, 0, 0, 0)], [], []), [(0, 0, 49922), (1, 4, 2147483647), (0, 0, 60000), (0, 0, 0), (0, 0, 0), (0, 0, 0), (0, 0, 0), (0, 0, 0)])]) (n := 47) (by decide +kernel)
def mjSm_leftx_24 : MjSm := ([(3, 209, 209, 0, 0), (0, -1, -1, 0, 0)], [], [((0, 0, 0, 0, 0), [], [])], [], 1)
set_option maxRecDepth 100000 in
theorem mjC_leftx_24 : mjCtr (mjSW 0 240 mjWd_leftx) 94 mjSm_leftx_24 := aiOk_ctr mjUW_ok (env := []) (fun e he => (by cases he)) (pr := []) (cuts := [(4, ([(3, 209, 209, 0, 0), (0, -1, -1, 0, 0), (0, 0, 0, 0, 0), (0, 0, 0, 0, 0)], [], []), [(0, 0, 49996), (1, 3, 2147483647), (0, 0, 60000), (0, 0, 0), (0, 0, 0), (0, 0, 0), (0, 0, 0), (0, 0, 0)])]) (n := 10) (by decide +kernel)
def mjSm_leftx_25 : MjSm := ([(3, 209, 209, 0, 0)], [], [((0, 0, 0, 0, 0), [], [])], [], 2)
set_option maxRecDepth 100000 in
theorem mjC_leftx_25 : mjCtr (mjSW 0 240 mjWd_leftx) 93 mjSm_leftx_25 := aiOk_ctr mjUW_ok (env := [(94, mjSm_leftx_24)]) (mjEnvC mjC_leftx_24 (fun e he => (by cases he))) (pr := []) (cuts := []) (n := 11) (by decide +kernel)
def mjSm_leftx_26 : MjSm := ([(3, 209, 209, 0, 0), (0, 1, 1, 0, 0), (0, 0, 0, 0, 0)], [], [((7, 0, 0, 0, 0), [], [])], [(210, 7), (210, 8), (210, 9), (211, 5), (211, 6), (211, 7), (212, 255), (215, 255), (216, 255), (217, 255), (218, 255)], 4)
set_option maxRecDepth 100000 in
theorem mjC_leftx_26 : mjCtr (mjSW 0 240 mjWd_leftx) 88 mjSm_leftx_26 := aiOk_ctr mjUW_ok (env := [(74, mjSm_leftx_6), (93, mjSm_leftx_25), (90, mjSm_leftx_23), (90, mjSm_leftx_18), (48, mjSm_leftx_9), (76, mjSm_leftx_19), (89, mjSm_leftx_10)]) (mjEnvC mjC_leftx_6 (mjEnvC mjC_leftx_25 (mjEnvC mjC_leftx_23 (mjEnvC mjC_leftx_18 (mjEnvC mjC_leftx_9 (mjEnvC mjC_leftx_19 (mjEnvC mjC_leftx_10 (fun e he => (by cases he))))))))) (pr := []) (cuts := [(2, ([(3, 209, 209, 0, 0), (0, 1, 1, 0, 0), (0, 0, 0, 0, 0), (0, 0, 4, 0, 0), (9, 0, 0, 0, 0)], [], []), [(0, 0, 49998), (1, 3, 2147483647), (0, 0, 60000), (0, 0, 0), (0, 0, 0), (0, 0, 0), (0, 0, 0), (0, 0, 0)]), (16, ([(3, 209, 209, 0, 0), (0, 1, 1, 0, 0), (0, 0, 0, 0, 0), (0, 0, 3, 0, 0), (0, 0, 3, 0, 0)], [], []), [(0, 0, 49998), (1, 3, 2147483647), (0, 0, 49984), (1, 4, 2147483647), (0, 0, 60000), (0, 0, 0), (0, 0, 0), (0, 0, 0)]), (140, ([(3, 209, 209, 0, 0), (0, 1, 1, 0, 0), (0, 0, 0, 0, 0), (0, 0, 3, 0, 0), (9, 0, 0, 0, 0)], [], []), [(0, 0, 49860), (1, 3, 2147483647), (0, 0, 60000), (0, 0, 0), (0, 0, 0), (0, 0, 0), (0, 0, 0), (0, 0, 0)]), (154, ([(3, 209, 209, 0, 0), (0, 1, 1, 0, 0), (0, 0, 0, 0, 0), (0, 0, 2, 0, 0), (0, 0, 4, 0, 0)], [], []), [(0, 0, 49860), (1, 3, 2147483647), (0, 0, 49846), (1, 4, 2147483647), (0, 0, 60000), (0, 0, 0), (0, 0, 0), (0, 0, 0)])]) (n := 26) (by decide +kernel)
def mjSm_leftx_27 : MjSm := ([(3, 209, 209, 0, 0), (0, 0, 60, 0, 0), (0, 1, 1, 0, 0), (0, 0, 0, 0, 0)], [(209, 8, (0, 0, 0, 0, 0))], [((7, 0, 0, 0, 0), [], [])], [(210, 7), (210, 8), (210, 9), (211, 5), (211, 6), (211, 7), (212, 255), (215, 255), (216, 255), (217, 255), (218, 255)], 5)
set_option maxRecDepth 100000 in
theorem mjC_leftx_27 : mjCtr (mjSW 0 240 mjWd_leftx) 109 mjSm_leftx_27 := aiOk_ctr mjUW_ok (env := [(88, mjSm_leftx_26)]) (mjEnvC mjC_leftx_26 (fun e he => (by cases he))) (pr := []) (cuts := [(3, ([(3, 209, 209, 0, 0), (0, 0, 60, 0, 0), (0, 1, 1, 0, 0), (0, 0, 0, 0, 0), (0, 0, 60, 0, 0)], [], []), [(0, 0, 49997), (1, 4, 2147483647), (0, 0, 60000), (0, 0, 0), (0, 0, 0), (0, 0, 0), (0, 0, 0), (0, 0, 0)])]) (n := 12) (by decide +kernel)
def mjSm_leftx_28 : MjSm := ([(3, 0, 0, 0, 0), (0, -2147483648, 2147483647, 0, 0)], [(209, 8, (0, 0, 0, 0, 0))], [((0, 0, 0, 0, 0), [(1, 61, 2147483647)], [(209, 8, (0, 0, 0, 0, 0))]), ((0, 1, 1, 0, 0), [(1, 0, 60)], []), ((0, 0, 0, 0, 0), [(1, -2147483648, -1)], [(209, 8, (0, 0, 0, 0, 0))])], [(210, 2), (210, 3), (210, 7), (210, 8), (210, 9), (211, 3), (211, 4), (211, 5), (211, 6), (211, 7), (212, 255), (213, 255), (214, 255), (215, 255), (216, 255), (217, 255), (218, 255)], 6)
set_option maxRecDepth 100000 in
theorem mjC_leftx_28 : mjCtr (mjSW 0 240 mjWd_leftx) 111 mjSm_leftx_28 := aiOk_ctr mjUW_ok (env := [(109, mjSm_leftx_27), (72, mjSm_leftx_8), (70, mjSm_leftx_0)]) (mjEnvC mjC_leftx_27 (mjEnvC mjC_leftx_8 (mjEnvC mjC_leftx_0 (fun e he => (by cases he))))) (pr := [1]) (cuts := []) (n := 26) (by decide +kernel)
def mjSm_leftx_29 : MjSm := ([(3, 0, 0, 0, 0), (0, -2147483648, 2147483647, 0, 0)], [(209, 8, (0, 0, 0, 0, 0))], [((0, -1, -1, 0, 0), [(1, -2147483648, -1)], [(209, 8, (0, 0, 0, 0, 0))]), ((0, 0, 0, 0, 0), [(1, 0, 60)], []), ((0, -1, -1, 0, 0), [(1, 61, 2147483647)], [(209, 8, (0, 0, 0, 0, 0))])], [(210, 2), (210, 3), (210, 7), (210, 8), (210, 9), (211, 3), (211, 4), (211, 5), (211, 6), (211, 7), (212, 255), (213, 255), (214, 255), (215, 255), (216, 255), (217, 255), (218, 255)], 7)
set_option maxRecDepth 100000 in
theorem mjC_leftx_29 : mjCtr (mjSW 0 240 mjWd_leftx) 112 mjSm_leftx_29 := aiOk_ctr mjUW_ok (env := [(111, mjSm_leftx_28), (93, mjSm_leftx_25)]) (mjEnvC mjC_leftx_28 (mjEnvC mjC_leftx_25 (fun e he => (by cases he)))) (pr := [1]) (cuts := []) (n := 12) (by decide +kernel)
def mjWd_leftm : MjWd := [(240, 49, (0, 0, 3)), (240, 50, (0, 0, 2)), (240, 56, (0, -2147483648, 2147483647)), (240, 57, (0, 0, 3)), (240, 58, (0, -2147483648, 2147483647)), (274, 0, (0, 0, 99)), (274, 1, (0, 0, 99)), (274, 2, (0, 0, 99)), (274, 3, (0, 0, 99)), (274, 4, (0, 0, 99)), (274, 5, (0, 0, 99)), (274, 6, (0, 0, 99)), (274, 7, (0, 0, 99)), (274, 8, (0, 0, 99)), (274, 9, (0, 0, 99)), (274, 10, (0, 0, 99)), (274, 11, (0, 0, 99)), (274, 12, (0, 0, 99)), (274, 13, (0, 0, 99)), (274, 14, (0, 0, 99)), (274, 15, (0, 0, 99)), (274, 16, (0, 0, 99)), (274, 17, (0, 0, 99)), (274, 68, (0, -2147483648, 2147483647)), (275, 0, (0, 0, 99)), (275, 1, (0, 0, 99)), (275, 2, (0, 0, 99)), (275, 3, (0, 0, 99)), (275, 4, (0, 0, 99)), (275, 5, (0, 0, 99)), (275, 6, (0, 0, 99)), (275, 7, (0, 0, 99)), (275, 8, (0, 0, 99)), (275, 9, (0, 0, 99)), (275, 10, (0, 0, 99)), (275, 11, (0, 0, 99)), (275, 12, (0, 0, 99)), (275, 13, (0, 0, 99)), (275, 14, (0, 0, 99)), (275, 15, (0, 0, 99)), (275, 16, (0, 0, 99)), (275, 17, (0, 0, 99)), (275, 68, (0, -2147483648, 2147483647)), (276, 255, (0, -2147483648, 2147483647))]
theorem mjWd_leftm_ok : mjWdB mjWd_leftm = true := by decide +kernel
def mjSm_leftm_0 : MjSm := ([(0, -2147483648, 2147483647, 0, 0), (0, 0, 0, 0, 0), (0, 60, 60, 0, 0)], [], [((0, 1, 1, 0, 0), [(0, 0, 60)], []), ((0, 0, 0, 0, 0), [(0, 61, 2147483647)], []), ((0, 0, 0, 0, 0), [(0, -2147483648, -1)], [])], [], 1)
set_option maxRecDepth 100000 in
theorem mjC_leftm_0 : mjCtr (mjSW 240 290 mjWd_leftm) 221 mjSm_leftm_0 := aiOk_ctr mjUW_ok (env := []) (fun e he => (by cases he)) (pr := [0]) (cuts := []) (n := 12) (by decide +kernel)
def mjSm_leftm_1 : MjSm := ([(3, 240, 240, 0, 0)], [], [((7, 0, 0, 0, 0), [], [])], [(276, 255)], 1)
set_option maxRecDepth 100000 in
theorem mjC_leftm_1 : mjCtr (mjSW 240 290 mjWd_leftm) 266 mjSm_leftm_1 := aiOk_ctr mjUW_ok (env := []) (fun e he => (by cases he)) (pr := []) (cuts := []) (n := 919) (by decide +kernel)
def mjSm_leftm_2 : MjSm := ([(3, 240, 240, 0, 0)], [], [((0, 4, 4, 0, 0), [], [])], [], 1)
set_option maxRecDepth 100000 in
theorem mjC_leftm_2 : mjCtr (mjSW 240 290 mjWd_leftm) 220 mjSm_leftm_2 := aiOk_ctr mjUW_ok (env := []) (fun e he => (by cases he)) (pr := []) (cuts := []) (n := 9) (by decide +kernel)
def mjSm_leftm_3 : MjSm := ([(3, 240, 240, 0, 0)], [], [((0, 3, 3, 0, 0), [], [])], [], 1)
set_option maxRecDepth 100000 in
theorem mjC_leftm_3 : mjCtr (mjSW 240 290 mjWd_leftm) 222 mjSm_leftm_3 := aiOk_ctr mjUW_ok (env := []) (fun e he => (by cases he)) (pr := []) (cuts := []) (n := 9) (by decide +kernel)
def mjSm_leftm_4 : MjSm := ([(0, 1, 100, 0, 0), (0, 0, 0, 0, 0), (0, 99, 99, 0, 0)], [], [((0, 99, 99, 0, 0), [(0, 100, 100)], []), ((0, 1, 99, 0, 0), [(0, 1, 99)], [])], [], 1)
set_option maxRecDepth 100000 in
theorem mjC_leftm_4 : mjCtr (mjSW 240 290 mjWd_leftm) 249 mjSm_leftm_4 := aiOk_ctr mjUW_ok (env := []) (fun e he => (by cases he)) (pr := [0]) (cuts := []) (n := 12) (by decide +kernel)
def mjSm_leftm_5 : MjSm := ([(3, 240, 240, 0, 0), (0, 0, 3, 0, 0), (0, 0, 2, 0, 0)], [], [((0, 0, 99, 0, 0), [], [])], [], 1)
set_option maxRecDepth 100000 in
theorem mjC_leftm_5 : mjCtr (mjSW 240 290 mjWd_leftm) 223 mjSm_leftm_5 := aiOk_ctr mjUW_ok (env := []) (fun e he => (by cases he)) (pr := []) (cuts := []) (n := 14) (by decide +kernel)
def mjSm_leftm_6 : MjSm := ([(3, 240, 240, 0, 0), (0, 0, 3, 0, 0), (0, 0, 2, 0, 0), (0, 1, 1, 0, 0)], [], [((7, 0, 0, 0, 0), [], [])], [(275, 255)], 2)
set_option maxRecDepth 100000 in
theorem mjC_leftm_6 : mjCtr (mjSW 240 290 mjWd_leftm) 248 mjSm_leftm_6 := aiOk_ctr mjUW_ok (env := [(223, mjSm_leftm_5), (249, mjSm_leftm_4)]) (mjEnvC mjC_leftm_5 (mjEnvC mjC_leftm_4 (fun e he => (by cases he)))) (pr := []) (cuts := []) (n := 23) (by decide +kernel)
def mjSm_leftm_7 : MjSm := ([(0, 0, 0, 0, 0), (0, 2, 2, 0, 0)], [], [((0, 0, 0, 0, 0), [], [])], [], 1)
set_option maxRecDepth 100000 in
theorem mjC_leftm_7 : mjCtr (mjSW 240 290 mjWd_leftm) 191 mjSm_leftm_7 := aiOk_ctr mjUW_ok (env := []) (fun e he => (by cases he)) (pr := []) (cuts := []) (n := 12) (by decide +kernel)
def mjSm_leftm_8 : MjSm := ([(3, 240, 240, 0, 0)], [], [((0, 0, 0, 0, 0), [], [])], [], 1)
set_option maxRecDepth 100000 in
theorem mjC_leftm_8 : mjCtr (mjSW 240 290 mjWd_leftm) 179 mjSm_leftm_8 := aiOk_ctr mjUW_ok (env := []) (fun e he => (by cases he)) (pr := []) (cuts := []) (n := 9) (by decide +kernel)
def mjSm_leftm_9 : MjSm := ([(3, 240, 240, 0, 0), (0, 0, 3, 0, 0)], [], [((0, 0, 0, 0, 0), [], [])], [], 1)
set_option maxRecDepth 100000 in
theorem mjC_leftm_9 : mjCtr (mjSW 240 290 mjWd_leftm) 226 mjSm_leftm_9 := aiOk_ctr mjUW_ok (env := []) (fun e he => (by cases he)) (pr := []) (cuts := [(4, ([(3, 240, 240, 0, 0), (0, 0, 3, 0, 0), (0, 0, 0, 0, 0), (0, 0, 0, 0, 0)], [], []), [(0, 0, 49996), (1, 3, 2147483647), (0, 0, 60000), (0, 0, 0), (0, 0, 0), (0, 0, 0), (0, 0, 0), (0, 0, 0)])]) (n := 12) (by decide +kernel)
def mjSm_leftm_10 : MjSm := ([(0, 0, 3, 0, 0), (0, 0, 0, 0, 0), (0, 3, 3, 0, 0)], [], [((0, 1, 1, 0, 0), [], [])], [], 1)
set_option maxRecDepth 100000 in
theorem mjC_leftm_10 : mjCtr (mjSW 240 290 mjWd_leftm) 221 mjSm_leftm_10 := aiOk_ctr mjUW_ok (env := []) (fun e he => (by cases he)) (pr := []) (cuts := []) (n := 12) (by decide +kernel)
def mjSm_leftm_11 : MjSm := ([(3, 240, 240, 0, 0), (0, 0, 3, 0, 0)], [], [((0, 1, 1, 0, 0), [], [])], [], 2)
set_option maxRecDepth 100000 in
theorem mjC_leftm_11 : mjCtr (mjSW 240 290 mjWd_leftm) 219 mjSm_leftm_11 := aiOk_ctr mjUW_ok (env := [(220, mjSm_leftm_2), (221, mjSm_leftm_10)]) (mjEnvC mjC_leftm_2 (mjEnvC mjC_leftm_10 (fun e he => (by cases he)))) (pr := []) (cuts := []) (n := 11) (by decide +kernel)
def mjSm_leftm_12 : MjSm := ([(3, 240, 240, 0, 0), (0, 0, 3, 0, 0), (0, 1, 2, 0, 0)], [], [((0, 0, 0, 0, 0), [], [])], [], 1)
set_option maxRecDepth 100000 in
theorem mjC_leftm_12 : mjCtr (mjSW 240 290 mjWd_leftm) 224 mjSm_leftm_12 := aiOk_ctr mjUW_ok (env := []) (fun e he => (by cases he)) (pr := []) (cuts := []) (n := 14) (by decide +kernel)
def mjSm_leftm_13 : MjSm := ([(3, 240, 240, 0, 0), (0, 0, 3, 0, 0), (0, 1, 2, 0, 0)], [], [((0, 0, 99, 0, 0), [], [])], [], 1)
set_option maxRecDepth 100000 in
theorem mjC_leftm_13 : mjCtr (mjSW 240 290 mjWd_leftm) 223 mjSm_leftm_13 := aiOk_ctr mjUW_ok (env := []) (fun e he => (by cases he)) (pr := []) (cuts := []) (n := 14) (by decide +kernel)
def mjSm_leftm_14 : MjSm := ([(3, 240, 240, 0, 0), (0, 0, 3, 0, 0), (0, 0, 2, 0, 0), (0, 0, 0, 0, 0)], [], [((0, 0, 0, 0, 0), [], []), ((0, 1, 1, 0, 0), [], [])], [(241, 49), (241, 50), (241, 51)], 2)
set_option maxRecDepth 100000 in
theorem mjC_leftm_14 : mjCtr (mjSW 240 290 mjWd_leftm) 225 mjSm_leftm_14 := aiOk_ctr mjUW_ok (env := [(191, mjSm_leftm_7), (226, mjSm_leftm_9), (223, mjSm_leftm_5)]) (mjEnvC mjC_leftm_7 (mjEnvC mjC_leftm_9 (mjEnvC mjC_leftm_5 (fun e he => (by cases he))))) (pr := []) (cuts := []) (n := 52) (by decide +kernel)
def mjSm_leftm_15 : MjSm := ([(3, 240, 240, 0, 0), (0, 0, 3, 0, 0), (0, 0, 2, 0, 0), (0, 1, 1, 0, 0)], [], [((7, 0, 0, 0, 0), [], [])], [(241, 57), (241, 58), (275, 255)], 3)
set_option maxRecDepth 100000 in
theorem mjC_leftm_15 : mjCtr (mjSW 240 290 mjWd_leftm) 241 mjSm_leftm_15 := aiOk_ctr mjUW_ok (env := [(222, mjSm_leftm_3), (219, mjSm_leftm_11), (223, mjSm_leftm_13), (224, mjSm_leftm_12), (223, mjSm_leftm_5)]) (mjEnvC mjC_leftm_3 (mjEnvC mjC_leftm_11 (mjEnvC mjC_leftm_13 (mjEnvC mjC_leftm_12 (mjEnvC mjC_leftm_5 (fun e he => (by cases he))))))) (pr := []) (cuts := [(37, ([(3, 240, 240, 0, 0), (0, 0, 3, 0, 0), (0, 0, 2, 0, 0), (0, 1, 1, 0, 0), (0, 1, 3, 0, 0), (9, 0, 0, 0, 0)], [], []), [(0, 0, 49963), (1, 4, 2147483647), (0, 0, 60000), (0, 0, 0), (0, 0, 0), (0, 0, 0), (0, 0, 0), (0, 0, 0)])]) (n := 59) (by decide +kernel)
def mjSm_leftm_16 : MjSm := ([(3, 240, 240, 0, 0), (0, 0, 3, 0, 0), (0, 0, 2, 0, 0), (0, 0, 0, 0, 0)], [], [((7, 0, 0, 0, 0), [], [])], [(241, 49), (241, 50), (241, 51), (241, 56), (241, 57), (241, 58), (275, 255), (277, 255)], 4)
set_option maxRecDepth 100000 in
theorem mjC_leftm_16 : mjCtr (mjSW 240 290 mjWd_leftm) 250 mjSm_leftm_16 := aiOk_ctr mjUW_ok (env := [(179, mjSm_leftm_8), (241, mjSm_leftm_15), (225, mjSm_leftm_14)]) (mjEnvC mjC_leftm_8 (mjEnvC mjC_leftm_15 (mjEnvC mjC_leftm_14 (fun e he => (by cases he))))) (pr := []) (cuts := [(55, ([(3, 240, 240, 0, 0), (0, 0, 3, 0, 0), (0, 0, 2, 0, 0), (0, 0, 0, 0, 0), (0, 0, 0, 0, 0)], [], []), [(0, 0, 49945), (1, 4, 2147483647), (0, 0, 60000), (0, 0, 0), (0, 0, 0), (0, 0, 0), (0, 0, 0), (0, 0, 0)])]) (n := 35) (by decide +kernel)
def mjSm_leftm_17 : MjSm := ([(3, 240, 240, 0, 0)], [], [((0, 0, 0, 0, 0), [], [])], [], 2)
set_option maxRecDepth 100000 in
theorem mjC_leftm_17 : mjCtr (mjSW 240 290 mjWd_leftm) 251 mjSm_leftm_17 := aiOk_ctr mjUW_ok (env := [(179, mjSm_leftm_8)]) (mjEnvC mjC_leftm_8 (fun e he => (by cases he))) (pr := []) (cuts := [(4, ([(3, 240, 240, 0, 0), (0, 0, 0, 0, 0), (0, 0, 0, 0, 0)], [], []), [(0, 0, 49996), (1, 2, 2147483647), (0, 0, 60000), (0, 0, 0), (0, 0, 0), (0, 0, 0), (0, 0, 0), (0, 0, 0)])]) (n := 9) (by decide +kernel)
def mjSm_leftm_18 : MjSm := ([(3, 240, 240, 0, 0), (0, 0, 0, 0, 0)], [], [((7, 0, 0, 0, 0), [], [])], [(241, 49), (241, 50), (241, 51), (241, 56), (241, 57), (241, 58), (275, 255), (277, 255)], 5)
set_option maxRecDepth 100000 in
theorem mjC_leftm_18 : mjCtr (mjSW 240 290 mjWd_leftm) 247 mjSm_leftm_18 := aiOk_ctr mjUW_ok (env := [(220, mjSm_leftm_2), (251, mjSm_leftm_17), (222, mjSm_leftm_3), (250, mjSm_leftm_16), (248, mjSm_leftm_6)]) (mjEnvC mjC_leftm_2 (mjEnvC mjC_leftm_17 (mjEnvC mjC_leftm_3 (mjEnvC mjC_leftm_16 (mjEnvC mjC_leftm_6 (fun e he => (by cases he))))))) (pr := []) (cuts := [(7, ([(3, 240, 240, 0, 0), (0, 0, 0, 0, 0), (0, 0, 6, 0, 0), (9, 0, 0, 0, 0)], [], [(240, 56, (0, 0, 0, 0, 0))]), [(0, 0, 49993), (1, 2, 2147483647), (0, 0, 60000), (0, 0, 0), (0, 0, 0), (0, 0, 0), (0, 0, 0), (0, 0, 0)]), (52, ([(3, 240, 240, 0, 0), (0, 0, 0, 0, 0), (0, 1, 1, 0, 0), (0, 0, 12, 0, 0)], [], [(240, 56, (0, 0, 0, 0, 0))]), [(0, 0, 49948), (1, 3, 2147483647), (0, 0, 60000), (0, 0, 0), (0, 0, 0), (0, 0, 0), (0, 0, 0), (0, 0, 0)]), (159, ([(3, 240, 240, 0, 0), (0, 0, 0, 0, 0), (0, 1, 1, 0, 0), (0, 0, 12, 0, 0)], [], []), [(0, 0, 49841), (1, 3, 2147483647), (0, 0, 60000), (0, 0, 0), (0, 0, 0), (0, 0, 0), (0, 0, 0), (0, 0, 0)])]) (n := 28) (by decide +kernel)
def mjSm_leftm_19 : MjSm := ([(3, 240, 240, 0, 0), (0, 0, 60, 0, 0)], [(240, 57, (0, 0, 0, 0, 0))], [((7, 0, 0, 0, 0), [], [])], [(241, 49), (241, 50), (241, 51), (241, 56), (241, 57), (241, 58), (275, 255), (277, 255)], 6)
set_option maxRecDepth 100000 in
theorem mjC_leftm_19 : mjCtr (mjSW 240 290 mjWd_leftm) 269 mjSm_leftm_19 := aiOk_ctr mjUW_ok (env := [(247, mjSm_leftm_18)]) (mjEnvC mjC_leftm_18 (fun e he => (by cases he))) (pr := []) (cuts := [(2, ([(3, 240, 240, 0, 0), (0, 0, 60, 0, 0), (0, 0, 60, 0, 0)], [], []), [(0, 0, 49998), (1, 2, 2147483647), (0, 0, 60000), (0, 0, 0), (0, 0, 0), (0, 0, 0), (0, 0, 0), (0, 0, 0)])]) (n := 11) (by decide +kernel)
def mjSm_leftm_20 : MjSm := ([(3, 240, 240, 0, 0), (0, 0, 60, 0, 0)], [(240, 57, (0, 0, 0, 0, 0))], [((0, 0, 0, 0, 0), [], [])], [(241, 49), (241, 50), (241, 51), (241, 56), (241, 57), (241, 58), (275, 255), (277, 255)], 7)
set_option maxRecDepth 100000 in
theorem mjC_leftm_20 : mjCtr (mjSW 240 290 mjWd_leftm) 272 mjSm_leftm_20 := aiOk_ctr mjUW_ok (env := [(269, mjSm_leftm_19), (251, mjSm_leftm_17)]) (mjEnvC mjC_leftm_19 (mjEnvC mjC_leftm_17 (fun e he => (by cases he)))) (pr := []) (cuts := []) (n := 9) (by decide +kernel)
def mjSm_leftm_21 : MjSm := ([(3, 240, 240, 0, 0)], [], [((7, 0, 0, 0, 0), [], [])], [(275, 255)], 1)
set_option maxRecDepth 100000 in
theorem mjC_leftm_21 : mjCtr (mjSW 240 290 mjWd_leftm) 267 mjSm_leftm_21 := aiOk_ctr mjUW_ok (env := []) (fun e he => (by cases he)) (pr := []) (cuts := []) (n := 919) (by decide +kernel)
def mjSm_leftm_22 : MjSm := ([(3, 240, 240, 0, 0), (0, 0, 60, 0, 0)], [(240, 57, (0, 0, 0, 0, 0))], [((0, 0, 0, 0, 0), [], [])], [(241, 49), (241, 50), (241, 51), (241, 56), (241, 57), (241, 58), (275, 255), (276, 255), (277, 255)], 8)
set_option maxRecDepth 100000 in
theorem mjC_leftm_22 : mjCtr (mjSW 240 290 mjWd_leftm) 271 mjSm_leftm_22 := aiOk_ctr mjUW_ok (env := [(272, mjSm_leftm_20), (267, mjSm_leftm_21), (266, mjSm_leftm_1)]) (mjEnvC mjC_leftm_20 (mjEnvC mjC_leftm_21 (mjEnvC mjC_leftm_1 (fun e he => (by cases he))))) (pr := []) (cuts := []) (n := 13) (by decide +kernel)
def mjSm_leftm_23 : MjSm := ([(3, 240, 240, 0, 0), (0, -2147483648, 2147483647, 0, 0)], [(240, 57, (0, 0, 0, 0, 0))], [((0, -1, -1, 0, 0), [(1, -2147483648, -1)], [(240, 57, (0, 0, 0, 0, 0))]), ((0, -1, -1, 0, 0), [(1, 61, 2147483647)], [(240, 57, (0, 0, 0, 0, 0))]), ((0, 0, 0, 0, 0), [(1, 0, 60)], [])], [(241, 49), (241, 50), (241, 51), (241, 56), (241, 57), (241, 58), (275, 255), (276, 255), (277, 255)], 9)
set_option maxRecDepth 100000 in
theorem mjC_leftm_23 : mjCtr (mjSW 240 290 mjWd_leftm) 270 mjSm_leftm_23 := aiOk_ctr mjUW_ok (env := [(271, mjSm_leftm_22), (221, mjSm_leftm_0)]) (mjEnvC mjC_leftm_22 (mjEnvC mjC_leftm_0 (fun e he => (by cases he)))) (pr := [1]) (cuts := []) (n := 13) (by decide +kernel)
set_option maxRecDepth 100000 in
theorem mjPair_left (sc : List Int32) (s1 : Int32)  : ∃ (v : Int32) (n1 : Nat) (w1 : MjW) (n2 : Nat) (w2 : MjW), mjEx mjTb mjMt sc n1 7 112 0 (mjEntry mjM_112.2.2.1 (.ref 0 :: [.int s1])) [] mjW0 = some (some (.int v), w1) ∧ mjEx mjTb mjMt sc n2 9 270 0 (mjEntry mjM_270.2.2.1 (.ref 240 :: [.int s1])) [] w1 = some (some (.int v), w2) ∧ mjShp w1 = mjShp mjW0 ∧ mjShp w2 = mjShp mjW0 := mj_pair (smx := mjSm_leftx_29) (smm := mjSm_leftm_23) mjC_leftx_29 mjC_leftm_23 mjWd_leftx_ok mjWd_leftm_ok (by decide +kernel) (by decide +kernel) (by decide +kernel) (by decide +kernel) (by decide +kernel) ⟨⟨0, rfl, rfl⟩, ⟨⟨s1, rfl, mjB.all s1⟩, trivial⟩⟩ ⟨⟨240, rfl, rfl⟩, ⟨⟨s1, rfl, mjB.all s1⟩, trivial⟩⟩ rfl rfl
