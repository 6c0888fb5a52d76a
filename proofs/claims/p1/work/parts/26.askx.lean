def mjWd_askx : MjWd := [(185, 6, (0, 0, 1)), (185, 9, (0, 0, 2147483647)), (185, 11, (0, 0, 32)), (209, 7, (0, -2147483648, 2147483647)), (209, 8, (0, 0, 3)), (209, 9, (0, -2147483648, 2147483647)), (210, 6, (0, -2147483648, 2147483647)), (210, 7, (0, 0, 999)), (211, 255, (0, 0, 99)), (214, 255, (0, -2147483648, 2147483647)), (216, 255, (0, -2147483648, 2147483647)), (217, 255, (0, 0, 2147483647))]
theorem mjWd_askx_ok : mjWdB mjWd_askx = true := by decide +kernel
def mjSm_askx_0 : MjSm := ([(3, 210, 210, 0, 0), (3, 205, 205, 0, 0)], [], [((7, 0, 0, 0, 0), [], [])], [(211, 3), (211, 4), (211, 5), (211, 6), (211, 7), (212, 255), (213, 255), (214, 255)], 1)
set_option maxRecDepth 100000 in
theorem mjC_askx_0 : mjCtr (mjSW 0 240 mjWd_askx) 64 mjSm_askx_0 := aiOk_ctr mjUW_ok (env := []) (fun e he => (by cases he)) (pr := []) (cuts := []) (n := 48) (by decide +kernel)
def mjSm_askx_1 : MjSm := ([(3, 216, 216, 0, 0), (0, 0, 0, 0, 0)], [], [((7, 0, 0, 0, 0), [], [])], [(217, 255)], 1)
set_option maxRecDepth 100000 in
theorem mjC_askx_1 : mjCtr (mjSW 0 240 mjWd_askx) 6 mjSm_askx_1 := aiOk_ctr mjUW_ok (env := []) (fun e he => (by cases he)) (pr := []) (cuts := [(5, ([(3, 216, 216, 0, 0), (0, 0, 0, 0, 0), (0, 0, 6, 0, 0), (0, 6, 6, 0, 0)], [], []), [(0, 0, 49995), (1, 2, 2147483647), (0, 0, 60000), (0, 0, 0), (0, 0, 0), (0, 0, 0), (0, 0, 0), (0, 0, 0)])]) (n := 12) (by decide +kernel)
def mjSm_askx_2 : MjSm := ([(3, 217, 217, 0, 0), (0, 0, 0, 0, 0)], [], [((7, 0, 0, 0, 0), [], [])], [(218, 255)], 1)
set_option maxRecDepth 100000 in
theorem mjC_askx_2 : mjCtr (mjSW 0 240 mjWd_askx) 6 mjSm_askx_2 := aiOk_ctr mjUW_ok (env := []) (fun e he => (by cases he)) (pr := []) (cuts := [(5, ([(3, 217, 217, 0, 0), (0, 0, 0, 0, 0), (0, 0, 6, 0, 0), (0, 6, 6, 0, 0)], [], []), [(0, 0, 49995), (1, 2, 2147483647), (0, 0, 60000), (0, 0, 0), (0, 0, 0), (0, 0, 0), (0, 0, 0), (0, 0, 0)])]) (n := 12) (by decide +kernel)
def mjSm_askx_3 : MjSm := ([(3, 215, 215, 0, 0), (0, 0, 0, 0, 0)], [], [((7, 0, 0, 0, 0), [], [])], [(216, 255)], 1)
set_option maxRecDepth 100000 in
theorem mjC_askx_3 : mjCtr (mjSW 0 240 mjWd_askx) 6 mjSm_askx_3 := aiOk_ctr mjUW_ok (env := []) (fun e he => (by cases he)) (pr := []) (cuts := [(5, ([(3, 215, 215, 0, 0), (0, 0, 0, 0, 0), (0, 0, 6, 0, 0), (0, 6, 6, 0, 0)], [], []), [(0, 0, 49995), (1, 2, 2147483647), (0, 0, 60000), (0, 0, 0), (0, 0, 0), (0, 0, 0), (0, 0, 0), (0, 0, 0)])]) (n := 12) (by decide +kernel)
def mjSm_askx_4 : MjSm := ([(3, 193, 193, 0, 0), (3, 210, 210, 0, 0), (0, -2147483648, 2147483647, 0, 0)], [], [((0, 0, 0, 0, 0), [], [])], [], 1)
set_option maxRecDepth 100000 in
theorem mjC_askx_4 : mjCtr (mjSW 0 240 mjWd_askx) 75 mjSm_askx_4 := aiOk_ctr mjUW_ok (env := []) (fun e he => (by cases he)) (pr := []) (cuts := [(5, ([(3, 193, 193, 0, 0), (3, 210, 210, 0, 0), (0, -2147483648, 2147483647, 0, 0), (0, 0, 0, 0, 0), (0, 0, 0, 0, 0), (9, 0, 0, 0, 0)], [], []), [(0, 0, 49995), (1, 4, 2147483647), (0, 0, 60000), (0, 0, 0), (0, 0, 0), (0, 0, 0), (0, 0, 0), (0, 0, 0)])]) (n := 9) (by decide +kernel)
def mjSm_askx_5 : MjSm := ([(3, 209, 209, 0, 0)], [], [((7, 0, 0, 0, 0), [], [])], [(216, 255)], 2)
set_option maxRecDepth 100000 in
theorem mjC_askx_5 : mjCtr (mjSW 0 240 mjWd_askx) 74 mjSm_askx_5 := aiOk_ctr mjUW_ok (env := [(6, mjSm_askx_3), (75, mjSm_askx_4)]) (mjEnvC mjC_askx_3 (mjEnvC mjC_askx_4 (fun e he => (by cases he)))) (pr := []) (cuts := [(32, ([(3, 209, 209, 0, 0), (0, 0, 0, 0, 0), (0, 0, 0, 0, 0)], [], []), [(0, 0, 49968), (1, 2, 2147483647), (0, 0, 60000), (0, 0, 0), (0, 0, 0), (0, 0, 0), (0, 0, 0), (0, 0, 0)])]) (n := 20) (by decide +kernel)
def mjSm_askx_6 : MjSm := ([(3, 209, 209, 0, 0), (3, 193, 193, 0, 0), (3, 210, 210, 0, 0)], [], [((7, 0, 0, 0, 0), [], [])], [(210, 2), (210, 3), (210, 7), (216, 255), (217, 255), (218, 255)], 3)
set_option maxRecDepth 100000 in
theorem mjC_askx_6 : mjCtr (mjSW 0 240 mjWd_askx) 73 mjSm_askx_6 := aiOk_ctr mjUW_ok (env := [(6, mjSm_askx_2), (6, mjSm_askx_1), (74, mjSm_askx_5)]) (mjEnvC mjC_askx_2 (mjEnvC mjC_askx_1 (mjEnvC mjC_askx_5 (fun e he => (by cases he))))) (pr := []) (cuts := []) (n := 23) (by decide +kernel)
def mjSm_askx_7 : MjSm := ([(3, 209, 209, 0, 0), (3, 193, 193, 0, 0), (3, 205, 205, 0, 0)], [], [((7, 0, 0, 0, 0), [], [])], [(210, 2), (210, 3), (210, 7), (211, 3), (211, 4), (211, 5), (211, 6), (211, 7), (212, 255), (213, 255), (214, 255), (216, 255), (217, 255), (218, 255)], 4)
set_option maxRecDepth 100000 in
theorem mjC_askx_7 : mjCtr (mjSW 0 240 mjWd_askx) 72 mjSm_askx_7 := aiOk_ctr mjUW_ok (env := [(64, mjSm_askx_0), (73, mjSm_askx_6)]) (mjEnvC mjC_askx_0 (mjEnvC mjC_askx_6 (fun e he => (by cases he)))) (pr := []) (cuts := []) (n := 13) (by decide +kernel)
def mjSm_askx_8 : MjSm := ([(0, 3, 3, 0, 0), (0, 0, 0, 0, 0)], [], [((0, 15, 15, 0, 0), [], [])], [], 1)
set_option maxRecDepth 100000 in
theorem mjC_askx_8 : mjCtr (mjSW 0 240 mjWd_askx) 48 mjSm_askx_8 := aiOk_ctr mjUW_ok (env := []) (fun e he => (by cases he)) (pr := []) (cuts := []) (n := 9) (by decide +kernel)
def mjSm_askx_9 : MjSm := ([(0, 0, 3, 0, 0), (0, 0, 2, 0, 0)], [], [((0, 0, 17, 0, 0), [], [])], [], 1)
set_option maxRecDepth 100000 in
theorem mjC_askx_9 : mjCtr (mjSW 0 240 mjWd_askx) 48 mjSm_askx_9 := aiOk_ctr mjUW_ok (env := []) (fun e he => (by cases he)) (pr := []) (cuts := []) (n := 9) (by decide +kernel)
def mjSm_askx_10 : MjSm := ([(3, 209, 209, 0, 0), (0, 0, 17, 0, 0), (0, 1, 1, 0, 0)], [], [((7, 0, 0, 0, 0), [], [])], [(212, 255)], 1)
set_option maxRecDepth 100000 in
theorem mjC_askx_10 : mjCtr (mjSW 0 240 mjWd_askx) 89 mjSm_askx_10 := aiOk_ctr mjUW_ok (env := []) (fun e he => (by cases he)) (pr := []) (cuts := []) (n := 18) (by decide +kernel)
def mjSm_askx_11 : MjSm := ([(3, 201, 201, 0, 0), (3, 214, 214, 0, 0)], [], [((0, -2147483648, 2147483647, 0, 0), [], [])], [], 1)
set_option maxRecDepth 100000 in
theorem mjC_askx_11 : mjCtr (mjSW 0 240 mjWd_askx) 77 mjSm_askx_11 := aiOk_ctr mjUW_ok (env := []) (fun e he => (by cases he)) (pr := []) (cuts := []) (n := 20) (by decide +kernel)
def mjSm_askx_12 : MjSm := ([(3, 193, 193, 0, 0), (0, 0, 3, 0, 0)], [], [((0, 1, 1, 0, 0), [], [])], [], 1)
set_option maxRecDepth 100000 in
theorem mjC_askx_12 : mjCtr (mjSW 0 240 mjWd_askx) 69 mjSm_askx_12 := aiOk_ctr mjUW_ok (env := []) (fun e he => (by cases he)) (pr := []) (cuts := []) (n := 15) (by decide +kernel)
def mjSm_askx_13 : MjSm := ([(0, 0, 3, 0, 0), (0, 1, 2, 0, 0)], [], [((0, 1, 17, 0, 0), [], [])], [], 1)
set_option maxRecDepth 100000 in
theorem mjC_askx_13 : mjCtr (mjSW 0 240 mjWd_askx) 48 mjSm_askx_13 := aiOk_ctr mjUW_ok (env := []) (fun e he => (by cases he)) (pr := []) (cuts := []) (n := 9) (by decide +kernel)
def mjSm_askx_14 : MjSm := ([(3, 209, 209, 0, 0), (0, 1, 17, 0, 0), (0, 1, 1, 0, 0)], [], [((7, 0, 0, 0, 0), [], [])], [(210, 9), (212, 255)], 1)
set_option maxRecDepth 100000 in
theorem mjC_askx_14 : mjCtr (mjSW 0 240 mjWd_askx) 92 mjSm_askx_14 := aiOk_ctr mjUW_ok (env := []) (fun e he => (by cases he)) (pr := []) (cuts := []) (n := 22) (by decide +kernel)
def mjSm_askx_15 : MjSm := ([(0, 0, 3, 0, 0), (0, 0, 1, 0, 0)], [], [((0, 0, 16, 0, 0), [], [])], [], 1)
set_option maxRecDepth 100000 in
theorem mjC_askx_15 : mjCtr (mjSW 0 240 mjWd_askx) 48 mjSm_askx_15 := aiOk_ctr mjUW_ok (env := []) (fun e he => (by cases he)) (pr := []) (cuts := []) (n := 9) (by decide +kernel)
def mjSm_askx_16 : MjSm := ([(3, 209, 209, 0, 0), (0, 0, 16, 0, 0), (0, 1, 1, 0, 0)], [], [((7, 0, 0, 0, 0), [], [])], [(210, 9), (212, 255)], 1)
set_option maxRecDepth 100000 in
theorem mjC_askx_16 : mjCtr (mjSW 0 240 mjWd_askx) 92 mjSm_askx_16 := aiOk_ctr mjUW_ok (env := []) (fun e he => (by cases he)) (pr := []) (cuts := []) (n := 22) (by decide +kernel)
def mjSm_askx_17 : MjSm := ([(3, 209, 209, 0, 0), (0, 0, 3, 0, 0), (0, 0, 1, 0, 0), (0, 1, 1, 0, 0)], [], [((7, 0, 0, 0, 0), [], [])], [(210, 8), (210, 9), (212, 255)], 2)
set_option maxRecDepth 100000 in
theorem mjC_askx_17 : mjCtr (mjSW 0 240 mjWd_askx) 91 mjSm_askx_17 := aiOk_ctr mjUW_ok (env := [(69, mjSm_askx_12), (48, mjSm_askx_15), (48, mjSm_askx_13), (92, mjSm_askx_16), (92, mjSm_askx_14)]) (mjEnvC mjC_askx_12 (mjEnvC mjC_askx_15 (mjEnvC mjC_askx_13 (mjEnvC mjC_askx_16 (mjEnvC mjC_askx_14 (fun e he => (by cases he))))))) (pr := []) (cuts := [(25, ([(3, 209, 209, 0, 0), (0, 0, 3, 0, 0), (0, 0, 1, 0, 0), (0, 1, 1, 0, 0), (0, 1, 3, 0, 0), (9, 0, 0, 0, 0)], [], []), [(0, 0, 49975), (1, 4, 2147483647), (0, 0, 60000), (0, 0, 0), (0, 0, 0), (0, 0, 0), (0, 0, 0), (0, 0, 0)])]) (n := 43) (by decide +kernel)
def mjSm_askx_18 : MjSm := ([(3, 209, 209, 0, 0), (0, 0, 3, 0, 0), (0, 0, 1, 0, 0)], [], [((7, 0, 0, 0, 0), [], [])], [(210, 7), (210, 8), (210, 9), (212, 255), (217, 255), (218, 255)], 3)
set_option maxRecDepth 100000 in
theorem mjC_askx_18 : mjCtr (mjSW 0 240 mjWd_askx) 90 mjSm_askx_18 := aiOk_ctr mjUW_ok (env := [(91, mjSm_askx_17)]) (mjEnvC mjC_askx_17 (fun e he => (by cases he))) (pr := []) (cuts := [(78, ([(3, 209, 209, 0, 0), (0, 0, 3, 0, 0), (0, 0, 1, 0, 0), (0, 0, 0, 0, 0), (0, 0, 0, 0, 0)], [], []), [(0, 0, 49922), (1, 4, 2147483647), (0, 0, 60000), (0, 0, 0), (0, 0, 0), (0, 0, 0), (0, 0, 0), (0, 0, 0)])]) (n := 47) (by decide +kernel)
def mjSm_askx_19 : MjSm := ([(3, 209, 209, 0, 0), (0, 0, 3, 0, 0), (0, 0, 2, 0, 0), (0, 0, 0, 0, 0)], [], [((0, 0, 0, 0, 0), [], []), ((0, 1, 1, 0, 0), [(2, 0, 1)], []), ((0, 0, 0, 0, 0), [(2, 0, 1)], []), ((0, 1, 1, 0, 0), [(2, 2, 2)], []), ((0, 0, 0, 0, 0), [(2, 2, 2)], [])], [(215, 255)], 2)
set_option maxRecDepth 100000 in
theorem mjC_askx_19 : mjCtr (mjSW 0 240 mjWd_askx) 76 mjSm_askx_19 := aiOk_ctr mjUW_ok (env := [(77, mjSm_askx_11), (48, mjSm_askx_9)]) (mjEnvC mjC_askx_11 (mjEnvC mjC_askx_9 (fun e he => (by cases he)))) (pr := [2]) (cuts := []) (n := 80) (by decide +kernel)
def mjSm_askx_20 : MjSm := ([(0, 0, 3, 0, 0), (0, 2, 2, 0, 0)], [], [((0, 2, 17, 0, 0), [], [])], [], 1)
set_option maxRecDepth 100000 in
theorem mjC_askx_20 : mjCtr (mjSW 0 240 mjWd_askx) 48 mjSm_askx_20 := aiOk_ctr mjUW_ok (env := []) (fun e he => (by cases he)) (pr := []) (cuts := []) (n := 9) (by decide +kernel)
def mjSm_askx_21 : MjSm := ([(3, 209, 209, 0, 0), (0, 2, 17, 0, 0), (0, 1, 1, 0, 0)], [], [((7, 0, 0, 0, 0), [], [])], [(210, 9), (212, 255)], 1)
set_option maxRecDepth 100000 in
theorem mjC_askx_21 : mjCtr (mjSW 0 240 mjWd_askx) 92 mjSm_askx_21 := aiOk_ctr mjUW_ok (env := []) (fun e he => (by cases he)) (pr := []) (cuts := []) (n := 22) (by decide +kernel)
def mjSm_askx_22 : MjSm := ([(3, 209, 209, 0, 0), (0, 0, 3, 0, 0), (0, 2, 2, 0, 0), (0, 1, 1, 0, 0)], [], [((7, 0, 0, 0, 0), [], [])], [(210, 8), (210, 9), (212, 255)], 2)
set_option maxRecDepth 100000 in
theorem mjC_askx_22 : mjCtr (mjSW 0 240 mjWd_askx) 91 mjSm_askx_22 := aiOk_ctr mjUW_ok (env := [(48, mjSm_askx_20), (92, mjSm_askx_21)]) (mjEnvC mjC_askx_20 (mjEnvC mjC_askx_21 (fun e he => (by cases he)))) (pr := []) (cuts := [(25, ([(3, 209, 209, 0, 0), (0, 0, 3, 0, 0), (0, 2, 2, 0, 0), (0, 1, 1, 0, 0), (0, 3, 3, 0, 0), (9, 0, 0, 0, 0)], [], []), [(0, 0, 49975), (1, 4, 2147483647), (0, 0, 60000), (0, 0, 0), (0, 0, 0), (0, 0, 0), (0, 0, 0), (0, 0, 0)])]) (n := 19) (by decide +kernel)
def mjSm_askx_23 : MjSm := ([(3, 209, 209, 0, 0), (0, 0, 3, 0, 0), (0, 2, 2, 0, 0)], [], [((7, 0, 0, 0, 0), [], [])], [(210, 7), (210, 8), (210, 9), (212, 255), (217, 255), (218, 255)], 3)
set_option maxRecDepth 100000 in
theorem mjC_askx_23 : mjCtr (mjSW 0 240 mjWd_askx) 90 mjSm_askx_23 := aiOk_ctr mjUW_ok (env := [(91, mjSm_askx_22)]) (mjEnvC mjC_askx_22 (fun e he => (by cases he))) (pr := []) (cuts := [(78, ([(3, 209, 209, 0, 0), (0, 0, 3, 0, 0), (0, 2, 2, 0, 0), (0, 0, 0, 0, 0), (0, 0, 0, 0, 0)], [], []), [(0, 0, 49922), (1, 4, 2147483647), (0, 0, 60000), (0, 0, 0), (0, 0, 0), (0, 0, 0), (0, 0, 0), (0, 0, 0)])]) (n := 47) (by decide +kernel)
def mjSm_askx_24 : MjSm := ([(3, 209, 209, 0, 0), (0, -1, -1, 0, 0)], [], [((0, 0, 0, 0, 0), [], [])], [], 1)
set_option maxRecDepth 100000 in
theorem mjC_askx_24 : mjCtr (mjSW 0 240 mjWd_askx) 94 mjSm_askx_24 := aiOk_ctr mjUW_ok (env := []) (fun e he => (by cases he)) (pr := []) (cuts := [(4, ([(3, 209, 209, 0, 0), (0, -1, -1, 0, 0), (0, 0, 0, 0, 0), (0, 0, 0, 0, 0)], [], []), [(0, 0, 49996), (1, 3, 2147483647), (0, 0, 60000), (0, 0, 0), (0, 0, 0), (0, 0, 0), (0, 0, 0), (0, 0, 0)])]) (n := 10) (by decide +kernel)
def mjSm_askx_25 : MjSm := ([(3, 209, 209, 0, 0)], [], [((0, 0, 0, 0, 0), [], [])], [], 2)
set_option maxRecDepth 100000 in
theorem mjC_askx_25 : mjCtr (mjSW 0 240 mjWd_askx) 93 mjSm_askx_25 := aiOk_ctr mjUW_ok (env := [(94, mjSm_askx_24)]) (mjEnvC mjC_askx_24 (fun e he => (by cases he))) (pr := []) (cuts := []) (n := 11) (by decide +kernel)
def mjSm_askx_26 : MjSm := ([(3, 209, 209, 0, 0), (0, 1, 1, 0, 0), (0, 0, 0, 0, 0)], [], [((7, 0, 0, 0, 0), [], [])], [(210, 7), (210, 8), (210, 9), (211, 5), (211, 6), (211, 7), (212, 255), (215, 255), (216, 255), (217, 255), (218, 255)], 4)
set_option maxRecDepth 100000 in
theorem mjC_askx_26 : mjCtr (mjSW 0 240 mjWd_askx) 88 mjSm_askx_26 := aiOk_ctr mjUW_ok (env := [(74, mjSm_askx_5), (93, mjSm_askx_25), (90, mjSm_askx_23), (90, mjSm_askx_18), (48, mjSm_askx_9), (76, mjSm_askx_19), (89, mjSm_askx_10)]) (mjEnvC mjC_askx_5 (mjEnvC mjC_askx_25 (mjEnvC mjC_askx_23 (mjEnvC mjC_askx_18 (mjEnvC mjC_askx_9 (mjEnvC mjC_askx_19 (mjEnvC mjC_askx_10 (fun e he => (by cases he))))))))) (pr := []) (cuts := [(2, ([(3, 209, 209, 0, 0), (0, 1, 1, 0, 0), (0, 0, 0, 0, 0), (0, 0, 4, 0, 0), (9, 0, 0, 0, 0)], [], []), [(0, 0, 49998), (1, 3, 2147483647), (0, 0, 60000), (0, 0, 0), (0, 0, 0), (0, 0, 0), (0, 0, 0), (0, 0, 0)]), (16, ([(3, 209, 209, 0, 0), (0, 1, 1, 0, 0), (0, 0, 0, 0, 0), (0, 0, 3, 0, 0), (0, 0, 3, 0, 0)], [], []), [(0, 0, 49998), (1, 3, 2147483647), (0, 0, 49984), (1, 4, 2147483647), (0, 0, 60000), (0, 0, 0), (0, 0, 0), (0, 0, 0)]), (140, ([(3, 209, 209, 0, 0), (0, 1, 1, 0, 0), (0, 0, 0, 0, 0), (0, 0, 3, 0, 0), (9, 0, 0, 0, 0)], [], []), [(0, 0, 49860), (1, 3, 2147483647), (0, 0, 60000), (0, 0, 0), (0, 0, 0), (0, 0, 0), (0, 0, 0), (0, 0, 0)]), (154, ([(3, 209, 209, 0, 0), (0, 1, 1, 0, 0), (0, 0, 0, 0, 0), (0, 0, 2, 0, 0), (0, 0, 4, 0, 0)], [], []), [(0, 0, 49860), (1, 3, 2147483647), (0, 0, 49846), (1, 4, 2147483647), (0, 0, 60000), (0, 0, 0), (0, 0, 0), (0, 0, 0)])]) (n := 26) (by decide +kernel)
def mjSm_askx_27 : MjSm := ([(3, 185, 185, 0, 0), (3, 209, 209, 0, 0), (3, 193, 193, 0, 0)], [(209, 8, (0, 0, 0, 0, 0))], [((7, 0, 0, 0, 0), [], [(185, 6, (0, 1, 1, 0, 0))])], [(186, 6), (192, 255), (210, 2), (210, 3), (210, 7), (210, 8), (210, 9), (211, 3), (211, 4), (211, 5), (211, 6), (211, 7), (212, 255), (213, 255), (214, 255), (215, 255), (216, 255), (217, 255), (218, 255)], 5)
set_option maxRecDepth 100000 in
theorem mjC_askx_27 : mjCtr (mjSW 0 240 mjWd_askx) 165 mjSm_askx_27 := aiOk_ctr mjUW_ok (env := [(48, mjSm_askx_8), (72, mjSm_askx_7), (88, mjSm_askx_26)]) (mjEnvC mjC_askx_8 (mjEnvC mjC_askx_7 (mjEnvC mjC_askx_26 (fun e he => (by cases he))))) (pr := []) (cuts := [(2, ([(3, 185, 185, 0, 0), (3, 209, 209, 0, 0), (3, 193, 193, 0, 0), (0, 0, 31, 0, 0), (9, 0, 0, 0, 0)], [], []), [(0, 0, 49998), (1, 3, 2147483647), (0, 0, 60000), (0, 0, 0), (0, 0, 0), (0, 0, 0), (0, 0, 0), (0, 0, 0)]), (62, ([(3, 185, 185, 0, 0), (3, 209, 209, 0, 0), (3, 193, 193, 0, 0), (0, 0, 30, 0, 0), (0, 1, 25, 0, 0)], [], []), [(0, 0, 49998), (1, 3, 2147483647), (0, 0, 49938), (1, 4, 2147483647), (0, 0, 60000), (0, 0, 0), (0, 0, 0), (0, 0, 0)])]) (n := 36) (by decide +kernel)
def mjSm_askx_28 : MjSm := ([(3, 185, 185, 0, 0), (0, 0, 0, 0, 0), (0, -2147483648, 2147483647, 0, 0)], [], [((0, 1, 1, 0, 0), [], [])], [], 1)
set_option maxRecDepth 100000 in
theorem mjC_askx_28 : mjCtr (mjSW 0 240 mjWd_askx) 166 mjSm_askx_28 := aiOk_ctr mjUW_ok (env := []) (fun e he => (by cases he)) (pr := []) (cuts := []) (n := 11) (by decide +kernel)
def mjSm_askx_29 : MjSm := ([(3, 185, 185, 0, 0), (0, 1, 1, 0, 0), (0, -2147483648, 2147483647, 0, 0)], [], [((0, 1, 1, 0, 0), [], [])], [], 1)
set_option maxRecDepth 100000 in
theorem mjC_askx_29 : mjCtr (mjSW 0 240 mjWd_askx) 166 mjSm_askx_29 := aiOk_ctr mjUW_ok (env := []) (fun e he => (by cases he)) (pr := []) (cuts := []) (n := 11) (by decide +kernel)
def mjSm_askx_30 : MjSm := ([(3, 185, 185, 0, 0), (0, 2, 2, 0, 0), (0, -2147483648, 2147483647, 0, 0)], [], [((0, 1, 1, 0, 0), [], [])], [], 1)
set_option maxRecDepth 100000 in
theorem mjC_askx_30 : mjCtr (mjSW 0 240 mjWd_askx) 166 mjSm_askx_30 := aiOk_ctr mjUW_ok (env := []) (fun e he => (by cases he)) (pr := []) (cuts := []) (n := 11) (by decide +kernel)
def mjSm_askx_31 : MjSm := ([(3, 185, 185, 0, 0), (0, 3, 3, 0, 0), (0, -2147483648, 2147483647, 0, 0)], [], [((0, 1, 1, 0, 0), [], [])], [], 1)
set_option maxRecDepth 100000 in
theorem mjC_askx_31 : mjCtr (mjSW 0 240 mjWd_askx) 166 mjSm_askx_31 := aiOk_ctr mjUW_ok (env := []) (fun e he => (by cases he)) (pr := []) (cuts := []) (n := 11) (by decide +kernel)
def mjSm_askx_32 : MjSm := ([(3, 185, 185, 0, 0), (0, 4, 4, 0, 0), (0, -2147483648, 2147483647, 0, 0)], [], [((0, 1, 1, 0, 0), [], [])], [], 1)
set_option maxRecDepth 100000 in
theorem mjC_askx_32 : mjCtr (mjSW 0 240 mjWd_askx) 166 mjSm_askx_32 := aiOk_ctr mjUW_ok (env := []) (fun e he => (by cases he)) (pr := []) (cuts := []) (n := 11) (by decide +kernel)
def mjSm_askx_33 : MjSm := ([(3, 185, 185, 0, 0), (0, 5, 5, 0, 0), (0, -2147483648, 2147483647, 0, 0)], [], [((0, 1, 1, 0, 0), [], [])], [], 1)
set_option maxRecDepth 100000 in
theorem mjC_askx_33 : mjCtr (mjSW 0 240 mjWd_askx) 166 mjSm_askx_33 := aiOk_ctr mjUW_ok (env := []) (fun e he => (by cases he)) (pr := []) (cuts := []) (n := 11) (by decide +kernel)
def mjSm_askx_34 : MjSm := ([(3, 185, 185, 0, 0), (0, 6, 6, 0, 0), (0, -2147483648, 2147483647, 0, 0)], [], [((0, 1, 1, 0, 0), [], [])], [], 1)
set_option maxRecDepth 100000 in
theorem mjC_askx_34 : mjCtr (mjSW 0 240 mjWd_askx) 166 mjSm_askx_34 := aiOk_ctr mjUW_ok (env := []) (fun e he => (by cases he)) (pr := []) (cuts := []) (n := 11) (by decide +kernel)
def mjSm_askx_35 : MjSm := ([(3, 185, 185, 0, 0), (0, 7, 7, 0, 0), (0, -2147483648, 2147483647, 0, 0)], [], [((0, 1, 1, 0, 0), [], [])], [], 1)
set_option maxRecDepth 100000 in
theorem mjC_askx_35 : mjCtr (mjSW 0 240 mjWd_askx) 166 mjSm_askx_35 := aiOk_ctr mjUW_ok (env := []) (fun e he => (by cases he)) (pr := []) (cuts := []) (n := 11) (by decide +kernel)
def mjSm_askx_36 : MjSm := ([(3, 185, 185, 0, 0), (0, 8, 8, 0, 0), (0, -2147483648, 2147483647, 0, 0)], [], [((0, 1, 1, 0, 0), [], [])], [], 1)
set_option maxRecDepth 100000 in
theorem mjC_askx_36 : mjCtr (mjSW 0 240 mjWd_askx) 166 mjSm_askx_36 := aiOk_ctr mjUW_ok (env := []) (fun e he => (by cases he)) (pr := []) (cuts := []) (n := 11) (by decide +kernel)
def mjSm_askx_37 : MjSm := ([(3, 185, 185, 0, 0), (0, 9, 9, 0, 0), (0, -2147483648, 2147483647, 0, 0)], [], [((0, 1, 1, 0, 0), [], [])], [], 1)
set_option maxRecDepth 100000 in
theorem mjC_askx_37 : mjCtr (mjSW 0 240 mjWd_askx) 166 mjSm_askx_37 := aiOk_ctr mjUW_ok (env := []) (fun e he => (by cases he)) (pr := []) (cuts := []) (n := 11) (by decide +kernel)
def mjSm_askx_38 : MjSm := ([(3, 185, 185, 0, 0), (0, 10, 10, 0, 0), (0, -2147483648, 2147483647, 0, 0)], [], [((0, 1, 1, 0, 0), [], [])], [], 1)
set_option maxRecDepth 100000 in
theorem mjC_askx_38 : mjCtr (mjSW 0 240 mjWd_askx) 166 mjSm_askx_38 := aiOk_ctr mjUW_ok (env := []) (fun e he => (by cases he)) (pr := []) (cuts := []) (n := 11) (by decide +kernel)
def mjSm_askx_39 : MjSm := ([(3, 185, 185, 0, 0), (0, 11, 11, 0, 0), (0, -2147483648, 2147483647, 0, 0)], [], [((0, 1, 1, 0, 0), [], [])], [], 1)
set_option maxRecDepth 100000 in
theorem mjC_askx_39 : mjCtr (mjSW 0 240 mjWd_askx) 166 mjSm_askx_39 := aiOk_ctr mjUW_ok (env := []) (fun e he => (by cases he)) (pr := []) (cuts := []) (n := 11) (by decide +kernel)
def mjSm_askx_40 : MjSm := ([(3, 185, 185, 0, 0), (0, 12, 12, 0, 0), (0, -2147483648, 2147483647, 0, 0)], [], [((0, 1, 1, 0, 0), [], [])], [], 1)
set_option maxRecDepth 100000 in
theorem mjC_askx_40 : mjCtr (mjSW 0 240 mjWd_askx) 166 mjSm_askx_40 := aiOk_ctr mjUW_ok (env := []) (fun e he => (by cases he)) (pr := []) (cuts := []) (n := 11) (by decide +kernel)
def mjSm_askx_41 : MjSm := ([(3, 185, 185, 0, 0), (0, 13, 13, 0, 0), (0, -2147483648, 2147483647, 0, 0)], [], [((0, 1, 1, 0, 0), [], [])], [], 1)
set_option maxRecDepth 100000 in
theorem mjC_askx_41 : mjCtr (mjSW 0 240 mjWd_askx) 166 mjSm_askx_41 := aiOk_ctr mjUW_ok (env := []) (fun e he => (by cases he)) (pr := []) (cuts := []) (n := 11) (by decide +kernel)
def mjSm_askx_42 : MjSm := ([(3, 185, 185, 0, 0), (0, 14, 14, 0, 0), (0, -2147483648, 2147483647, 0, 0)], [], [((0, 1, 1, 0, 0), [], [])], [], 1)
set_option maxRecDepth 100000 in
theorem mjC_askx_42 : mjCtr (mjSW 0 240 mjWd_askx) 166 mjSm_askx_42 := aiOk_ctr mjUW_ok (env := []) (fun e he => (by cases he)) (pr := []) (cuts := []) (n := 11) (by decide +kernel)
def mjSm_askx_43 : MjSm := ([(3, 185, 185, 0, 0), (0, 15, 15, 0, 0), (0, -2147483648, 2147483647, 0, 0)], [], [((0, 1, 1, 0, 0), [], [])], [], 1)
set_option maxRecDepth 100000 in
theorem mjC_askx_43 : mjCtr (mjSW 0 240 mjWd_askx) 166 mjSm_askx_43 := aiOk_ctr mjUW_ok (env := []) (fun e he => (by cases he)) (pr := []) (cuts := []) (n := 11) (by decide +kernel)
def mjSm_askx_44 : MjSm := ([(3, 185, 185, 0, 0), (0, 16, 16, 0, 0), (0, -2147483648, 2147483647, 0, 0)], [], [((0, 1, 1, 0, 0), [], [])], [], 1)
set_option maxRecDepth 100000 in
theorem mjC_askx_44 : mjCtr (mjSW 0 240 mjWd_askx) 166 mjSm_askx_44 := aiOk_ctr mjUW_ok (env := []) (fun e he => (by cases he)) (pr := []) (cuts := []) (n := 11) (by decide +kernel)
def mjSm_askx_45 : MjSm := ([(3, 185, 185, 0, 0), (0, 17, 17, 0, 0), (0, -2147483648, 2147483647, 0, 0)], [], [((0, 1, 1, 0, 0), [], [])], [], 1)
set_option maxRecDepth 100000 in
theorem mjC_askx_45 : mjCtr (mjSW 0 240 mjWd_askx) 166 mjSm_askx_45 := aiOk_ctr mjUW_ok (env := []) (fun e he => (by cases he)) (pr := []) (cuts := []) (n := 11) (by decide +kernel)
def mjSm_askx_46 : MjSm := ([(3, 185, 185, 0, 0), (0, 18, 18, 0, 0), (0, -2147483648, 2147483647, 0, 0)], [], [((0, 1, 1, 0, 0), [], [])], [], 1)
set_option maxRecDepth 100000 in
theorem mjC_askx_46 : mjCtr (mjSW 0 240 mjWd_askx) 166 mjSm_askx_46 := aiOk_ctr mjUW_ok (env := []) (fun e he => (by cases he)) (pr := []) (cuts := []) (n := 11) (by decide +kernel)
def mjSm_askx_47 : MjSm := ([(3, 185, 185, 0, 0), (0, 19, 19, 0, 0), (0, -2147483648, 2147483647, 0, 0)], [], [((0, 1, 1, 0, 0), [], [])], [], 1)
set_option maxRecDepth 100000 in
theorem mjC_askx_47 : mjCtr (mjSW 0 240 mjWd_askx) 166 mjSm_askx_47 := aiOk_ctr mjUW_ok (env := []) (fun e he => (by cases he)) (pr := []) (cuts := []) (n := 11) (by decide +kernel)
def mjSm_askx_48 : MjSm := ([(3, 185, 185, 0, 0), (0, 20, 20, 0, 0), (0, -2147483648, 2147483647, 0, 0)], [], [((0, 1, 1, 0, 0), [], [])], [], 1)
set_option maxRecDepth 100000 in
theorem mjC_askx_48 : mjCtr (mjSW 0 240 mjWd_askx) 166 mjSm_askx_48 := aiOk_ctr mjUW_ok (env := []) (fun e he => (by cases he)) (pr := []) (cuts := []) (n := 11) (by decide +kernel)
def mjSm_askx_49 : MjSm := ([(3, 185, 185, 0, 0), (0, 21, 21, 0, 0), (0, -2147483648, 2147483647, 0, 0)], [], [((0, 1, 1, 0, 0), [], [])], [], 1)
set_option maxRecDepth 100000 in
theorem mjC_askx_49 : mjCtr (mjSW 0 240 mjWd_askx) 166 mjSm_askx_49 := aiOk_ctr mjUW_ok (env := []) (fun e he => (by cases he)) (pr := []) (cuts := []) (n := 11) (by decide +kernel)
def mjSm_askx_50 : MjSm := ([(3, 185, 185, 0, 0), (0, 22, 22, 0, 0), (0, -2147483648, 2147483647, 0, 0)], [], [((0, 1, 1, 0, 0), [], [])], [], 1)
set_option maxRecDepth 100000 in
theorem mjC_askx_50 : mjCtr (mjSW 0 240 mjWd_askx) 166 mjSm_askx_50 := aiOk_ctr mjUW_ok (env := []) (fun e he => (by cases he)) (pr := []) (cuts := []) (n := 11) (by decide +kernel)
def mjSm_askx_51 : MjSm := ([(3, 185, 185, 0, 0), (0, 23, 23, 0, 0), (0, -2147483648, 2147483647, 0, 0)], [], [((0, 1, 1, 0, 0), [], [])], [], 1)
set_option maxRecDepth 100000 in
theorem mjC_askx_51 : mjCtr (mjSW 0 240 mjWd_askx) 166 mjSm_askx_51 := aiOk_ctr mjUW_ok (env := []) (fun e he => (by cases he)) (pr := []) (cuts := []) (n := 11) (by decide +kernel)
def mjSm_askx_52 : MjSm := ([(3, 185, 185, 0, 0), (0, 24, 24, 0, 0), (0, -2147483648, 2147483647, 0, 0)], [], [((0, 1, 1, 0, 0), [], [])], [], 1)
set_option maxRecDepth 100000 in
theorem mjC_askx_52 : mjCtr (mjSW 0 240 mjWd_askx) 166 mjSm_askx_52 := aiOk_ctr mjUW_ok (env := []) (fun e he => (by cases he)) (pr := []) (cuts := []) (n := 11) (by decide +kernel)
def mjSm_askx_53 : MjSm := ([(3, 185, 185, 0, 0), (0, 25, 25, 0, 0), (0, -2147483648, 2147483647, 0, 0)], [], [((0, 1, 1, 0, 0), [], [])], [], 1)
set_option maxRecDepth 100000 in
theorem mjC_askx_53 : mjCtr (mjSW 0 240 mjWd_askx) 166 mjSm_askx_53 := aiOk_ctr mjUW_ok (env := []) (fun e he => (by cases he)) (pr := []) (cuts := []) (n := 11) (by decide +kernel)
def mjSm_askx_54 : MjSm := ([(3, 185, 185, 0, 0), (0, 26, 26, 0, 0), (0, -2147483648, 2147483647, 0, 0)], [], [((0, 1, 1, 0, 0), [], [])], [], 1)
set_option maxRecDepth 100000 in
theorem mjC_askx_54 : mjCtr (mjSW 0 240 mjWd_askx) 166 mjSm_askx_54 := aiOk_ctr mjUW_ok (env := []) (fun e he => (by cases he)) (pr := []) (cuts := []) (n := 11) (by decide +kernel)
def mjSm_askx_55 : MjSm := ([(3, 185, 185, 0, 0), (0, 27, 27, 0, 0), (0, -2147483648, 2147483647, 0, 0)], [], [((0, 1, 1, 0, 0), [], [])], [], 1)
set_option maxRecDepth 100000 in
theorem mjC_askx_55 : mjCtr (mjSW 0 240 mjWd_askx) 166 mjSm_askx_55 := aiOk_ctr mjUW_ok (env := []) (fun e he => (by cases he)) (pr := []) (cuts := []) (n := 11) (by decide +kernel)
def mjSm_askx_56 : MjSm := ([(3, 185, 185, 0, 0), (0, 28, 28, 0, 0), (0, -2147483648, 2147483647, 0, 0)], [], [((0, 1, 1, 0, 0), [], [])], [], 1)
set_option maxRecDepth 100000 in
theorem mjC_askx_56 : mjCtr (mjSW 0 240 mjWd_askx) 166 mjSm_askx_56 := aiOk_ctr mjUW_ok (env := []) (fun e he => (by cases he)) (pr := []) (cuts := []) (n := 11) (by decide +kernel)
def mjSm_askx_57 : MjSm := ([(3, 185, 185, 0, 0), (0, 29, 29, 0, 0), (0, -2147483648, 2147483647, 0, 0)], [], [((0, 1, 1, 0, 0), [], [])], [], 1)
set_option maxRecDepth 100000 in
theorem mjC_askx_57 : mjCtr (mjSW 0 240 mjWd_askx) 166 mjSm_askx_57 := aiOk_ctr mjUW_ok (env := []) (fun e he => (by cases he)) (pr := []) (cuts := []) (n := 11) (by decide +kernel)
def mjSm_askx_58 : MjSm := ([(3, 185, 185, 0, 0), (0, 30, 30, 0, 0), (0, -2147483648, 2147483647, 0, 0)], [], [((0, 1, 1, 0, 0), [], [])], [], 1)
set_option maxRecDepth 100000 in
theorem mjC_askx_58 : mjCtr (mjSW 0 240 mjWd_askx) 166 mjSm_askx_58 := aiOk_ctr mjUW_ok (env := []) (fun e he => (by cases he)) (pr := []) (cuts := []) (n := 11) (by decide +kernel)
def mjSm_askx_59 : MjSm := ([(0, 2147483647, 2147483647, 0, 0)], [], [((0, 31, 31, 0, 0), [], [])], [], 1)
set_option maxRecDepth 100000 in
theorem mjC_askx_59 : mjCtr (mjSW 0 240 mjWd_askx) 99 mjSm_askx_59 := aiOk_ctr mjUW_ok (env := []) (fun e he => (by cases he)) (pr := []) (cuts := []) (n := 45) (by decide +kernel)
def mjSm_askx_60 : MjSm := ([(3, 185, 185, 0, 0), (3, 209, 209, 0, 0), (3, 193, 193, 0, 0), (0, -2147483648, 2147483647, 0, 0)], [(185, 6, (0, 0, 0, 0, 0)), (185, 9, (0, 0, 0, 0, 0)), (209, 8, (0, 0, 0, 0, 0))], [((0, 31, 31, 0, 0), [], [(185, 6, (0, 1, 1, 0, 0)), (185, 9, (0, 2147483647, 2147483647, 0, 0))])], [(186, 6), (186, 9), (192, 255), (210, 2), (210, 3), (210, 7), (210, 8), (210, 9), (211, 3), (211, 4), (211, 5), (211, 6), (211, 7), (212, 255), (213, 255), (214, 255), (215, 255), (216, 255), (217, 255), (218, 255)], 6)
set_option maxRecDepth 100000 in
theorem mjC_askx_60 : mjCtr (mjSW 0 240 mjWd_askx) 164 mjSm_askx_60 := aiOk_ctr mjUW_ok (env := [(165, mjSm_askx_27), (99, mjSm_askx_59), (166, mjSm_askx_51), (166, mjSm_askx_35), (166, mjSm_askx_34), (166, mjSm_askx_48), (166, mjSm_askx_28), (166, mjSm_askx_32), (166, mjSm_askx_30), (166, mjSm_askx_44), (166, mjSm_askx_40), (166, mjSm_askx_38), (166, mjSm_askx_43), (166, mjSm_askx_49), (166, mjSm_askx_31), (166, mjSm_askx_52), (166, mjSm_askx_36), (166, mjSm_askx_33), (166, mjSm_askx_46), (166, mjSm_askx_47), (166, mjSm_askx_41), (166, mjSm_askx_57), (166, mjSm_askx_29), (166, mjSm_askx_56), (166, mjSm_askx_55), (166, mjSm_askx_53), (166, mjSm_askx_54), (166, mjSm_askx_50), (166, mjSm_askx_58), (166, mjSm_askx_37), (166, mjSm_askx_39), (166, mjSm_askx_45), (166, mjSm_askx_42)]) (mjEnvC mjC_askx_27 (mjEnvC mjC_askx_59 (mjEnvC mjC_askx_51 (mjEnvC mjC_askx_35 (mjEnvC mjC_askx_34 (mjEnvC mjC_askx_48 (mjEnvC mjC_askx_28 (mjEnvC mjC_askx_32 (mjEnvC mjC_askx_30 (mjEnvC mjC_askx_44 (mjEnvC mjC_askx_40 (mjEnvC mjC_askx_38 (mjEnvC mjC_askx_43 (mjEnvC mjC_askx_49 (mjEnvC mjC_askx_31 (mjEnvC mjC_askx_52 (mjEnvC mjC_askx_36 (mjEnvC mjC_askx_33 (mjEnvC mjC_askx_46 (mjEnvC mjC_askx_47 (mjEnvC mjC_askx_41 (mjEnvC mjC_askx_57 (mjEnvC mjC_askx_29 (mjEnvC mjC_askx_56 (mjEnvC mjC_askx_55 (mjEnvC mjC_askx_53 (mjEnvC mjC_askx_54 (mjEnvC mjC_askx_50 (mjEnvC mjC_askx_58 (mjEnvC mjC_askx_37 (mjEnvC mjC_askx_39 (mjEnvC mjC_askx_45 (mjEnvC mjC_askx_42 (fun e he => (by cases he))))))))))))))))))))))))))))))))))) (pr := []) (cuts := []) (n := 580) (by decide +kernel)
def mjSm_askx_61 : MjSm := ([(3, 185, 185, 0, 0), (0, 0, 24, 0, 0)], [(185, 9, (0, 2147483647, 2147483647, 0, 0))], [((0, 31, 31, 0, 0), [], [])], [], 1)
def mjCu_askx_61_0 : MjCut := (4, ([(3, 185, 185, 0, 0), (0, 0, 24, 0, 0), (0, 0, 0, 0, 0), (0, 0, 0, 0, 0), (9, 0, 0, 0, 0), (9, 0, 0, 0, 0), (9, 0, 0, 0, 0)], [], [(185, 9, (0, 2147483647, 2147483647, 0, 0))]), [(0, 0, 49996), (1, 3, 2147483647), (0, 0, 60000), (0, 0, 0), (0, 0, 0), (0, 0, 0), (0, 0, 0), (0, 0, 0)])
def mjCu_askx_61_1 : MjCut := (4, ([(3, 185, 185, 0, 0), (0, 0, 24, 0, 0), (0, 31, 31, 0, 0), (0, 1, 1, 0, 0), (0, 31, 31, 0, 0), (0, 31, 31, 0, 0), (0, 1, 1, 0, 0)], [], [(185, 9, (0, 2147483647, 2147483647, 0, 0))]), [(0, 0, 49996), (1, 3, 2147483647), (0, 0, 60000), (0, 0, 0), (0, 0, 0), (0, 0, 0), (0, 0, 0), (0, 0, 0)])
def mjCu_askx_61_2 : MjCut := (4, ([(3, 185, 185, 0, 0), (0, 0, 24, 0, 0), (0, 31, 31, 0, 0), (0, 2, 2, 0, 0), (0, 31, 31, 0, 0), (0, 31, 31, 0, 0), (0, 1, 1, 0, 0)], [], [(185, 9, (0, 2147483647, 2147483647, 0, 0))]), [(0, 0, 49996), (1, 3, 2147483647), (0, 0, 60000), (0, 0, 0), (0, 0, 0), (0, 0, 0), (0, 0, 0), (0, 0, 0)])
def mjCu_askx_61_3 : MjCut := (4, ([(3, 185, 185, 0, 0), (0, 0, 24, 0, 0), (0, 31, 31, 0, 0), (0, 3, 3, 0, 0), (0, 31, 31, 0, 0), (0, 31, 31, 0, 0), (0, 1, 1, 0, 0)], [], [(185, 9, (0, 2147483647, 2147483647, 0, 0))]), [(0, 0, 49996), (1, 3, 2147483647), (0, 0, 60000), (0, 0, 0), (0, 0, 0), (0, 0, 0), (0, 0, 0), (0, 0, 0)])
def mjCu_askx_61_4 : MjCut := (4, ([(3, 185, 185, 0, 0), (0, 0, 24, 0, 0), (0, 31, 31, 0, 0), (0, 4, 4, 0, 0), (0, 31, 31, 0, 0), (0, 31, 31, 0, 0), (0, 1, 1, 0, 0)], [], [(185, 9, (0, 2147483647, 2147483647, 0, 0))]), [(0, 0, 49996), (1, 3, 2147483647), (0, 0, 60000), (0, 0, 0), (0, 0, 0), (0, 0, 0), (0, 0, 0), (0, 0, 0)])
def mjCu_askx_61_5 : MjCut := (4, ([(3, 185, 185, 0, 0), (0, 0, 24, 0, 0), (0, 31, 31, 0, 0), (0, 5, 5, 0, 0), (0, 31, 31, 0, 0), (0, 31, 31, 0, 0), (0, 1, 1, 0, 0)], [], [(185, 9, (0, 2147483647, 2147483647, 0, 0))]), [(0, 0, 49996), (1, 3, 2147483647), (0, 0, 60000), (0, 0, 0), (0, 0, 0), (0, 0, 0), (0, 0, 0), (0, 0, 0)])
def mjCu_askx_61_6 : MjCut := (4, ([(3, 185, 185, 0, 0), (0, 0, 24, 0, 0), (0, 31, 31, 0, 0), (0, 6, 6, 0, 0), (0, 31, 31, 0, 0), (0, 31, 31, 0, 0), (0, 1, 1, 0, 0)], [], [(185, 9, (0, 2147483647, 2147483647, 0, 0))]), [(0, 0, 49996), (1, 3, 2147483647), (0, 0, 60000), (0, 0, 0), (0, 0, 0), (0, 0, 0), (0, 0, 0), (0, 0, 0)])
def mjCu_askx_61_7 : MjCut := (4, ([(3, 185, 185, 0, 0), (0, 0, 24, 0, 0), (0, 31, 31, 0, 0), (0, 7, 7, 0, 0), (0, 31, 31, 0, 0), (0, 31, 31, 0, 0), (0, 1, 1, 0, 0)], [], [(185, 9, (0, 2147483647, 2147483647, 0, 0))]), [(0, 0, 49996), (1, 3, 2147483647), (0, 0, 60000), (0, 0, 0), (0, 0, 0), (0, 0, 0), (0, 0, 0), (0, 0, 0)])
def mjCu_askx_61_8 : MjCut := (4, ([(3, 185, 185, 0, 0), (0, 0, 24, 0, 0), (0, 31, 31, 0, 0), (0, 8, 8, 0, 0), (0, 31, 31, 0, 0), (0, 31, 31, 0, 0), (0, 1, 1, 0, 0)], [], [(185, 9, (0, 2147483647, 2147483647, 0, 0))]), [(0, 0, 49996), (1, 3, 2147483647), (0, 0, 60000), (0, 0, 0), (0, 0, 0), (0, 0, 0), (0, 0, 0), (0, 0, 0)])
def mjCu_askx_61_9 : MjCut := (4, ([(3, 185, 185, 0, 0), (0, 0, 24, 0, 0), (0, 31, 31, 0, 0), (0, 9, 9, 0, 0), (0, 31, 31, 0, 0), (0, 31, 31, 0, 0), (0, 1, 1, 0, 0)], [], [(185, 9, (0, 2147483647, 2147483647, 0, 0))]), [(0, 0, 49996), (1, 3, 2147483647), (0, 0, 60000), (0, 0, 0), (0, 0, 0), (0, 0, 0), (0, 0, 0), (0, 0, 0)])
def mjCu_askx_61_10 : MjCut := (4, ([(3, 185, 185, 0, 0), (0, 0, 24, 0, 0), (0, 31, 31, 0, 0), (0, 10, 10, 0, 0), (0, 31, 31, 0, 0), (0, 31, 31, 0, 0), (0, 1, 1, 0, 0)], [], [(185, 9, (0, 2147483647, 2147483647, 0, 0))]), [(0, 0, 49996), (1, 3, 2147483647), (0, 0, 60000), (0, 0, 0), (0, 0, 0), (0, 0, 0), (0, 0, 0), (0, 0, 0)])
def mjCu_askx_61_11 : MjCut := (4, ([(3, 185, 185, 0, 0), (0, 0, 24, 0, 0), (0, 31, 31, 0, 0), (0, 11, 11, 0, 0), (0, 31, 31, 0, 0), (0, 31, 31, 0, 0), (0, 1, 1, 0, 0)], [], [(185, 9, (0, 2147483647, 2147483647, 0, 0))]), [(0, 0, 49996), (1, 3, 2147483647), (0, 0, 60000), (0, 0, 0), (0, 0, 0), (0, 0, 0), (0, 0, 0), (0, 0, 0)])
def mjCu_askx_61_12 : MjCut := (4, ([(3, 185, 185, 0, 0), (0, 0, 24, 0, 0), (0, 31, 31, 0, 0), (0, 12, 12, 0, 0), (0, 31, 31, 0, 0), (0, 31, 31, 0, 0), (0, 1, 1, 0, 0)], [], [(185, 9, (0, 2147483647, 2147483647, 0, 0))]), [(0, 0, 49996), (1, 3, 2147483647), (0, 0, 60000), (0, 0, 0), (0, 0, 0), (0, 0, 0), (0, 0, 0), (0, 0, 0)])
def mjCu_askx_61_13 : MjCut := (4, ([(3, 185, 185, 0, 0), (0, 0, 24, 0, 0), (0, 31, 31, 0, 0), (0, 13, 13, 0, 0), (0, 31, 31, 0, 0), (0, 31, 31, 0, 0), (0, 1, 1, 0, 0)], [], [(185, 9, (0, 2147483647, 2147483647, 0, 0))]), [(0, 0, 49996), (1, 3, 2147483647), (0, 0, 60000), (0, 0, 0), (0, 0, 0), (0, 0, 0), (0, 0, 0), (0, 0, 0)])
def mjCu_askx_61_14 : MjCut := (4, ([(3, 185, 185, 0, 0), (0, 0, 24, 0, 0), (0, 31, 31, 0, 0), (0, 14, 14, 0, 0), (0, 31, 31, 0, 0), (0, 31, 31, 0, 0), (0, 1, 1, 0, 0)], [], [(185, 9, (0, 2147483647, 2147483647, 0, 0))]), [(0, 0, 49996), (1, 3, 2147483647), (0, 0, 60000), (0, 0, 0), (0, 0, 0), (0, 0, 0), (0, 0, 0), (0, 0, 0)])
def mjCu_askx_61_15 : MjCut := (4, ([(3, 185, 185, 0, 0), (0, 0, 24, 0, 0), (0, 31, 31, 0, 0), (0, 15, 15, 0, 0), (0, 31, 31, 0, 0), (0, 31, 31, 0, 0), (0, 1, 1, 0, 0)], [], [(185, 9, (0, 2147483647, 2147483647, 0, 0))]), [(0, 0, 49996), (1, 3, 2147483647), (0, 0, 60000), (0, 0, 0), (0, 0, 0), (0, 0, 0), (0, 0, 0), (0, 0, 0)])
def mjCu_askx_61_16 : MjCut := (4, ([(3, 185, 185, 0, 0), (0, 0, 24, 0, 0), (0, 31, 31, 0, 0), (0, 16, 16, 0, 0), (0, 31, 31, 0, 0), (0, 31, 31, 0, 0), (0, 1, 1, 0, 0)], [], [(185, 9, (0, 2147483647, 2147483647, 0, 0))]), [(0, 0, 49996), (1, 3, 2147483647), (0, 0, 60000), (0, 0, 0), (0, 0, 0), (0, 0, 0), (0, 0, 0), (0, 0, 0)])
def mjCu_askx_61_17 : MjCut := (4, ([(3, 185, 185, 0, 0), (0, 0, 24, 0, 0), (0, 31, 31, 0, 0), (0, 17, 17, 0, 0), (0, 31, 31, 0, 0), (0, 31, 31, 0, 0), (0, 1, 1, 0, 0)], [], [(185, 9, (0, 2147483647, 2147483647, 0, 0))]), [(0, 0, 49996), (1, 3, 2147483647), (0, 0, 60000), (0, 0, 0), (0, 0, 0), (0, 0, 0), (0, 0, 0), (0, 0, 0)])
def mjCu_askx_61_18 : MjCut := (4, ([(3, 185, 185, 0, 0), (0, 0, 24, 0, 0), (0, 31, 31, 0, 0), (0, 18, 18, 0, 0), (0, 31, 31, 0, 0), (0, 31, 31, 0, 0), (0, 1, 1, 0, 0)], [], [(185, 9, (0, 2147483647, 2147483647, 0, 0))]), [(0, 0, 49996), (1, 3, 2147483647), (0, 0, 60000), (0, 0, 0), (0, 0, 0), (0, 0, 0), (0, 0, 0), (0, 0, 0)])
def mjCu_askx_61_19 : MjCut := (4, ([(3, 185, 185, 0, 0), (0, 0, 24, 0, 0), (0, 31, 31, 0, 0), (0, 19, 19, 0, 0), (0, 31, 31, 0, 0), (0, 31, 31, 0, 0), (0, 1, 1, 0, 0)], [], [(185, 9, (0, 2147483647, 2147483647, 0, 0))]), [(0, 0, 49996), (1, 3, 2147483647), (0, 0, 60000), (0, 0, 0), (0, 0, 0), (0, 0, 0), (0, 0, 0), (0, 0, 0)])
def mjCu_askx_61_20 : MjCut := (4, ([(3, 185, 185, 0, 0), (0, 0, 24, 0, 0), (0, 31, 31, 0, 0), (0, 20, 20, 0, 0), (0, 31, 31, 0, 0), (0, 31, 31, 0, 0), (0, 1, 1, 0, 0)], [], [(185, 9, (0, 2147483647, 2147483647, 0, 0))]), [(0, 0, 49996), (1, 3, 2147483647), (0, 0, 60000), (0, 0, 0), (0, 0, 0), (0, 0, 0), (0, 0, 0), (0, 0, 0)])
def mjCu_askx_61_21 : MjCut := (4, ([(3, 185, 185, 0, 0), (0, 0, 24, 0, 0), (0, 31, 31, 0, 0), (0, 21, 21, 0, 0), (0, 31, 31, 0, 0), (0, 31, 31, 0, 0), (0, 1, 1, 0, 0)], [], [(185, 9, (0, 2147483647, 2147483647, 0, 0))]), [(0, 0, 49996), (1, 3, 2147483647), (0, 0, 60000), (0, 0, 0), (0, 0, 0), (0, 0, 0), (0, 0, 0), (0, 0, 0)])
def mjCu_askx_61_22 : MjCut := (4, ([(3, 185, 185, 0, 0), (0, 0, 24, 0, 0), (0, 31, 31, 0, 0), (0, 22, 22, 0, 0), (0, 31, 31, 0, 0), (0, 31, 31, 0, 0), (0, 1, 1, 0, 0)], [], [(185, 9, (0, 2147483647, 2147483647, 0, 0))]), [(0, 0, 49996), (1, 3, 2147483647), (0, 0, 60000), (0, 0, 0), (0, 0, 0), (0, 0, 0), (0, 0, 0), (0, 0, 0)])
def mjCu_askx_61_23 : MjCut := (4, ([(3, 185, 185, 0, 0), (0, 0, 24, 0, 0), (0, 31, 31, 0, 0), (0, 23, 23, 0, 0), (0, 31, 31, 0, 0), (0, 31, 31, 0, 0), (0, 1, 1, 0, 0)], [], [(185, 9, (0, 2147483647, 2147483647, 0, 0))]), [(0, 0, 49996), (1, 3, 2147483647), (0, 0, 60000), (0, 0, 0), (0, 0, 0), (0, 0, 0), (0, 0, 0), (0, 0, 0)])
def mjCu_askx_61_24 : MjCut := (4, ([(3, 185, 185, 0, 0), (0, 0, 24, 0, 0), (0, 31, 31, 0, 0), (0, 24, 24, 0, 0), (0, 31, 31, 0, 0), (0, 31, 31, 0, 0), (0, 1, 1, 0, 0)], [], [(185, 9, (0, 2147483647, 2147483647, 0, 0))]), [(0, 0, 49996), (1, 3, 2147483647), (0, 0, 60000), (0, 0, 0), (0, 0, 0), (0, 0, 0), (0, 0, 0), (0, 0, 0)])
def mjCu_askx_61_25 : MjCut := (4, ([(3, 185, 185, 0, 0), (0, 0, 24, 0, 0), (0, 31, 31, 0, 0), (0, 25, 25, 0, 0), (0, 31, 31, 0, 0), (0, 31, 31, 0, 0), (0, 1, 1, 0, 0)], [], [(185, 9, (0, 2147483647, 2147483647, 0, 0))]), [(0, 0, 49996), (1, 3, 2147483647), (0, 0, 60000), (0, 0, 0), (0, 0, 0), (0, 0, 0), (0, 0, 0), (0, 0, 0)])
def mjCu_askx_61_26 : MjCut := (4, ([(3, 185, 185, 0, 0), (0, 0, 24, 0, 0), (0, 31, 31, 0, 0), (0, 26, 26, 0, 0), (0, 31, 31, 0, 0), (0, 31, 31, 0, 0), (0, 1, 1, 0, 0)], [], [(185, 9, (0, 2147483647, 2147483647, 0, 0))]), [(0, 0, 49996), (1, 3, 2147483647), (0, 0, 60000), (0, 0, 0), (0, 0, 0), (0, 0, 0), (0, 0, 0), (0, 0, 0)])
def mjCu_askx_61_27 : MjCut := (4, ([(3, 185, 185, 0, 0), (0, 0, 24, 0, 0), (0, 31, 31, 0, 0), (0, 27, 27, 0, 0), (0, 31, 31, 0, 0), (0, 31, 31, 0, 0), (0, 1, 1, 0, 0)], [], [(185, 9, (0, 2147483647, 2147483647, 0, 0))]), [(0, 0, 49996), (1, 3, 2147483647), (0, 0, 60000), (0, 0, 0), (0, 0, 0), (0, 0, 0), (0, 0, 0), (0, 0, 0)])
def mjCu_askx_61_28 : MjCut := (4, ([(3, 185, 185, 0, 0), (0, 0, 24, 0, 0), (0, 31, 31, 0, 0), (0, 28, 28, 0, 0), (0, 31, 31, 0, 0), (0, 31, 31, 0, 0), (0, 1, 1, 0, 0)], [], [(185, 9, (0, 2147483647, 2147483647, 0, 0))]), [(0, 0, 49996), (1, 3, 2147483647), (0, 0, 60000), (0, 0, 0), (0, 0, 0), (0, 0, 0), (0, 0, 0), (0, 0, 0)])
def mjCu_askx_61_29 : MjCut := (4, ([(3, 185, 185, 0, 0), (0, 0, 24, 0, 0), (0, 31, 31, 0, 0), (0, 29, 29, 0, 0), (0, 31, 31, 0, 0), (0, 31, 31, 0, 0), (0, 1, 1, 0, 0)], [], [(185, 9, (0, 2147483647, 2147483647, 0, 0))]), [(0, 0, 49996), (1, 3, 2147483647), (0, 0, 60000), (0, 0, 0), (0, 0, 0), (0, 0, 0), (0, 0, 0), (0, 0, 0)])
def mjCu_askx_61_30 : MjCut := (4, ([(3, 185, 185, 0, 0), (0, 0, 24, 0, 0), (0, 31, 31, 0, 0), (0, 30, 30, 0, 0), (0, 31, 31, 0, 0), (0, 31, 31, 0, 0), (0, 1, 1, 0, 0)], [], [(185, 9, (0, 2147483647, 2147483647, 0, 0))]), [(0, 0, 49996), (1, 3, 2147483647), (0, 0, 60000), (0, 0, 0), (0, 0, 0), (0, 0, 0), (0, 0, 0), (0, 0, 0)])
def mjCu_askx_61_31 : MjCut := (4, ([(3, 185, 185, 0, 0), (0, 0, 24, 0, 0), (0, 31, 31, 0, 0), (0, 31, 31, 0, 0), (0, 31, 31, 0, 0), (0, 31, 31, 0, 0), (0, 1, 1, 0, 0)], [], [(185, 9, (0, 2147483647, 2147483647, 0, 0))]), [(0, 0, 49996), (1, 3, 2147483647), (0, 0, 60000), (0, 0, 0), (0, 0, 0), (0, 0, 0), (0, 0, 0), (0, 0, 0)])
def mjCuts_askx_61 : List MjCut := [mjCu_askx_61_0, mjCu_askx_61_1, mjCu_askx_61_2, mjCu_askx_61_3, mjCu_askx_61_4, mjCu_askx_61_5, mjCu_askx_61_6, mjCu_askx_61_7, mjCu_askx_61_8, mjCu_askx_61_9, mjCu_askx_61_10, mjCu_askx_61_11, mjCu_askx_61_12, mjCu_askx_61_13, mjCu_askx_61_14, mjCu_askx_61_15, mjCu_askx_61_16, mjCu_askx_61_17, mjCu_askx_61_18, mjCu_askx_61_19, mjCu_askx_61_20, mjCu_askx_61_21, mjCu_askx_61_22, mjCu_askx_61_23, mjCu_askx_61_24, mjCu_askx_61_25, mjCu_askx_61_26, mjCu_askx_61_27, mjCu_askx_61_28, mjCu_askx_61_29, mjCu_askx_61_30, mjCu_askx_61_31]
set_option maxRecDepth 100000 in
theorem mjCE_askx_61 : aiOkE (mjSW 0 240 mjWd_askx) (mjUW mjWd_askx) [] 171 mjSm_askx_61 [] mjCuts_askx_61 1383 = true := by decide +kernel
set_option maxRecDepth 100000 in
theorem mjCC_askx_61_0 : aiOkC (mjSW 0 240 mjWd_askx) (mjUW mjWd_askx) [] 171 mjSm_askx_61 [] mjCuts_askx_61 1383 mjCu_askx_61_0 = true := by decide +kernel
set_option maxRecDepth 100000 in
theorem mjCC_askx_61_1 : aiOkC (mjSW 0 240 mjWd_askx) (mjUW mjWd_askx) [] 171 mjSm_askx_61 [] mjCuts_askx_61 1383 mjCu_askx_61_1 = true := by decide +kernel
set_option maxRecDepth 100000 in
theorem mjCC_askx_61_2 : aiOkC (mjSW 0 240 mjWd_askx) (mjUW mjWd_askx) [] 171 mjSm_askx_61 [] mjCuts_askx_61 1383 mjCu_askx_61_2 = true := by decide +kernel
set_option maxRecDepth 100000 in
theorem mjCC_askx_61_3 : aiOkC (mjSW 0 240 mjWd_askx) (mjUW mjWd_askx) [] 171 mjSm_askx_61 [] mjCuts_askx_61 1383 mjCu_askx_61_3 = true := by decide +kernel
set_option maxRecDepth 100000 in
theorem mjCC_askx_61_4 : aiOkC (mjSW 0 240 mjWd_askx) (mjUW mjWd_askx) [] 171 mjSm_askx_61 [] mjCuts_askx_61 1383 mjCu_askx_61_4 = true := by decide +kernel
set_option maxRecDepth 100000 in
theorem mjCC_askx_61_5 : aiOkC (mjSW 0 240 mjWd_askx) (mjUW mjWd_askx) [] 171 mjSm_askx_61 [] mjCuts_askx_61 1383 mjCu_askx_61_5 = true := by decide +kernel
set_option maxRecDepth 100000 in
theorem mjCC_askx_61_6 : aiOkC (mjSW 0 240 mjWd_askx) (mjUW mjWd_askx) [] 171 mjSm_askx_61 [] mjCuts_askx_61 1383 mjCu_askx_61_6 = true := by decide +kernel
set_option maxRecDepth 100000 in
theorem mjCC_askx_61_7 : aiOkC (mjSW 0 240 mjWd_askx) (mjUW mjWd_askx) [] 171 mjSm_askx_61 [] mjCuts_askx_61 1383 mjCu_askx_61_7 = true := by decide +kernel
set_option maxRecDepth 100000 in
theorem mjCC_askx_61_8 : aiOkC (mjSW 0 240 mjWd_askx) (mjUW mjWd_askx) [] 171 mjSm_askx_61 [] mjCuts_askx_61 1383 mjCu_askx_61_8 = true := by decide +kernel
set_option maxRecDepth 100000 in
theorem mjCC_askx_61_9 : aiOkC (mjSW 0 240 mjWd_askx) (mjUW mjWd_askx) [] 171 mjSm_askx_61 [] mjCuts_askx_61 1383 mjCu_askx_61_9 = true := by decide +kernel
set_option maxRecDepth 100000 in
theorem mjCC_askx_61_10 : aiOkC (mjSW 0 240 mjWd_askx) (mjUW mjWd_askx) [] 171 mjSm_askx_61 [] mjCuts_askx_61 1383 mjCu_askx_61_10 = true := by decide +kernel
set_option maxRecDepth 100000 in
theorem mjCC_askx_61_11 : aiOkC (mjSW 0 240 mjWd_askx) (mjUW mjWd_askx) [] 171 mjSm_askx_61 [] mjCuts_askx_61 1383 mjCu_askx_61_11 = true := by decide +kernel
set_option maxRecDepth 100000 in
theorem mjCC_askx_61_12 : aiOkC (mjSW 0 240 mjWd_askx) (mjUW mjWd_askx) [] 171 mjSm_askx_61 [] mjCuts_askx_61 1383 mjCu_askx_61_12 = true := by decide +kernel
set_option maxRecDepth 100000 in
theorem mjCC_askx_61_13 : aiOkC (mjSW 0 240 mjWd_askx) (mjUW mjWd_askx) [] 171 mjSm_askx_61 [] mjCuts_askx_61 1383 mjCu_askx_61_13 = true := by decide +kernel
set_option maxRecDepth 100000 in
theorem mjCC_askx_61_14 : aiOkC (mjSW 0 240 mjWd_askx) (mjUW mjWd_askx) [] 171 mjSm_askx_61 [] mjCuts_askx_61 1383 mjCu_askx_61_14 = true := by decide +kernel
set_option maxRecDepth 100000 in
theorem mjCC_askx_61_15 : aiOkC (mjSW 0 240 mjWd_askx) (mjUW mjWd_askx) [] 171 mjSm_askx_61 [] mjCuts_askx_61 1383 mjCu_askx_61_15 = true := by decide +kernel
