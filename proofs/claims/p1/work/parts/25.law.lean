def mjWd_lawx : MjWd := [(209, 7, (0, -2147483648, 2147483647)), (209, 8, (0, 0, 3)), (209, 9, (0, -2147483648, 2147483647)), (210, 6, (0, -2147483648, 2147483647)), (210, 7, (0, 0, 999)), (211, 255, (0, 0, 99)), (214, 255, (0, -2147483648, 2147483647)), (216, 255, (0, -2147483648, 2147483647)), (217, 255, (0, 0, 2147483647))]
theorem mjWd_lawx_ok : mjWdB mjWd_lawx = true := by decide +kernel
def mjSm_lawx_0 : MjSm := ([(3, 18, 18, 0, 0)], [], [((3, 20, 20, 0, 0), [], [])], [], 1)
set_option maxRecDepth 100000 in
theorem mjC_lawx_0 : mjCtr (mjSW 0 240 mjWd_lawx) 70 mjSm_lawx_0 := aiOk_ctr mjUW_ok (env := []) (fun e he => (by cases he)) (pr := []) (cuts := []) (n := 9) (by decide +kernel)
def mjSm_lawx_1 : MjSm := ([(3, 210, 210, 0, 0), (3, 20, 20, 0, 0)], [], [((7, 0, 0, 0, 0), [], [])], [(211, 3), (211, 4), (211, 5), (211, 6), (211, 7), (212, 255), (213, 255), (214, 255)], 1)
set_option maxRecDepth 100000 in
theorem mjC_lawx_1 : mjCtr (mjSW 0 240 mjWd_lawx) 64 mjSm_lawx_1 := aiOk_ctr mjUW_ok (env := []) (fun e he => (by cases he)) (pr := []) (cuts := []) (n := 48) (by decide +kernel)
def mjSm_lawx_2 : MjSm := ([(3, 216, 216, 0, 0), (0, 0, 0, 0, 0)], [], [((7, 0, 0, 0, 0), [], [])], [(217, 255)], 1)
set_option maxRecDepth 100000 in
theorem mjC_lawx_2 : mjCtr (mjSW 0 240 mjWd_lawx) 6 mjSm_lawx_2 := aiOk_ctr mjUW_ok (env := []) (fun e he => (by cases he)) (pr := []) (cuts := [(5, ([(3, 216, 216, 0, 0), (0, 0, 0, 0, 0), (0, 0, 6, 0, 0), (0, 6, 6, 0, 0)], [], []), [(0, 0, 49995), (1, 2, 2147483647), (0, 0, 60000), (0, 0, 0), (0, 0, 0), (0, 0, 0), (0, 0, 0), (0, 0, 0)])]) (n := 12) (by decide +kernel)
def mjSm_lawx_3 : MjSm := ([(3, 217, 217, 0, 0), (0, 0, 0, 0, 0)], [], [((7, 0, 0, 0, 0), [], [])], [(218, 255)], 1)
set_option maxRecDepth 100000 in
theorem mjC_lawx_3 : mjCtr (mjSW 0 240 mjWd_lawx) 6 mjSm_lawx_3 := aiOk_ctr mjUW_ok (env := []) (fun e he => (by cases he)) (pr := []) (cuts := [(5, ([(3, 217, 217, 0, 0), (0, 0, 0, 0, 0), (0, 0, 6, 0, 0), (0, 6, 6, 0, 0)], [], []), [(0, 0, 49995), (1, 2, 2147483647), (0, 0, 60000), (0, 0, 0), (0, 0, 0), (0, 0, 0), (0, 0, 0), (0, 0, 0)])]) (n := 12) (by decide +kernel)
def mjSm_lawx_4 : MjSm := ([(3, 215, 215, 0, 0), (0, 0, 0, 0, 0)], [], [((7, 0, 0, 0, 0), [], [])], [(216, 255)], 1)
set_option maxRecDepth 100000 in
theorem mjC_lawx_4 : mjCtr (mjSW 0 240 mjWd_lawx) 6 mjSm_lawx_4 := aiOk_ctr mjUW_ok (env := []) (fun e he => (by cases he)) (pr := []) (cuts := [(5, ([(3, 215, 215, 0, 0), (0, 0, 0, 0, 0), (0, 0, 6, 0, 0), (0, 6, 6, 0, 0)], [], []), [(0, 0, 49995), (1, 2, 2147483647), (0, 0, 60000), (0, 0, 0), (0, 0, 0), (0, 0, 0), (0, 0, 0), (0, 0, 0)])]) (n := 12) (by decide +kernel)
def mjSm_lawx_5 : MjSm := ([(3, 193, 193, 0, 0), (3, 210, 210, 0, 0), (0, -2147483648, 2147483647, 0, 0)], [], [((0, 0, 0, 0, 0), [], [])], [], 1)
set_option maxRecDepth 100000 in
theorem mjC_lawx_5 : mjCtr (mjSW 0 240 mjWd_lawx) 75 mjSm_lawx_5 := aiOk_ctr mjUW_ok (env := []) (fun e he => (by cases he)) (pr := []) (cuts := [(5, ([(3, 193, 193, 0, 0), (3, 210, 210, 0, 0), (0, -2147483648, 2147483647, 0, 0), (0, 0, 0, 0, 0), (0, 0, 0, 0, 0), (9, 0, 0, 0, 0)], [], []), [(0, 0, 49995), (1, 4, 2147483647), (0, 0, 60000), (0, 0, 0), (0, 0, 0), (0, 0, 0), (0, 0, 0), (0, 0, 0)])]) (n := 9) (by decide +kernel)
def mjSm_lawx_6 : MjSm := ([(3, 209, 209, 0, 0)], [], [((7, 0, 0, 0, 0), [], [])], [(216, 255)], 2)
set_option maxRecDepth 100000 in
theorem mjC_lawx_6 : mjCtr (mjSW 0 240 mjWd_lawx) 74 mjSm_lawx_6 := aiOk_ctr mjUW_ok (env := [(6, mjSm_lawx_4), (75, mjSm_lawx_5)]) (mjEnvC mjC_lawx_4 (mjEnvC mjC_lawx_5 (fun e he => (by cases he)))) (pr := []) (cuts := [(32, ([(3, 209, 209, 0, 0), (0, 0, 0, 0, 0), (0, 0, 0, 0, 0)], [], []), [(0, 0, 49968), (1, 2, 2147483647), (0, 0, 60000), (0, 0, 0), (0, 0, 0), (0, 0, 0), (0, 0, 0), (0, 0, 0)])]) (n := 20) (by decide +kernel)
def mjSm_lawx_7 : MjSm := ([(3, 209, 209, 0, 0), (3, 193, 193, 0, 0), (3, 210, 210, 0, 0)], [], [((7, 0, 0, 0, 0), [], [])], [(210, 2), (210, 3), (210, 7), (216, 255), (217, 255), (218, 255)], 3)
set_option maxRecDepth 100000 in
theorem mjC_lawx_7 : mjCtr (mjSW 0 240 mjWd_lawx) 73 mjSm_lawx_7 := aiOk_ctr mjUW_ok (env := [(6, mjSm_lawx_3), (6, mjSm_lawx_2), (74, mjSm_lawx_6)]) (mjEnvC mjC_lawx_3 (mjEnvC mjC_lawx_2 (mjEnvC mjC_lawx_6 (fun e he => (by cases he))))) (pr := []) (cuts := []) (n := 23) (by decide +kernel)
def mjSm_lawx_8 : MjSm := ([(3, 209, 209, 0, 0), (3, 193, 193, 0, 0), (3, 20, 20, 0, 0)], [], [((7, 0, 0, 0, 0), [], [])], [(210, 2), (210, 3), (210, 7), (211, 3), (211, 4), (211, 5), (211, 6), (211, 7), (212, 255), (213, 255), (214, 255), (216, 255), (217, 255), (218, 255)], 4)
set_option maxRecDepth 100000 in
theorem mjC_lawx_8 : mjCtr (mjSW 0 240 mjWd_lawx) 72 mjSm_lawx_8 := aiOk_ctr mjUW_ok (env := [(73, mjSm_lawx_7), (64, mjSm_lawx_1)]) (mjEnvC mjC_lawx_7 (mjEnvC mjC_lawx_1 (fun e he => (by cases he)))) (pr := []) (cuts := []) (n := 13) (by decide +kernel)
def mjSm_lawx_9 : MjSm := ([(0, 0, 3, 0, 0), (0, 0, 2, 0, 0)], [], [((0, 0, 17, 0, 0), [], [])], [], 1)
set_option maxRecDepth 100000 in
theorem mjC_lawx_9 : mjCtr (mjSW 0 240 mjWd_lawx) 48 mjSm_lawx_9 := aiOk_ctr mjUW_ok (env := []) (fun e he => (by cases he)) (pr := []) (cuts := []) (n := 9) (by decide +kernel)
def mjSm_lawx_10 : MjSm := ([(3, 209, 209, 0, 0), (0, 0, 17, 0, 0), (0, 0, 9, 0, 0)], [], [((7, 0, 0, 0, 0), [], [])], [(212, 255)], 1)
set_option maxRecDepth 100000 in
theorem mjC_lawx_10 : mjCtr (mjSW 0 240 mjWd_lawx) 89 mjSm_lawx_10 := aiOk_ctr mjUW_ok (env := []) (fun e he => (by cases he)) (pr := []) (cuts := []) (n := 18) (by decide +kernel)
def mjSm_lawx_11 : MjSm := ([(3, 201, 201, 0, 0), (3, 214, 214, 0, 0)], [], [((0, -2147483648, 2147483647, 0, 0), [], [])], [], 1)
set_option maxRecDepth 100000 in
theorem mjC_lawx_11 : mjCtr (mjSW 0 240 mjWd_lawx) 77 mjSm_lawx_11 := aiOk_ctr mjUW_ok (env := []) (fun e he => (by cases he)) (pr := []) (cuts := []) (n := 20) (by decide +kernel)
def mjSm_lawx_12 : MjSm := ([(3, 193, 193, 0, 0), (0, 0, 3, 0, 0)], [], [((0, 1, 1, 0, 0), [], [])], [], 1)
set_option maxRecDepth 100000 in
theorem mjC_lawx_12 : mjCtr (mjSW 0 240 mjWd_lawx) 69 mjSm_lawx_12 := aiOk_ctr mjUW_ok (env := []) (fun e he => (by cases he)) (pr := []) (cuts := []) (n := 15) (by decide +kernel)
def mjSm_lawx_13 : MjSm := ([(0, 0, 3, 0, 0), (0, 1, 2, 0, 0)], [], [((0, 1, 17, 0, 0), [], [])], [], 1)
set_option maxRecDepth 100000 in
theorem mjC_lawx_13 : mjCtr (mjSW 0 240 mjWd_lawx) 48 mjSm_lawx_13 := aiOk_ctr mjUW_ok (env := []) (fun e he => (by cases he)) (pr := []) (cuts := []) (n := 9) (by decide +kernel)
def mjSm_lawx_14 : MjSm := ([(3, 209, 209, 0, 0), (0, 1, 17, 0, 0), (0, 1, 1, 0, 0)], [], [((7, 0, 0, 0, 0), [], [])], [(210, 9), (212, 255)], 1)
set_option maxRecDepth 100000 in
theorem mjC_lawx_14 : mjCtr (mjSW 0 240 mjWd_lawx) 92 mjSm_lawx_14 := aiOk_ctr mjUW_ok (env := []) (fun e he => (by cases he)) (pr := []) (cuts := []) (n := 22) (by decide +kernel)
def mjSm_lawx_15 : MjSm := ([(0, 0, 3, 0, 0), (0, 0, 1, 0, 0)], [], [((0, 0, 16, 0, 0), [], [])], [], 1)
set_option maxRecDepth 100000 in
theorem mjC_lawx_15 : mjCtr (mjSW 0 240 mjWd_lawx) 48 mjSm_lawx_15 := aiOk_ctr mjUW_ok (env := []) (fun e he => (by cases he)) (pr := []) (cuts := []) (n := 9) (by decide +kernel)
def mjSm_lawx_16 : MjSm := ([(3, 209, 209, 0, 0), (0, 0, 16, 0, 0), (0, 1, 1, 0, 0)], [], [((7, 0, 0, 0, 0), [], [])], [(210, 9), (212, 255)], 1)
set_option maxRecDepth 100000 in
theorem mjC_lawx_16 : mjCtr (mjSW 0 240 mjWd_lawx) 92 mjSm_lawx_16 := aiOk_ctr mjUW_ok (env := []) (fun e he => (by cases he)) (pr := []) (cuts := []) (n := 22) (by decide +kernel)
def mjSm_lawx_17 : MjSm := ([(3, 209, 209, 0, 0), (0, 0, 3, 0, 0), (0, 0, 1, 0, 0), (0, 1, 1, 0, 0)], [], [((7, 0, 0, 0, 0), [], [])], [(210, 8), (210, 9), (212, 255)], 2)
set_option maxRecDepth 100000 in
theorem mjC_lawx_17 : mjCtr (mjSW 0 240 mjWd_lawx) 91 mjSm_lawx_17 := aiOk_ctr mjUW_ok (env := [(69, mjSm_lawx_12), (48, mjSm_lawx_15), (48, mjSm_lawx_13), (92, mjSm_lawx_16), (92, mjSm_lawx_14)]) (mjEnvC mjC_lawx_12 (mjEnvC mjC_lawx_15 (mjEnvC mjC_lawx_13 (mjEnvC mjC_lawx_16 (mjEnvC mjC_lawx_14 (fun e he => (by cases he))))))) (pr := []) (cuts := [(25, ([(3, 209, 209, 0, 0), (0, 0, 3, 0, 0), (0, 0, 1, 0, 0), (0, 1, 1, 0, 0), (0, 1, 3, 0, 0), (9, 0, 0, 0, 0)], [], []), [(0, 0, 49975), (1, 4, 2147483647), (0, 0, 60000), (0, 0, 0), (0, 0, 0), (0, 0, 0), (0, 0, 0), (0, 0, 0)])]) (n := 43) (by decide +kernel)
def mjSm_lawx_18 : MjSm := ([(3, 209, 209, 0, 0), (0, 0, 3, 0, 0), (0, 0, 1, 0, 0)], [], [((7, 0, 0, 0, 0), [], [])], [(210, 7), (210, 8), (210, 9), (212, 255), (217, 255), (218, 255)], 3)
set_option maxRecDepth 100000 in
theorem mjC_lawx_18 : mjCtr (mjSW 0 240 mjWd_lawx) 90 mjSm_lawx_18 := aiOk_ctr mjUW_ok (env := [(91, mjSm_lawx_17)]) (mjEnvC mjC_lawx_17 (fun e he => (by cases he))) (pr := []) (cuts := [(78, ([(3, 209, 209, 0, 0), (0, 0, 3, 0, 0), (0, 0, 1, 0, 0), (0, 0, 0, 0, 0), (0, 0, 0, 0, 0)], [], []), [(0, 0, 49922), (1, 4, 2147483647), (0, 0, 60000), (0, 0, 0), (0, 0, 0), (0, 0, 0), (0, 0, 0), (0, 0, 0)])]) (n := 47) (by decide +kernel)
def mjSm_lawx_19 : MjSm := ([(3, 209, 209, 0, 0), (0, 0, 3, 0, 0), (0, 0, 2, 0, 0), (0, 0, 0, 0, 0)], [], [((0, 0, 0, 0, 0), [], []), ((0, 1, 1, 0, 0), [(2, 0, 1)], []), ((0, 0, 0, 0, 0), [(2, 0, 1)], []), ((0, 1, 1, 0, 0), [(2, 2, 2)], []), ((0, 0, 0, 0, 0), [(2, 2, 2)], [])], [(215, 255)], 2)
set_option maxRecDepth 100000 in
theorem mjC_lawx_19 : mjCtr (mjSW 0 240 mjWd_lawx) 76 mjSm_lawx_19 := aiOk_ctr mjUW_ok (env := [(77, mjSm_lawx_11), (48, mjSm_lawx_9)]) (mjEnvC mjC_lawx_11 (mjEnvC mjC_lawx_9 (fun e he => (by cases he)))) (pr := [2]) (cuts := []) (n := 80) (by decide +kernel)
def mjSm_lawx_20 : MjSm := ([(0, 0, 3, 0, 0), (0, 2, 2, 0, 0)], [], [((0, 2, 17, 0, 0), [], [])], [], 1)
set_option maxRecDepth 100000 in
theorem mjC_lawx_20 : mjCtr (mjSW 0 240 mjWd_lawx) 48 mjSm_lawx_20 := aiOk_ctr mjUW_ok (env := []) (fun e he => (by cases he)) (pr := []) (cuts := []) (n := 9) (by decide +kernel)
def mjSm_lawx_21 : MjSm := ([(3, 209, 209, 0, 0), (0, 2, 17, 0, 0), (0, 1, 1, 0, 0)], [], [((7, 0, 0, 0, 0), [], [])], [(210, 9), (212, 255)], 1)
set_option maxRecDepth 100000 in
theorem mjC_lawx_21 : mjCtr (mjSW 0 240 mjWd_lawx) 92 mjSm_lawx_21 := aiOk_ctr mjUW_ok (env := []) (fun e he => (by cases he)) (pr := []) (cuts := []) (n := 22) (by decide +kernel)
def mjSm_lawx_22 : MjSm := ([(3, 209, 209, 0, 0), (0, 0, 3, 0, 0), (0, 2, 2, 0, 0), (0, 1, 1, 0, 0)], [], [((7, 0, 0, 0, 0), [], [])], [(210, 8), (210, 9), (212, 255)], 2)
set_option maxRecDepth 100000 in
theorem mjC_lawx_22 : mjCtr (mjSW 0 240 mjWd_lawx) 91 mjSm_lawx_22 := aiOk_ctr mjUW_ok (env := [(48, mjSm_lawx_20), (92, mjSm_lawx_21)]) (mjEnvC mjC_lawx_20 (mjEnvC mjC_lawx_21 (fun e he => (by cases he)))) (pr := []) (cuts := [(25, ([(3, 209, 209, 0, 0), (0, 0, 3, 0, 0), (0, 2, 2, 0, 0), (0, 1, 1, 0, 0), (0, 3, 3, 0, 0), (9, 0, 0, 0, 0)], [], []), [(0, 0, 49975), (1, 4, 2147483647), (0, 0, 60000), (0, 0, 0), (0, 0, 0), (0, 0, 0), (0, 0, 0), (0, 0, 0)])]) (n := 19) (by decide +kernel)
def mjSm_lawx_23 : MjSm := ([(3, 209, 209, 0, 0), (0, 0, 3, 0, 0), (0, 2, 2, 0, 0)], [], [((7, 0, 0, 0, 0), [], [])], [(210, 7), (210, 8), (210, 9), (212, 255), (217, 255), (218, 255)], 3)
set_option maxRecDepth 100000 in
theorem mjC_lawx_23 : mjCtr (mjSW 0 240 mjWd_lawx) 90 mjSm_lawx_23 := aiOk_ctr mjUW_ok (env := [(91, mjSm_lawx_22)]) (mjEnvC mjC_lawx_22 (fun e he => (by cases he))) (pr := []) (cuts := [(78, ([(3, 209, 209, 0, 0), (0, 0, 3, 0, 0), (0, 2, 2, 0, 0), (0, 0, 0, 0, 0), (0, 0, 0, 0, 0)], [], []), [(0, 0, 49922), (1, 4, 2147483647), (0, 0, 60000), (0, 0, 0), (0, 0, 0), (0, 0, 0), (0, 0, 0), (0, 0, 0)])]) (n := 47) (by decide +kernel)
def mjSm_lawx_24 : MjSm := ([(3, 209, 209, 0, 0), (0, -1, -1, 0, 0)], [], [((0, 0, 0, 0, 0), [], [])], [], 1)
set_option maxRecDepth 100000 in
theorem mjC_lawx_24 : mjCtr (mjSW 0 240 mjWd_lawx) 94 mjSm_lawx_24 := aiOk_ctr mjUW_ok (env := []) (fun e he => (by cases he)) (pr := []) (cuts := [(4, ([(3, 209, 209, 0, 0), (0, -1, -1, 0, 0), (0, 0, 0, 0, 0), (0, 0, 0, 0, 0)], [], []), [(0, 0, 49996), (1, 3, 2147483647), (0, 0, 60000), (0, 0, 0), (0, 0, 0), (0, 0, 0), (0, 0, 0), (0, 0, 0)])]) (n := 10) (by decide +kernel)
def mjSm_lawx_25 : MjSm := ([(3, 209, 209, 0, 0)], [], [((0, 0, 0, 0, 0), [], [])], [], 2)
set_option maxRecDepth 100000 in
theorem mjC_lawx_25 : mjCtr (mjSW 0 240 mjWd_lawx) 93 mjSm_lawx_25 := aiOk_ctr mjUW_ok (env := [(94, mjSm_lawx_24)]) (mjEnvC mjC_lawx_24 (fun e he => (by cases he))) (pr := []) (cuts := []) (n := 11) (by decide +kernel)
def mjSm_lawx_26 : MjSm := ([(3, 209, 209, 0, 0), (0, 0, 9, 0, 0), (0, 0, 0, 0, 0)], [], [((7, 0, 0, 0, 0), [], [])], [(210, 7), (210, 8), (210, 9), (211, 5), (211, 6), (211, 7), (212, 255), (215, 255), (216, 255), (217, 255), (218, 255)], 4)
set_option maxRecDepth 100000 in
theorem mjC_lawx_26 : mjCtr (mjSW 0 240 mjWd_lawx) 88 mjSm_lawx_26 := aiOk_ctr mjUW_ok (env := [(74, mjSm_lawx_6), (93, mjSm_lawx_25), (90, mjSm_lawx_23), (90, mjSm_lawx_18), (48, mjSm_lawx_9), (76, mjSm_lawx_19), (89, mjSm_lawx_10)]) (mjEnvC mjC_lawx_6 (mjEnvC mjC_lawx_25 (mjEnvC mjC_lawx_23 (mjEnvC mjC_lawx_18 (mjEnvC mjC_lawx_9 (mjEnvC mjC_lawx_19 (mjEnvC mjC_lawx_10 (fun e he => (by cases he))))))))) (pr := []) (cuts := [(2, ([(3, 209, 209, 0, 0), (0, 0, 9, 0, 0), (0, 0, 0, 0, 0), (0, 0, 4, 0, 0), (9, 0, 0, 0, 0)], [], []), [(0, 0, 49998), (1, 3, 2147483647), (0, 0, 60000), (0, 0, 0), (0, 0, 0), (0, 0, 0), (0, 0, 0), (0, 0, 0)]), (16, ([(3, 209, 209, 0, 0), (0, 0, 9, 0, 0), (0, 0, 0, 0, 0), (0, 0, 3, 0, 0), (0, 0, 3, 0, 0)], [], []), [(0, 0, 49998), (1, 3, 2147483647), (0, 0, 49984), (1, 4, 2147483647), (0, 0, 60000), (0, 0, 0), (0, 0, 0), (0, 0, 0)]), (140, ([(3, 209, 209, 0, 0), (0, 0, 9, 0, 0), (0, 0, 0, 0, 0), (0, 0, 3, 0, 0), (9, 0, 0, 0, 0)], [], []), [(0, 0, 49860), (1, 3, 2147483647), (0, 0, 60000), (0, 0, 0), (0, 0, 0), (0, 0, 0), (0, 0, 0), (0, 0, 0)]), (154, ([(3, 209, 209, 0, 0), (0, 0, 9, 0, 0), (0, 0, 0, 0, 0), (0, 0, 2, 0, 0), (0, 0, 4, 0, 0)], [], []), [(0, 0, 49860), (1, 3, 2147483647), (0, 0, 49846), (1, 4, 2147483647), (0, 0, 60000), (0, 0, 0), (0, 0, 0), (0, 0, 0)])]) (n := 26) (by decide +kernel)
def mjSm_lawx_27 : MjSm := ([(3, 209, 209, 0, 0), (0, 24, 24, 0, 0), (0, 0, 9, 0, 0), (0, 0, 0, 0, 0)], [(209, 8, (0, 0, 0, 0, 0))], [((7, 0, 0, 0, 0), [], [])], [(210, 7), (210, 8), (210, 9), (211, 5), (211, 6), (211, 7), (212, 255), (215, 255), (216, 255), (217, 255), (218, 255)], 5)
set_option maxRecDepth 100000 in
theorem mjC_lawx_27 : mjCtr (mjSW 0 240 mjWd_lawx) 109 mjSm_lawx_27 := aiOk_ctr mjUW_ok (env := [(88, mjSm_lawx_26)]) (mjEnvC mjC_lawx_26 (fun e he => (by cases he))) (pr := []) (cuts := [(3, ([(3, 209, 209, 0, 0), (0, 24, 24, 0, 0), (0, 0, 9, 0, 0), (0, 0, 0, 0, 0), (0, 0, 24, 0, 0)], [], []), [(0, 0, 49997), (1, 4, 2147483647), (0, 0, 60000), (0, 0, 0), (0, 0, 0), (0, 0, 0), (0, 0, 0), (0, 0, 0)])]) (n := 12) (by decide +kernel)
def mjSm_lawx_28 : MjSm := ([(3, 0, 0, 0, 0), (0, -2147483648, 2147483647, 0, 0)], [(209, 8, (0, 0, 0, 0, 0))], [((0, -1, -1, 0, 0), [(1, 10, 2147483647)], [(209, 8, (0, 0, 0, 0, 0))]), ((0, 0, 0, 0, 0), [(1, 0, 9)], []), ((0, -1, -1, 0, 0), [(1, -2147483648, -1)], [(209, 8, (0, 0, 0, 0, 0))])], [(210, 2), (210, 3), (210, 7), (210, 8), (210, 9), (211, 3), (211, 4), (211, 5), (211, 6), (211, 7), (212, 255), (213, 255), (214, 255), (215, 255), (216, 255), (217, 255), (218, 255)], 6)
set_option maxRecDepth 100000 in
theorem mjC_lawx_28 : mjCtr (mjSW 0 240 mjWd_lawx) 154 mjSm_lawx_28 := aiOk_ctr mjUW_ok (env := [(109, mjSm_lawx_27), (72, mjSm_lawx_8), (70, mjSm_lawx_0), (93, mjSm_lawx_25)]) (mjEnvC mjC_lawx_27 (mjEnvC mjC_lawx_8 (mjEnvC mjC_lawx_0 (mjEnvC mjC_lawx_25 (fun e he => (by cases he)))))) (pr := [1]) (cuts := []) (n := 26) (by decide +kernel)
def mjWd_lawm : MjWd := [(240, 49, (0, 0, 3)), (240, 50, (0, 0, 2)), (240, 55, (0, -1, 9)), (240, 56, (0, -2147483648, 2147483647)), (240, 57, (0, 0, 3)), (240, 58, (0, -2147483648, 2147483647)), (274, 0, (0, 0, 99)), (274, 1, (0, 0, 99)), (274, 2, (0, 0, 99)), (274, 3, (0, 0, 99)), (274, 4, (0, 0, 99)), (274, 5, (0, 0, 99)), (274, 6, (0, 0, 99)), (274, 7, (0, 0, 99)), (274, 8, (0, 0, 99)), (274, 9, (0, 0, 99)), (274, 10, (0, 0, 99)), (274, 11, (0, 0, 99)), (274, 12, (0, 0, 99)), (274, 13, (0, 0, 99)), (274, 14, (0, 0, 99)), (274, 15, (0, 0, 99)), (274, 16, (0, 0, 99)), (274, 17, (0, 0, 99)), (274, 68, (0, -2147483648, 2147483647)), (275, 0, (0, 0, 99)), (275, 1, (0, 0, 99)), (275, 2, (0, 0, 99)), (275, 3, (0, 0, 99)), (275, 4, (0, 0, 99)), (275, 5, (0, 0, 99)), (275, 6, (0, 0, 99)), (275, 7, (0, 0, 99)), (275, 8, (0, 0, 99)), (275, 9, (0, 0, 99)), (275, 10, (0, 0, 99)), (275, 11, (0, 0, 99)), (275, 12, (0, 0, 99)), (275, 13, (0, 0, 99)), (275, 14, (0, 0, 99)), (275, 15, (0, 0, 99)), (275, 16, (0, 0, 99)), (275, 17, (0, 0, 99)), (275, 68, (0, -2147483648, 2147483647)), (276, 255, (0, -2147483648, 2147483647))]
theorem mjWd_lawm_ok : mjWdB mjWd_lawm = true := by decide +kernel
def mjSm_lawm_0 : MjSm := ([(0, -2147483648, 2147483647, 0, 0), (0, 0, 0, 0, 0), (0, 9, 9, 0, 0)], [], [((0, 1, 1, 0, 0), [(0, 0, 9)], []), ((0, 0, 0, 0, 0), [(0, 10, 2147483647)], []), ((0, 0, 0, 0, 0), [(0, -2147483648, -1)], [])], [], 1)
set_option maxRecDepth 100000 in
theorem mjC_lawm_0 : mjCtr (mjSW 240 290 mjWd_lawm) 221 mjSm_lawm_0 := aiOk_ctr mjUW_ok (env := []) (fun e he => (by cases he)) (pr := [0]) (cuts := []) (n := 12) (by decide +kernel)
def mjSm_lawm_1 : MjSm := ([(3, 240, 240, 0, 0)], [], [((7, 0, 0, 0, 0), [], [])], [(276, 255)], 1)
set_option maxRecDepth 100000 in
theorem mjC_lawm_1 : mjCtr (mjSW 240 290 mjWd_lawm) 266 mjSm_lawm_1 := aiOk_ctr mjUW_ok (env := []) (fun e he => (by cases he)) (pr := []) (cuts := []) (n := 919) (by decide +kernel)
def mjSm_lawm_2 : MjSm := ([(3, 240, 240, 0, 0)], [], [((0, 4, 4, 0, 0), [], [])], [], 1)
set_option maxRecDepth 100000 in
theorem mjC_lawm_2 : mjCtr (mjSW 240 290 mjWd_lawm) 220 mjSm_lawm_2 := aiOk_ctr mjUW_ok (env := []) (fun e he => (by cases he)) (pr := []) (cuts := []) (n := 9) (by decide +kernel)
def mjSm_lawm_3 : MjSm := ([(3, 240, 240, 0, 0)], [], [((0, 3, 3, 0, 0), [], [])], [], 1)
set_option maxRecDepth 100000 in
theorem mjC_lawm_3 : mjCtr (mjSW 240 290 mjWd_lawm) 222 mjSm_lawm_3 := aiOk_ctr mjUW_ok (env := []) (fun e he => (by cases he)) (pr := []) (cuts := []) (n := 9) (by decide +kernel)
def mjSm_lawm_4 : MjSm := ([(0, 0, 108, 0, 0), (0, 0, 0, 0, 0), (0, 99, 99, 0, 0)], [], [((0, 99, 99, 0, 0), [(0, 100, 108)], []), ((0, 0, 99, 0, 0), [(0, 0, 99)], [])], [], 1)
set_option maxRecDepth 100000 in
theorem mjC_lawm_4 : mjCtr (mjSW 240 290 mjWd_lawm) 249 mjSm_lawm_4 := aiOk_ctr mjUW_ok (env := []) (fun e he => (by cases he)) (pr := [0]) (cuts := []) (n := 12) (by decide +kernel)
def mjSm_lawm_5 : MjSm := ([(3, 240, 240, 0, 0), (0, 0, 3, 0, 0), (0, 0, 2, 0, 0)], [], [((0, 0, 99, 0, 0), [], [])], [], 1)
set_option maxRecDepth 100000 in
theorem mjC_lawm_5 : mjCtr (mjSW 240 290 mjWd_lawm) 223 mjSm_lawm_5 := aiOk_ctr mjUW_ok (env := []) (fun e he => (by cases he)) (pr := []) (cuts := []) (n := 14) (by decide +kernel)
def mjSm_lawm_6 : MjSm := ([(3, 240, 240, 0, 0), (0, 0, 3, 0, 0), (0, 0, 2, 0, 0), (0, 0, 9, 0, 0)], [], [((7, 0, 0, 0, 0), [], [])], [(275, 255)], 2)
set_option maxRecDepth 100000 in
theorem mjC_lawm_6 : mjCtr (mjSW 240 290 mjWd_lawm) 248 mjSm_lawm_6 := aiOk_ctr mjUW_ok (env := [(223, mjSm_lawm_5), (249, mjSm_lawm_4)]) (mjEnvC mjC_lawm_5 (mjEnvC mjC_lawm_4 (fun e he => (by cases he)))) (pr := []) (cuts := []) (n := 23) (by decide +kernel)
def mjSm_lawm_7 : MjSm := ([(0, 0, 0, 0, 0), (0, 2, 2, 0, 0)], [], [((0, 0, 0, 0, 0), [], [])], [], 1)
set_option maxRecDepth 100000 in
theorem mjC_lawm_7 : mjCtr (mjSW 240 290 mjWd_lawm) 191 mjSm_lawm_7 := aiOk_ctr mjUW_ok (env := []) (fun e he => (by cases he)) (pr := []) (cuts := []) (n := 12) (by decide +kernel)
def mjSm_lawm_8 : MjSm := ([(3, 240, 240, 0, 0)], [], [((0, 0, 0, 0, 0), [], [])], [], 1)
set_option maxRecDepth 100000 in
theorem mjC_lawm_8 : mjCtr (mjSW 240 290 mjWd_lawm) 179 mjSm_lawm_8 := aiOk_ctr mjUW_ok (env := []) (fun e he => (by cases he)) (pr := []) (cuts := []) (n := 9) (by decide +kernel)
def mjSm_lawm_9 : MjSm := ([(3, 240, 240, 0, 0), (0, 0, 3, 0, 0)], [], [((0, 0, 0, 0, 0), [], [])], [], 1)
set_option maxRecDepth 100000 in
theorem mjC_lawm_9 : mjCtr (mjSW 240 290 mjWd_lawm) 226 mjSm_lawm_9 := aiOk_ctr mjUW_ok (env := []) (fun e he => (by cases he)) (pr := []) (cuts := [(4, ([(3, 240, 240, 0, 0), (0, 0, 3, 0, 0), (0, 0, 0, 0, 0), (0, 0, 0, 0, 0)], [], []), [(0, 0, 49996), (1, 3, 2147483647), (0, 0, 60000), (0, 0, 0), (0, 0, 0), (0, 0, 0), (0, 0, 0), (0, 0, 0)])]) (n := 12) (by decide +kernel)
def mjSm_lawm_10 : MjSm := ([(0, 0, 3, 0, 0), (0, 0, 0, 0, 0), (0, 3, 3, 0, 0)], [], [((0, 1, 1, 0, 0), [], [])], [], 1)
set_option maxRecDepth 100000 in
theorem mjC_lawm_10 : mjCtr (mjSW 240 290 mjWd_lawm) 221 mjSm_lawm_10 := aiOk_ctr mjUW_ok (env := []) (fun e he => (by cases he)) (pr := []) (cuts := []) (n := 12) (by decide +kernel)
def mjSm_lawm_11 : MjSm := ([(3, 240, 240, 0, 0), (0, 0, 3, 0, 0)], [], [((0, 1, 1, 0, 0), [], [])], [], 2)
set_option maxRecDepth 100000 in
theorem mjC_lawm_11 : mjCtr (mjSW 240 290 mjWd_lawm) 219 mjSm_lawm_11 := aiOk_ctr mjUW_ok (env := [(220, mjSm_lawm_2), (221, mjSm_lawm_10)]) (mjEnvC mjC_lawm_2 (mjEnvC mjC_lawm_10 (fun e he => (by cases he)))) (pr := []) (cuts := []) (n := 11) (by decide +kernel)
def mjSm_lawm_12 : MjSm := ([(3, 240, 240, 0, 0), (0, 0, 3, 0, 0), (0, 1, 2, 0, 0)], [], [((0, 0, 0, 0, 0), [], [])], [], 1)
set_option maxRecDepth 100000 in
theorem mjC_lawm_12 : mjCtr (mjSW 240 290 mjWd_lawm) 224 mjSm_lawm_12 := aiOk_ctr mjUW_ok (env := []) (fun e he => (by cases he)) (pr := []) (cuts := []) (n := 14) (by decide +kernel)
def mjSm_lawm_13 : MjSm := ([(3, 240, 240, 0, 0), (0, 0, 3, 0, 0), (0, 1, 2, 0, 0)], [], [((0, 0, 99, 0, 0), [], [])], [], 1)
set_option maxRecDepth 100000 in
theorem mjC_lawm_13 : mjCtr (mjSW 240 290 mjWd_lawm) 223 mjSm_lawm_13 := aiOk_ctr mjUW_ok (env := []) (fun e he => (by cases he)) (pr := []) (cuts := []) (n := 14) (by decide +kernel)
def mjSm_lawm_14 : MjSm := ([(3, 240, 240, 0, 0), (0, 0, 3, 0, 0), (0, 0, 2, 0, 0), (0, 0, 0, 0, 0)], [], [((0, 0, 0, 0, 0), [], []), ((0, 1, 1, 0, 0), [], [])], [(241, 49), (241, 50), (241, 51)], 2)
set_option maxRecDepth 100000 in
theorem mjC_lawm_14 : mjCtr (mjSW 240 290 mjWd_lawm) 225 mjSm_lawm_14 := aiOk_ctr mjUW_ok (env := [(191, mjSm_lawm_7), (226, mjSm_lawm_9), (223, mjSm_lawm_5)]) (mjEnvC mjC_lawm_7 (mjEnvC mjC_lawm_9 (mjEnvC mjC_lawm_5 (fun e he => (by cases he))))) (pr := []) (cuts := []) (n := 52) (by decide +kernel)
def mjSm_lawm_15 : MjSm := ([(3, 240, 240, 0, 0), (0, 0, 3, 0, 0), (0, 0, 2, 0, 0), (0, 1, 1, 0, 0)], [], [((7, 0, 0, 0, 0), [], [])], [(241, 57), (241, 58), (275, 255)], 3)
set_option maxRecDepth 100000 in
theorem mjC_lawm_15 : mjCtr (mjSW 240 290 mjWd_lawm) 241 mjSm_lawm_15 := aiOk_ctr mjUW_ok (env := [(222, mjSm_lawm_3), (219, mjSm_lawm_11), (223, mjSm_lawm_13), (224, mjSm_lawm_12), (223, mjSm_lawm_5)]) (mjEnvC mjC_lawm_3 (mjEnvC mjC_lawm_11 (mjEnvC mjC_lawm_13 (mjEnvC mjC_lawm_12 (mjEnvC mjC_lawm_5 (fun e he => (by cases he))))))) (pr := []) (cuts := [(37, ([(3, 240, 240, 0, 0), (0, 0, 3, 0, 0), (0, 0, 2, 0, 0), (0, 1, 1, 0, 0), (0, 1, 3, 0, 0), (9, 0, 0, 0, 0)], [], []), [(0, 0, 49963), (1, 4, 2147483647), (0, 0, 60000), (0, 0, 0), (0, 0, 0), (0, 0, 0), (0, 0, 0), (0, 0, 0)])]) (n := 59) (by decide +kernel)
def mjSm_lawm_16 : MjSm := ([(3, 240, 240, 0, 0), (0, 0, 3, 0, 0), (0, 0, 2, 0, 0), (0, 0, 0, 0, 0)], [], [((7, 0, 0, 0, 0), [], [])], [(241, 49), (241, 50), (241, 51), (241, 56), (241, 57), (241, 58), (275, 255), (277, 255)], 4)
set_option maxRecDepth 100000 in
theorem mjC_lawm_16 : mjCtr (mjSW 240 290 mjWd_lawm) 250 mjSm_lawm_16 := aiOk_ctr mjUW_ok (env := [(179, mjSm_lawm_8), (241, mjSm_lawm_15), (225, mjSm_lawm_14)]) (mjEnvC mjC_lawm_8 (mjEnvC mjC_lawm_15 (mjEnvC mjC_lawm_14 (fun e he => (by cases he))))) (pr := []) (cuts := [(55, ([(3, 240, 240, 0, 0), (0, 0, 3, 0, 0), (0, 0, 2, 0, 0), (0, 0, 0, 0, 0), (0, 0, 0, 0, 0)], [], []), [(0, 0, 49945), (1, 4, 2147483647), (0, 0, 60000), (0, 0, 0), (0, 0, 0), (0, 0, 0), (0, 0, 0), (0, 0, 0)])]) (n := 35) (by decide +kernel)
def mjSm_lawm_17 : MjSm := ([(3, 240, 240, 0, 0)], [], [((0, 0, 0, 0, 0), [], [])], [], 2)
set_option maxRecDepth 100000 in
theorem mjC_lawm_17 : mjCtr (mjSW 240 290 mjWd_lawm) 251 mjSm_lawm_17 := aiOk_ctr mjUW_ok (env := [(179, mjSm_lawm_8)]) (mjEnvC mjC_lawm_8 (fun e he => (by cases he))) (pr := []) (cuts := [(4, ([(3, 240, 240, 0, 0), (0, 0, 0, 0, 0), (0, 0, 0, 0, 0)], [], []), [(0, 0, 49996), (1, 2, 2147483647), (0, 0, 60000), (0, 0, 0), (0, 0, 0), (0, 0, 0), (0, 0, 0), (0, 0, 0)])]) (n := 9) (by decide +kernel)
def mjSm_lawm_18 : MjSm := ([(3, 240, 240, 0, 0), (0, 0, 0, 0, 0)], [], [((7, 0, 0, 0, 0), [], [])], [(241, 49), (241, 50), (241, 51), (241, 56), (241, 57), (241, 58), (275, 255), (277, 255)], 5)
set_option maxRecDepth 100000 in
theorem mjC_lawm_18 : mjCtr (mjSW 240 290 mjWd_lawm) 247 mjSm_lawm_18 := aiOk_ctr mjUW_ok (env := [(220, mjSm_lawm_2), (251, mjSm_lawm_17), (222, mjSm_lawm_3), (250, mjSm_lawm_16), (248, mjSm_lawm_6)]) (mjEnvC mjC_lawm_2 (mjEnvC mjC_lawm_17 (mjEnvC mjC_lawm_3 (mjEnvC mjC_lawm_16 (mjEnvC mjC_lawm_6 (fun e he => (by cases he))))))) (pr := []) (cuts := [(7, ([(3, 240, 240, 0, 0), (0, 0, 0, 0, 0), (0, 0, 6, 0, 0), (9, 0, 0, 0, 0)], [], [(240, 56, (0, 0, 0, 0, 0))]), [(0, 0, 49993), (1, 2, 2147483647), (0, 0, 60000), (0, 0, 0), (0, 0, 0), (0, 0, 0), (0, 0, 0), (0, 0, 0)]), (52, ([(3, 240, 240, 0, 0), (0, 0, 0, 0, 0), (0, 0, 9, 0, 0), (0, 0, 12, 0, 0)], [], [(240, 56, (0, 0, 0, 0, 0))]), [(0, 0, 49948), (1, 3, 2147483647), (0, 0, 60000), (0, 0, 0), (0, 0, 0), (0, 0, 0), (0, 0, 0), (0, 0, 0)]), (159, ([(3, 240, 240, 0, 0), (0, 0, 0, 0, 0), (0, 0, 9, 0, 0), (0, 0, 12, 0, 0)], [], []), [(0, 0, 49841), (1, 3, 2147483647), (0, 0, 60000), (0, 0, 0), (0, 0, 0), (0, 0, 0), (0, 0, 0), (0, 0, 0)])]) (n := 28) (by decide +kernel)
def mjSm_lawm_19 : MjSm := ([(3, 240, 240, 0, 0), (0, 24, 24, 0, 0)], [(240, 57, (0, 0, 0, 0, 0))], [((7, 0, 0, 0, 0), [], [])], [(241, 49), (241, 50), (241, 51), (241, 56), (241, 57), (241, 58), (275, 255), (277, 255)], 6)
set_option maxRecDepth 100000 in
theorem mjC_lawm_19 : mjCtr (mjSW 240 290 mjWd_lawm) 269 mjSm_lawm_19 := aiOk_ctr mjUW_ok (env := [(247, mjSm_lawm_18)]) (mjEnvC mjC_lawm_18 (fun e he => (by cases he))) (pr := []) (cuts := [(2, ([(3, 240, 240, 0, 0), (0, 24, 24, 0, 0), (0, 0, 24, 0, 0)], [], []), [(0, 0, 49998), (1, 2, 2147483647), (0, 0, 60000), (0, 0, 0), (0, 0, 0), (0, 0, 0), (0, 0, 0), (0, 0, 0)])]) (n := 11) (by decide +kernel)
def mjSm_lawm_20 : MjSm := ([(3, 240, 240, 0, 0), (0, 24, 24, 0, 0)], [(240, 57, (0, 0, 0, 0, 0))], [((0, 0, 0, 0, 0), [], [])], [(241, 49), (241, 50), (241, 51), (241, 56), (241, 57), (241, 58), (275, 255), (277, 255)], 7)
set_option maxRecDepth 100000 in
theorem mjC_lawm_20 : mjCtr (mjSW 240 290 mjWd_lawm) 272 mjSm_lawm_20 := aiOk_ctr mjUW_ok (env := [(269, mjSm_lawm_19), (251, mjSm_lawm_17)]) (mjEnvC mjC_lawm_19 (mjEnvC mjC_lawm_17 (fun e he => (by cases he)))) (pr := []) (cuts := []) (n := 9) (by decide +kernel)
def mjSm_lawm_21 : MjSm := ([(3, 240, 240, 0, 0)], [], [((7, 0, 0, 0, 0), [], [])], [(275, 255)], 1)
set_option maxRecDepth 100000 in
theorem mjC_lawm_21 : mjCtr (mjSW 240 290 mjWd_lawm) 267 mjSm_lawm_21 := aiOk_ctr mjUW_ok (env := []) (fun e he => (by cases he)) (pr := []) (cuts := []) (n := 919) (by decide +kernel)
def mjSm_lawm_22 : MjSm := ([(3, 240, 240, 0, 0), (0, 24, 24, 0, 0)], [(240, 57, (0, 0, 0, 0, 0))], [((0, 0, 0, 0, 0), [], [])], [(241, 49), (241, 50), (241, 51), (241, 56), (241, 57), (241, 58), (275, 255), (276, 255), (277, 255)], 8)
set_option maxRecDepth 100000 in
theorem mjC_lawm_22 : mjCtr (mjSW 240 290 mjWd_lawm) 271 mjSm_lawm_22 := aiOk_ctr mjUW_ok (env := [(272, mjSm_lawm_20), (267, mjSm_lawm_21), (266, mjSm_lawm_1)]) (mjEnvC mjC_lawm_20 (mjEnvC mjC_lawm_21 (mjEnvC mjC_lawm_1 (fun e he => (by cases he))))) (pr := []) (cuts := []) (n := 13) (by decide +kernel)
def mjSm_lawm_23 : MjSm := ([(3, 240, 240, 0, 0), (0, -2147483648, 2147483647, 0, 0)], [(240, 57, (0, 0, 0, 0, 0))], [((0, -1, -1, 0, 0), [(1, -2147483648, -1)], [(240, 57, (0, 0, 0, 0, 0))]), ((0, -1, -1, 0, 0), [(1, 10, 2147483647)], [(240, 57, (0, 0, 0, 0, 0))]), ((0, 0, 0, 0, 0), [(1, 0, 9)], [])], [(241, 49), (241, 50), (241, 51), (241, 55), (241, 56), (241, 57), (241, 58), (275, 255), (276, 255), (277, 255)], 9)
set_option maxRecDepth 100000 in
theorem mjC_lawm_23 : mjCtr (mjSW 240 290 mjWd_lawm) 283 mjSm_lawm_23 := aiOk_ctr mjUW_ok (env := [(271, mjSm_lawm_22), (221, mjSm_lawm_0)]) (mjEnvC mjC_lawm_22 (mjEnvC mjC_lawm_0 (fun e he => (by cases he)))) (pr := [1]) (cuts := []) (n := 20) (by decide +kernel)
set_option maxRecDepth 100000 in
theorem mjPair_law (sc : List Int32) (s1 : Int32)  : ∃ (v : Int32) (n1 : Nat) (w1 : MjW) (n2 : Nat) (w2 : MjW), mjEx mjTb mjMt sc n1 6 154 0 (mjEntry mjM_154.2.2.1 (.ref 0 :: [.int s1])) [] mjW0 = some (some (.int v), w1) ∧ mjEx mjTb mjMt sc n2 9 283 0 (mjEntry mjM_283.2.2.1 (.ref 240 :: [.int s1])) [] w1 = some (some (.int v), w2) ∧ mjShp w1 = mjShp mjW0 ∧ mjShp w2 = mjShp mjW0 := mj_pair (smx := mjSm_lawx_28) (smm := mjSm_lawm_23) mjC_lawx_28 mjC_lawm_23 mjWd_lawx_ok mjWd_lawm_ok (by decide +kernel) (by decide +kernel) (by decide +kernel) (by decide +kernel) (by decide +kernel) ⟨⟨0, rfl, rfl⟩, ⟨⟨s1, rfl, mjB.all s1⟩, trivial⟩⟩ ⟨⟨240, rfl, rfl⟩, ⟨⟨s1, rfl, mjB.all s1⟩, trivial⟩⟩ rfl rfl
