def mjWd_surex : MjWd := [(185, 6, (0, 0, 1)), (185, 9, (0, 0, 2147483647)), (209, 7, (0, -2147483648, 2147483647)), (209, 8, (0, 0, 3)), (209, 9, (0, -2147483648, 2147483647)), (210, 6, (0, -2147483648, 2147483647)), (210, 7, (0, 0, 999)), (211, 255, (0, 0, 99)), (214, 255, (0, -2147483648, 2147483647)), (216, 255, (0, -2147483648, 2147483647)), (217, 255, (0, 0, 2147483647))]
theorem mjWd_surex_ok : mjWdB mjWd_surex = true := by decide +kernel
def mjSm_surex_0 : MjSm := ([(3, 210, 210, 0, 0), (3, 205, 205, 0, 0)], [], [((7, 0, 0, 0, 0), [], [])], [(211, 3), (211, 4), (211, 5), (211, 6), (211, 7), (212, 255), (213, 255), (214, 255)], 1)
set_option maxRecDepth 100000 in
theorem mjC_surex_0 : mjCtr (mjSW 0 240 mjWd_surex) 64 mjSm_surex_0 := aiOk_ctr mjUW_ok (env := []) (fun e he => (by cases he)) (pr := []) (cuts := []) (n := 48) (by decide +kernel)
def mjSm_surex_1 : MjSm := ([(3, 216, 216, 0, 0), (0, 0, 0, 0, 0)], [], [((7, 0, 0, 0, 0), [], [])], [(217, 255)], 1)
set_option maxRecDepth 100000 in
theorem mjC_surex_1 : mjCtr (mjSW 0 240 mjWd_surex) 6 mjSm_surex_1 := aiOk_ctr mjUW_ok (env := []) (fun e he => (by cases he)) (pr := []) (cuts := [(5, ([(3, 216, 216, 0, 0), (0, 0, 0, 0, 0), (0, 0, 6, 0, 0), (0, 6, 6, 0, 0)], [], []), [(0, 0, 49995), (1, 2, 2147483647), (0, 0, 60000), (0, 0, 0), (0, 0, 0), (0, 0, 0), (0, 0, 0), (0, 0, 0)])]) (n := 12) (by decide +kernel)
def mjSm_surex_2 : MjSm := ([(3, 217, 217, 0, 0), (0, 0, 0, 0, 0)], [], [((7, 0, 0, 0, 0), [], [])], [(218, 255)], 1)
set_option maxRecDepth 100000 in
theorem mjC_surex_2 : mjCtr (mjSW 0 240 mjWd_surex) 6 mjSm_surex_2 := aiOk_ctr mjUW_ok (env := []) (fun e he => (by cases he)) (pr := []) (cuts := [(5, ([(3, 217, 217, 0, 0), (0, 0, 0, 0, 0), (0, 0, 6, 0, 0), (0, 6, 6, 0, 0)], [], []), [(0, 0, 49995), (1, 2, 2147483647), (0, 0, 60000), (0, 0, 0), (0, 0, 0), (0, 0, 0), (0, 0, 0), (0, 0, 0)])]) (n := 12) (by decide +kernel)
def mjSm_surex_3 : MjSm := ([(3, 215, 215, 0, 0), (0, 0, 0, 0, 0)], [], [((7, 0, 0, 0, 0), [], [])], [(216, 255)], 1)
set_option maxRecDepth 100000 in
theorem mjC_surex_3 : mjCtr (mjSW 0 240 mjWd_surex) 6 mjSm_surex_3 := aiOk_ctr mjUW_ok (env := []) (fun e he => (by cases he)) (pr := []) (cuts := [(5, ([(3, 215, 215, 0, 0), (0, 0, 0, 0, 0), (0, 0, 6, 0, 0), (0, 6, 6, 0, 0)], [], []), [(0, 0, 49995), (1, 2, 2147483647), (0, 0, 60000), (0, 0, 0), (0, 0, 0), (0, 0, 0), (0, 0, 0), (0, 0, 0)])]) (n := 12) (by decide +kernel)
def mjSm_surex_4 : MjSm := ([(3, 193, 193, 0, 0), (3, 210, 210, 0, 0), (0, -2147483648, 2147483647, 0, 0)], [], [((0, 0, 0, 0, 0), [], [])], [], 1)
set_option maxRecDepth 100000 in
theorem mjC_surex_4 : mjCtr (mjSW 0 240 mjWd_surex) 75 mjSm_surex_4 := aiOk_ctr mjUW_ok (env := []) (fun e he => (by cases he)) (pr := []) (cuts := [(5, ([(3, 193, 193, 0, 0), (3, 210, 210, 0, 0), (0, -2147483648, 2147483647, 0, 0), (0, 0, 0, 0, 0), (0, 0, 0, 0, 0), (9, 0, 0, 0, 0)], [], []), [(0, 0, 49995), (1, 4, 2147483647), (0, 0, 60000), (0, 0, 0), (0, 0, 0), (0, 0, 0), (0, 0, 0), (0, 0, 0)])]) (n := 9) (by decide +kernel)
def mjSm_surex_5 : MjSm := ([(3, 209, 209, 0, 0)], [], [((7, 0, 0, 0, 0), [], [])], [(216, 255)], 2)
set_option maxRecDepth 100000 in
theorem mjC_surex_5 : mjCtr (mjSW 0 240 mjWd_surex) 74 mjSm_surex_5 := aiOk_ctr mjUW_ok (env := [(6, mjSm_surex_3), (75, mjSm_surex_4)]) (mjEnvC mjC_surex_3 (mjEnvC mjC_surex_4 (fun e he => (by cases he)))) (pr := []) (cuts := [(32, ([(3, 209, 209, 0, 0), (0, 0, 0, 0, 0), (0, 0, 0, 0, 0)], [], []), [(0, 0, 49968), (1, 2, 2147483647), (0, 0, 60000), (0, 0, 0), (0, 0, 0), (0, 0, 0), (0, 0, 0), (0, 0, 0)])]) (n := 20) (by decide +kernel)
def mjSm_surex_6 : MjSm := ([(3, 209, 209, 0, 0), (3, 193, 193, 0, 0), (3, 210, 210, 0, 0)], [], [((7, 0, 0, 0, 0), [], [])], [(210, 2), (210, 3), (210, 7), (216, 255), (217, 255), (218, 255)], 3)
set_option maxRecDepth 100000 in
theorem mjC_surex_6 : mjCtr (mjSW 0 240 mjWd_surex) 73 mjSm_surex_6 := aiOk_ctr mjUW_ok (env := [(6, mjSm_surex_2), (6, mjSm_surex_1), (74, mjSm_surex_5)]) (mjEnvC mjC_surex_2 (mjEnvC mjC_surex_1 (mjEnvC mjC_surex_5 (fun e he => (by cases he))))) (pr := []) (cuts := []) (n := 23) (by decide +kernel)
def mjSm_surex_7 : MjSm := ([(3, 209, 209, 0, 0), (3, 193, 193, 0, 0), (3, 205, 205, 0, 0)], [], [((7, 0, 0, 0, 0), [], [])], [(210, 2), (210, 3), (210, 7), (211, 3), (211, 4), (211, 5), (211, 6), (211, 7), (212, 255), (213, 255), (214, 255), (216, 255), (217, 255), (218, 255)], 4)
set_option maxRecDepth 100000 in
theorem mjC_surex_7 : mjCtr (mjSW 0 240 mjWd_surex) 72 mjSm_surex_7 := aiOk_ctr mjUW_ok (env := [(64, mjSm_surex_0), (73, mjSm_surex_6)]) (mjEnvC mjC_surex_0 (mjEnvC mjC_surex_6 (fun e he => (by cases he)))) (pr := []) (cuts := []) (n := 13) (by decide +kernel)
def mjSm_surex_8 : MjSm := ([(0, 3, 3, 0, 0), (0, 0, 0, 0, 0)], [], [((0, 15, 15, 0, 0), [], [])], [], 1)
set_option maxRecDepth 100000 in
theorem mjC_surex_8 : mjCtr (mjSW 0 240 mjWd_surex) 48 mjSm_surex_8 := aiOk_ctr mjUW_ok (env := []) (fun e he => (by cases he)) (pr := []) (cuts := []) (n := 9) (by decide +kernel)
def mjSm_surex_9 : MjSm := ([(0, 0, 3, 0, 0), (0, 0, 2, 0, 0)], [], [((0, 0, 17, 0, 0), [], [])], [], 1)
set_option maxRecDepth 100000 in
theorem mjC_surex_9 : mjCtr (mjSW 0 240 mjWd_surex) 48 mjSm_surex_9 := aiOk_ctr mjUW_ok (env := []) (fun e he => (by cases he)) (pr := []) (cuts := []) (n := 9) (by decide +kernel)
def mjSm_surex_10 : MjSm := ([(3, 209, 209, 0, 0), (0, 0, 17, 0, 0), (0, 1, 1, 0, 0)], [], [((7, 0, 0, 0, 0), [], [])], [(212, 255)], 1)
set_option maxRecDepth 100000 in
theorem mjC_surex_10 : mjCtr (mjSW 0 240 mjWd_surex) 89 mjSm_surex_10 := aiOk_ctr mjUW_ok (env := []) (fun e he => (by cases he)) (pr := []) (cuts := []) (n := 18) (by decide +kernel)
def mjSm_surex_11 : MjSm := ([(3, 201, 201, 0, 0), (3, 214, 214, 0, 0)], [], [((0, -2147483648, 2147483647, 0, 0), [], [])], [], 1)
set_option maxRecDepth 100000 in
theorem mjC_surex_11 : mjCtr (mjSW 0 240 mjWd_surex) 77 mjSm_surex_11 := aiOk_ctr mjUW_ok (env := []) (fun e he => (by cases he)) (pr := []) (cuts := []) (n := 20) (by decide +kernel)
def mjSm_surex_12 : MjSm := ([(3, 193, 193, 0, 0), (0, 0, 3, 0, 0)], [], [((0, 1, 1, 0, 0), [], [])], [], 1)
set_option maxRecDepth 100000 in
theorem mjC_surex_12 : mjCtr (mjSW 0 240 mjWd_surex) 69 mjSm_surex_12 := aiOk_ctr mjUW_ok (env := []) (fun e he => (by cases he)) (pr := []) (cuts := []) (n := 15) (by decide +kernel)
def mjSm_surex_13 : MjSm := ([(0, 0, 3, 0, 0), (0, 1, 2, 0, 0)], [], [((0, 1, 17, 0, 0), [], [])], [], 1)
set_option maxRecDepth 100000 in
theorem mjC_surex_13 : mjCtr (mjSW 0 240 mjWd_surex) 48 mjSm_surex_13 := aiOk_ctr mjUW_ok (env := []) (fun e he => (by cases he)) (pr := []) (cuts := []) (n := 9) (by decide +kernel)
def mjSm_surex_14 : MjSm := ([(3, 209, 209, 0, 0), (0, 1, 17, 0, 0), (0, 1, 1, 0, 0)], [], [((7, 0, 0, 0, 0), [], [])], [(210, 9), (212, 255)], 1)
set_option maxRecDepth 100000 in
theorem mjC_surex_14 : mjCtr (mjSW 0 240 mjWd_surex) 92 mjSm_surex_14 := aiOk_ctr mjUW_ok (env := []) (fun e he => (by cases he)) (pr := []) (cuts := []) (n := 22) (by decide +kernel)
def mjSm_surex_15 : MjSm := ([(0, 0, 3, 0, 0), (0, 0, 1, 0, 0)], [], [((0, 0, 16, 0, 0), [], [])], [], 1)
set_option maxRecDepth 100000 in
theorem mjC_surex_15 : mjCtr (mjSW 0 240 mjWd_surex) 48 mjSm_surex_15 := aiOk_ctr mjUW_ok (env := []) (fun e he => (by cases he)) (pr := []) (cuts := []) (n := 9) (by decide +kernel)
def mjSm_surex_16 : MjSm := ([(3, 209, 209, 0, 0), (0, 0, 16, 0, 0), (0, 1, 1, 0, 0)], [], [((7, 0, 0, 0, 0), [], [])], [(210, 9), (212, 255)], 1)
set_option maxRecDepth 100000 in
theorem mjC_surex_16 : mjCtr (mjSW 0 240 mjWd_surex) 92 mjSm_surex_16 := aiOk_ctr mjUW_ok (env := []) (fun e he => (by cases he)) (pr := []) (cuts := []) (n := 22) (by decide +kernel)
def mjSm_surex_17 : MjSm := ([(3, 209, 209, 0, 0), (0, 0, 3, 0, 0), (0, 0, 1, 0, 0), (0, 1, 1, 0, 0)], [], [((7, 0, 0, 0, 0), [], [])], [(210, 8), (210, 9), (212, 255)], 2)
set_option maxRecDepth 100000 in
theorem mjC_surex_17 : mjCtr (mjSW 0 240 mjWd_surex) 91 mjSm_surex_17 := aiOk_ctr mjUW_ok (env := [(69, mjSm_surex_12), (48, mjSm_surex_15), (48, mjSm_surex_13), (92, mjSm_surex_16), (92, mjSm_surex_14)]) (mjEnvC mjC_surex_12 (mjEnvC mjC_surex_15 (mjEnvC mjC_surex_13 (mjEnvC mjC_surex_16 (mjEnvC mjC_surex_14 (fun e he => (by cases he))))))) (pr := []) (cuts := [(25, ([(3, 209, 209, 0, 0), (0, 0, 3, 0, 0), (0, 0, 1, 0, 0), (0, 1, 1, 0, 0), (0, 1, 3, 0, 0), (9, 0, 0, 0, 0)], [], []), [(0, 0, 49975), (1, 4, 2147483647), (0, 0, 60000), (0, 0, 0), (0, 0, 0), (0, 0, 0), (0, 0, 0), (0, 0, 0)])]) (n := 43) (by decide +kernel)
def mjSm_surex_18 : MjSm := ([(3, 209, 209, 0, 0), (0, 0, 3, 0, 0), (0, 0, 1, 0, 0)], [], [((7, 0, 0, 0, 0), [], [])], [(210, 7), (210, 8), (210, 9), (212, 255), (217, 255), (218, 255)], 3)
set_option maxRecDepth 100000 in
theorem mjC_surex_18 : mjCtr (mjSW 0 240 mjWd_surex) 90 mjSm_surex_18 := aiOk_ctr mjUW_ok (env := [(91, mjSm_surex_17)]) (mjEnvC mjC_surex_17 (fun e he => (by cases he))) (pr := []) (cuts := [(78, ([(3, 209, 209, 0, 0), (0, 0, 3, 0, 0), (0, 0, 1, 0, 0), (0, 0, 0, 0, 0), (0, 0, 0, 0, 0)], [], []), [(0, 0, 49922), (1, 4, 2147483647), (0, 0, 60000), (0, 0, 0), (0, 0, 0), (0, 0, 0), (0, 0, 0), (0, 0, 0)])]) (n := 47) (by decide +kernel)
def mjSm_surex_19 : MjSm := ([(3, 209, 209, 0, 0), (0, 0, 3, 0, 0), (0, 0, 2, 0, 0), (0, 0, 0, 0, 0)], [], [((0, 0, 0, 0, 0), [], []), ((0, 1, 1, 0, 0), [(2, 0, 1)], []), ((0, 0, 0, 0, 0), [(2, 0, 1)], []), ((0, 1, 1, 0, 0), [(2, 2, 2)], []), ((0, 0, 0, 0, 0), [(2, 2, 2)], [])], [(215, 255)], 2)
set_option maxRecDepth 100000 in
theorem mjC_surex_19 : mjCtr (mjSW 0 240 mjWd_surex) 76 mjSm_surex_19 := aiOk_ctr mjUW_ok (env := [(77, mjSm_surex_11), (48, mjSm_surex_9)]) (mjEnvC mjC_surex_11 (mjEnvC mjC_surex_9 (fun e he => (by cases he)))) (pr := [2]) (cuts := []) (n := 80) (by decide +kernel)
def mjSm_surex_20 : MjSm := ([(0, 0, 3, 0, 0), (0, 2, 2, 0, 0)], [], [((0, 2, 17, 0, 0), [], [])], [], 1)
set_option maxRecDepth 100000 in
theorem mjC_surex_20 : mjCtr (mjSW 0 240 mjWd_surex) 48 mjSm_surex_20 := aiOk_ctr mjUW_ok (env := []) (fun e he => (by cases he)) (pr := []) (cuts := []) (n := 9) (by decide +kernel)
def mjSm_surex_21 : MjSm := ([(3, 209, 209, 0, 0), (0, 2, 17, 0, 0), (0, 1, 1, 0, 0)], [], [((7, 0, 0, 0, 0), [], [])], [(210, 9), (212, 255)], 1)
set_option maxRecDepth 100000 in
theorem mjC_surex_21 : mjCtr (mjSW 0 240 mjWd_surex) 92 mjSm_surex_21 := aiOk_ctr mjUW_ok (env := []) (fun e he => (by cases he)) (pr := []) (cuts := []) (n := 22) (by decide +kernel)
def mjSm_surex_22 : MjSm := ([(3, 209, 209, 0, 0), (0, 0, 3, 0, 0), (0, 2, 2, 0, 0), (0, 1, 1, 0, 0)], [], [((7, 0, 0, 0, 0), [], [])], [(210, 8), (210, 9), (212, 255)], 2)
set_option maxRecDepth 100000 in
theorem mjC_surex_22 : mjCtr (mjSW 0 240 mjWd_surex) 91 mjSm_surex_22 := aiOk_ctr mjUW_ok (env := [(48, mjSm_surex_20), (92, mjSm_surex_21)]) (mjEnvC mjC_surex_20 (mjEnvC mjC_surex_21 (fun e he => (by cases he)))) (pr := []) (cuts := [(25, ([(3, 209, 209, 0, 0), (0, 0, 3, 0, 0), (0, 2, 2, 0, 0), (0, 1, 1, 0, 0), (0, 3, 3, 0, 0), (9, 0, 0, 0, 0)], [], []), [(0, 0, 49975), (1, 4, 2147483647), (0, 0, 60000), (0, 0, 0), (0, 0, 0), (0, 0, 0), (0, 0, 0), (0, 0, 0)])]) (n := 19) (by decide +kernel)
def mjSm_surex_23 : MjSm := ([(3, 209, 209, 0, 0), (0, 0, 3, 0, 0), (0, 2, 2, 0, 0)], [], [((7, 0, 0, 0, 0), [], [])], [(210, 7), (210, 8), (210, 9), (212, 255), (217, 255), (218, 255)], 3)
set_option maxRecDepth 100000 in
theorem mjC_surex_23 : mjCtr (mjSW 0 240 mjWd_surex) 90 mjSm_surex_23 := aiOk_ctr mjUW_ok (env := [(91, mjSm_surex_22)]) (mjEnvC mjC_surex_22 (fun e he => (by cases he))) (pr := []) (cuts := [(78, ([(3, 209, 209, 0, 0), (0, 0, 3, 0, 0), (0, 2, 2, 0, 0), (0, 0, 0, 0, 0), (0, 0, 0, 0, 0)], [], []), [(0, 0, 49922), (1, 4, 2147483647), (0, 0, 60000), (0, 0, 0), (0, 0, 0), (0, 0, 0), (0, 0, 0), (0, 0, 0)])]) (n := 47) (by decide +kernel)
def mjSm_surex_24 : MjSm := ([(3, 209, 209, 0, 0), (0, -1, -1, 0, 0)], [], [((0, 0, 0, 0, 0), [], [])], [], 1)
set_option maxRecDepth 100000 in
theorem mjC_surex_24 : mjCtr (mjSW 0 240 mjWd_surex) 94 mjSm_surex_24 := aiOk_ctr mjUW_ok (env := []) (fun e he => (by cases he)) (pr := []) (cuts := [(4, ([(3, 209, 209, 0, 0), (0, -1, -1, 0, 0), (0, 0, 0, 0, 0), (0, 0, 0, 0, 0)], [], []), [(0, 0, 49996), (1, 3, 2147483647), (0, 0, 60000), (0, 0, 0), (0, 0, 0), (0, 0, 0), (0, 0, 0), (0, 0, 0)])]) (n := 10) (by decide +kernel)
def mjSm_surex_25 : MjSm := ([(3, 209, 209, 0, 0)], [], [((0, 0, 0, 0, 0), [], [])], [], 2)
set_option maxRecDepth 100000 in
theorem mjC_surex_25 : mjCtr (mjSW 0 240 mjWd_surex) 93 mjSm_surex_25 := aiOk_ctr mjUW_ok (env := [(94, mjSm_surex_24)]) (mjEnvC mjC_surex_24 (fun e he => (by cases he))) (pr := []) (cuts := []) (n := 11) (by decide +kernel)
def mjSm_surex_26 : MjSm := ([(3, 209, 209, 0, 0), (0, 1, 1, 0, 0), (0, 0, 0, 0, 0)], [], [((7, 0, 0, 0, 0), [], [])], [(210, 7), (210, 8), (210, 9), (211, 5), (211, 6), (211, 7), (212, 255), (215, 255), (216, 255), (217, 255), (218, 255)], 4)
set_option maxRecDepth 100000 in
theorem mjC_surex_26 : mjCtr (mjSW 0 240 mjWd_surex) 88 mjSm_surex_26 := aiOk_ctr mjUW_ok (env := [(74, mjSm_surex_5), (93, mjSm_surex_25), (90, mjSm_surex_23), (90, mjSm_surex_18), (48, mjSm_surex_9), (76, mjSm_surex_19), (89, mjSm_surex_10)]) (mjEnvC mjC_surex_5 (mjEnvC mjC_surex_25 (mjEnvC mjC_surex_23 (mjEnvC mjC_surex_18 (mjEnvC mjC_surex_9 (mjEnvC mjC_surex_19 (mjEnvC mjC_surex_10 (fun e he => (by cases he))))))))) (pr := []) (cuts := [(2, ([(3, 209, 209, 0, 0), (0, 1, 1, 0, 0), (0, 0, 0, 0, 0), (0, 0, 4, 0, 0), (9, 0, 0, 0, 0)], [], []), [(0, 0, 49998), (1, 3, 2147483647), (0, 0, 60000), (0, 0, 0), (0, 0, 0), (0, 0, 0), (0, 0, 0), (0, 0, 0)]), (16, ([(3, 209, 209, 0, 0), (0, 1, 1, 0, 0), (0, 0, 0, 0, 0), (0, 0, 3, 0, 0), (0, 0, 3, 0, 0)], [], []), [(0, 0, 49998), (1, 3, 2147483647), (0, 0, 49984), (1, 4, 2147483647), (0, 0, 60000), (0, 0, 0), (0, 0, 0), (0, 0, 0)]), (140, ([(3, 209, 209, 0, 0), (0, 1, 1, 0, 0), (0, 0, 0, 0, 0), (0, 0, 3, 0, 0), (9, 0, 0, 0, 0)], [], []), [(0, 0, 49860), (1, 3, 2147483647), (0, 0, 60000), (0, 0, 0), (0, 0, 0), (0, 0, 0), (0, 0, 0), (0, 0, 0)]), (154, ([(3, 209, 209, 0, 0), (0, 1, 1, 0, 0), (0, 0, 0, 0, 0), (0, 0, 2, 0, 0), (0, 0, 4, 0, 0)], [], []), [(0, 0, 49860), (1, 3, 2147483647), (0, 0, 49846), (1, 4, 2147483647), (0, 0, 60000), (0, 0, 0), (0, 0, 0), (0, 0, 0)])]) (n := 26) (by decide +kernel)
def mjSm_surex_27 : MjSm := ([(3, 185, 185, 0, 0), (3, 209, 209, 0, 0), (3, 193, 193, 0, 0)], [(209, 8, (0, 0, 0, 0, 0))], [((7, 0, 0, 0, 0), [], [(185, 6, (0, 1, 1, 0, 0))])], [(186, 6), (192, 255), (210, 2), (210, 3), (210, 7), (210, 8), (210, 9), (211, 3), (211, 4), (211, 5), (211, 6), (211, 7), (212, 255), (213, 255), (214, 255), (215, 255), (216, 255), (217, 255), (218, 255)], 5)
set_option maxRecDepth 100000 in
theorem mjC_surex_27 : mjCtr (mjSW 0 240 mjWd_surex) 165 mjSm_surex_27 := aiOk_ctr mjUW_ok (env := [(48, mjSm_surex_8), (72, mjSm_surex_7), (88, mjSm_surex_26)]) (mjEnvC mjC_surex_8 (mjEnvC mjC_surex_7 (mjEnvC mjC_surex_26 (fun e he => (by cases he))))) (pr := []) (cuts := [(2, ([(3, 185, 185, 0, 0), (3, 209, 209, 0, 0), (3, 193, 193, 0, 0), (0, 0, 31, 0, 0), (9, 0, 0, 0, 0)], [], []), [(0, 0, 49998), (1, 3, 2147483647), (0, 0, 60000), (0, 0, 0), (0, 0, 0), (0, 0, 0), (0, 0, 0), (0, 0, 0)]), (62, ([(3, 185, 185, 0, 0), (3, 209, 209, 0, 0), (3, 193, 193, 0, 0), (0, 0, 30, 0, 0), (0, 1, 25, 0, 0)], [], []), [(0, 0, 49998), (1, 3, 2147483647), (0, 0, 49938), (1, 4, 2147483647), (0, 0, 60000), (0, 0, 0), (0, 0, 0), (0, 0, 0)])]) (n := 36) (by decide +kernel)
def mjSm_surex_28 : MjSm := ([(3, 185, 185, 0, 0), (0, 0, 0, 0, 0), (0, -2147483648, 2147483647, 0, 0)], [], [((0, 1, 1, 0, 0), [], [])], [], 1)
set_option maxRecDepth 100000 in
theorem mjC_surex_28 : mjCtr (mjSW 0 240 mjWd_surex) 166 mjSm_surex_28 := aiOk_ctr mjUW_ok (env := []) (fun e he => (by cases he)) (pr := []) (cuts := []) (n := 11) (by decide +kernel)
def mjSm_surex_29 : MjSm := ([(3, 185, 185, 0, 0), (0, 1, 1, 0, 0), (0, -2147483648, 2147483647, 0, 0)], [], [((0, 1, 1, 0, 0), [], [])], [], 1)
set_option maxRecDepth 100000 in
theorem mjC_surex_29 : mjCtr (mjSW 0 240 mjWd_surex) 166 mjSm_surex_29 := aiOk_ctr mjUW_ok (env := []) (fun e he => (by cases he)) (pr := []) (cuts := []) (n := 11) (by decide +kernel)
def mjSm_surex_30 : MjSm := ([(3, 185, 185, 0, 0), (0, 2, 2, 0, 0), (0, -2147483648, 2147483647, 0, 0)], [], [((0, 1, 1, 0, 0), [], [])], [], 1)
set_option maxRecDepth 100000 in
theorem mjC_surex_30 : mjCtr (mjSW 0 240 mjWd_surex) 166 mjSm_surex_30 := aiOk_ctr mjUW_ok (env := []) (fun e he => (by cases he)) (pr := []) (cuts := []) (n := 11) (by decide +kernel)
def mjSm_surex_31 : MjSm := ([(3, 185, 185, 0, 0), (0, 3, 3, 0, 0), (0, -2147483648, 2147483647, 0, 0)], [], [((0, 1, 1, 0, 0), [], [])], [], 1)
set_option maxRecDepth 100000 in
theorem mjC_surex_31 : mjCtr (mjSW 0 240 mjWd_surex) 166 mjSm_surex_31 := aiOk_ctr mjUW_ok (env := []) (fun e he => (by cases he)) (pr := []) (cuts := []) (n := 11) (by decide +kernel)
def mjSm_surex_32 : MjSm := ([(3, 185, 185, 0, 0), (0, 4, 4, 0, 0), (0, -2147483648, 2147483647, 0, 0)], [], [((0, 1, 1, 0, 0), [], [])], [], 1)
set_option maxRecDepth 100000 in
theorem mjC_surex_32 : mjCtr (mjSW 0 240 mjWd_surex) 166 mjSm_surex_32 := aiOk_ctr mjUW_ok (env := []) (fun e he => (by cases he)) (pr := []) (cuts := []) (n := 11) (by decide +kernel)
def mjSm_surex_33 : MjSm := ([(3, 185, 185, 0, 0), (0, 5, 5, 0, 0), (0, -2147483648, 2147483647, 0, 0)], [], [((0, 1, 1, 0, 0), [], [])], [], 1)
set_option maxRecDepth 100000 in
theorem mjC_surex_33 : mjCtr (mjSW 0 240 mjWd_surex) 166 mjSm_surex_33 := aiOk_ctr mjUW_ok (env := []) (fun e he => (by cases he)) (pr := []) (cuts := []) (n := 11) (by decide +kernel)
def mjSm_surex_34 : MjSm := ([(3, 185, 185, 0, 0), (0, 6, 6, 0, 0), (0, -2147483648, 2147483647, 0, 0)], [], [((0, 1, 1, 0, 0), [], [])], [], 1)
set_option maxRecDepth 100000 in
theorem mjC_surex_34 : mjCtr (mjSW 0 240 mjWd_surex) 166 mjSm_surex_34 := aiOk_ctr mjUW_ok (env := []) (fun e he => (by cases he)) (pr := []) (cuts := []) (n := 11) (by decide +kernel)
def mjSm_surex_35 : MjSm := ([(3, 185, 185, 0, 0), (0, 7, 7, 0, 0), (0, -2147483648, 2147483647, 0, 0)], [], [((0, 1, 1, 0, 0), [], [])], [], 1)
set_option maxRecDepth 100000 in
theorem mjC_surex_35 : mjCtr (mjSW 0 240 mjWd_surex) 166 mjSm_surex_35 := aiOk_ctr mjUW_ok (env := []) (fun e he => (by cases he)) (pr := []) (cuts := []) (n := 11) (by decide +kernel)
def mjSm_surex_36 : MjSm := ([(3, 185, 185, 0, 0), (0, 8, 8, 0, 0), (0, -2147483648, 2147483647, 0, 0)], [], [((0, 1, 1, 0, 0), [], [])], [], 1)
set_option maxRecDepth 100000 in
theorem mjC_surex_36 : mjCtr (mjSW 0 240 mjWd_surex) 166 mjSm_surex_36 := aiOk_ctr mjUW_ok (env := []) (fun e he => (by cases he)) (pr := []) (cuts := []) (n := 11) (by decide +kernel)
def mjSm_surex_37 : MjSm := ([(3, 185, 185, 0, 0), (0, 9, 9, 0, 0), (0, -2147483648, 2147483647, 0, 0)], [], [((0, 1, 1, 0, 0), [], [])], [], 1)
set_option maxRecDepth 100000 in
theorem mjC_surex_37 : mjCtr (mjSW 0 240 mjWd_surex) 166 mjSm_surex_37 := aiOk_ctr mjUW_ok (env := []) (fun e he => (by cases he)) (pr := []) (cuts := []) (n := 11) (by decide +kernel)
def mjSm_surex_38 : MjSm := ([(3, 185, 185, 0, 0), (0, 10, 10, 0, 0), (0, -2147483648, 2147483647, 0, 0)], [], [((0, 1, 1, 0, 0), [], [])], [], 1)
set_option maxRecDepth 100000 in
theorem mjC_surex_38 : mjCtr (mjSW 0 240 mjWd_surex) 166 mjSm_surex_38 := aiOk_ctr mjUW_ok (env := []) (fun e he => (by cases he)) (pr := []) (cuts := []) (n := 11) (by decide +kernel)
def mjSm_surex_39 : MjSm := ([(3, 185, 185, 0, 0), (0, 11, 11, 0, 0), (0, -2147483648, 2147483647, 0, 0)], [], [((0, 1, 1, 0, 0), [], [])], [], 1)
set_option maxRecDepth 100000 in
theorem mjC_surex_39 : mjCtr (mjSW 0 240 mjWd_surex) 166 mjSm_surex_39 := aiOk_ctr mjUW_ok (env := []) (fun e he => (by cases he)) (pr := []) (cuts := []) (n := 11) (by decide +kernel)
def mjSm_surex_40 : MjSm := ([(3, 185, 185, 0, 0), (0, 12, 12, 0, 0), (0, -2147483648, 2147483647, 0, 0)], [], [((0, 1, 1, 0, 0), [], [])], [], 1)
set_option maxRecDepth 100000 in
theorem mjC_surex_40 : mjCtr (mjSW 0 240 mjWd_surex) 166 mjSm_surex_40 := aiOk_ctr mjUW_ok (env := []) (fun e he => (by cases he)) (pr := []) (cuts := []) (n := 11) (by decide +kernel)
def mjSm_surex_41 : MjSm := ([(3, 185, 185, 0, 0), (0, 13, 13, 0, 0), (0, -2147483648, 2147483647, 0, 0)], [], [((0, 1, 1, 0, 0), [], [])], [], 1)
set_option maxRecDepth 100000 in
theorem mjC_surex_41 : mjCtr (mjSW 0 240 mjWd_surex) 166 mjSm_surex_41 := aiOk_ctr mjUW_ok (env := []) (fun e he => (by cases he)) (pr := []) (cuts := []) (n := 11) (by decide +kernel)
def mjSm_surex_42 : MjSm := ([(3, 185, 185, 0, 0), (0, 14, 14, 0, 0), (0, -2147483648, 2147483647, 0, 0)], [], [((0, 1, 1, 0, 0), [], [])], [], 1)
set_option maxRecDepth 100000 in
theorem mjC_surex_42 : mjCtr (mjSW 0 240 mjWd_surex) 166 mjSm_surex_42 := aiOk_ctr mjUW_ok (env := []) (fun e he => (by cases he)) (pr := []) (cuts := []) (n := 11) (by decide +kernel)
def mjSm_surex_43 : MjSm := ([(3, 185, 185, 0, 0), (0, 15, 15, 0, 0), (0, -2147483648, 2147483647, 0, 0)], [], [((0, 1, 1, 0, 0), [], [])], [], 1)
set_option maxRecDepth 100000 in
theorem mjC_surex_43 : mjCtr (mjSW 0 240 mjWd_surex) 166 mjSm_surex_43 := aiOk_ctr mjUW_ok (env := []) (fun e he => (by cases he)) (pr := []) (cuts := []) (n := 11) (by decide +kernel)
def mjSm_surex_44 : MjSm := ([(3, 185, 185, 0, 0), (0, 16, 16, 0, 0), (0, -2147483648, 2147483647, 0, 0)], [], [((0, 1, 1, 0, 0), [], [])], [], 1)
set_option maxRecDepth 100000 in
theorem mjC_surex_44 : mjCtr (mjSW 0 240 mjWd_surex) 166 mjSm_surex_44 := aiOk_ctr mjUW_ok (env := []) (fun e he => (by cases he)) (pr := []) (cuts := []) (n := 11) (by decide +kernel)
def mjSm_surex_45 : MjSm := ([(3, 185, 185, 0, 0), (0, 17, 17, 0, 0), (0, -2147483648, 2147483647, 0, 0)], [], [((0, 1, 1, 0, 0), [], [])], [], 1)
set_option maxRecDepth 100000 in
theorem mjC_surex_45 : mjCtr (mjSW 0 240 mjWd_surex) 166 mjSm_surex_45 := aiOk_ctr mjUW_ok (env := []) (fun e he => (by cases he)) (pr := []) (cuts := []) (n := 11) (by decide +kernel)
def mjSm_surex_46 : MjSm := ([(3, 185, 185, 0, 0), (0, 18, 18, 0, 0), (0, -2147483648, 2147483647, 0, 0)], [], [((0, 1, 1, 0, 0), [], [])], [], 1)
set_option maxRecDepth 100000 in
theorem mjC_surex_46 : mjCtr (mjSW 0 240 mjWd_surex) 166 mjSm_surex_46 := aiOk_ctr mjUW_ok (env := []) (fun e he => (by cases he)) (pr := []) (cuts := []) (n := 11) (by decide +kernel)
def mjSm_surex_47 : MjSm := ([(3, 185, 185, 0, 0), (0, 19, 19, 0, 0), (0, -2147483648, 2147483647, 0, 0)], [], [((0, 1, 1, 0, 0), [], [])], [], 1)
set_option maxRecDepth 100000 in
theorem mjC_surex_47 : mjCtr (mjSW 0 240 mjWd_surex) 166 mjSm_surex_47 := aiOk_ctr mjUW_ok (env := []) (fun e he => (by cases he)) (pr := []) (cuts := []) (n := 11) (by decide +kernel)
def mjSm_surex_48 : MjSm := ([(3, 185, 185, 0, 0), (0, 20, 20, 0, 0), (0, -2147483648, 2147483647, 0, 0)], [], [((0, 1, 1, 0, 0), [], [])], [], 1)
set_option maxRecDepth 100000 in
theorem mjC_surex_48 : mjCtr (mjSW 0 240 mjWd_surex) 166 mjSm_surex_48 := aiOk_ctr mjUW_ok (env := []) (fun e he => (by cases he)) (pr := []) (cuts := []) (n := 11) (by decide +kernel)
def mjSm_surex_49 : MjSm := ([(3, 185, 185, 0, 0), (0, 21, 21, 0, 0), (0, -2147483648, 2147483647, 0, 0)], [], [((0, 1, 1, 0, 0), [], [])], [], 1)
set_option maxRecDepth 100000 in
theorem mjC_surex_49 : mjCtr (mjSW 0 240 mjWd_surex) 166 mjSm_surex_49 := aiOk_ctr mjUW_ok (env := []) (fun e he => (by cases he)) (pr := []) (cuts := []) (n := 11) (by decide +kernel)
def mjSm_surex_50 : MjSm := ([(3, 185, 185, 0, 0), (0, 22, 22, 0, 0), (0, -2147483648, 2147483647, 0, 0)], [], [((0, 1, 1, 0, 0), [], [])], [], 1)
set_option maxRecDepth 100000 in
theorem mjC_surex_50 : mjCtr (mjSW 0 240 mjWd_surex) 166 mjSm_surex_50 := aiOk_ctr mjUW_ok (env := []) (fun e he => (by cases he)) (pr := []) (cuts := []) (n := 11) (by decide +kernel)
def mjSm_surex_51 : MjSm := ([(3, 185, 185, 0, 0), (0, 23, 23, 0, 0), (0, -2147483648, 2147483647, 0, 0)], [], [((0, 1, 1, 0, 0), [], [])], [], 1)
set_option maxRecDepth 100000 in
theorem mjC_surex_51 : mjCtr (mjSW 0 240 mjWd_surex) 166 mjSm_surex_51 := aiOk_ctr mjUW_ok (env := []) (fun e he => (by cases he)) (pr := []) (cuts := []) (n := 11) (by decide +kernel)
def mjSm_surex_52 : MjSm := ([(3, 185, 185, 0, 0), (0, 24, 24, 0, 0), (0, -2147483648, 2147483647, 0, 0)], [], [((0, 1, 1, 0, 0), [], [])], [], 1)
set_option maxRecDepth 100000 in
theorem mjC_surex_52 : mjCtr (mjSW 0 240 mjWd_surex) 166 mjSm_surex_52 := aiOk_ctr mjUW_ok (env := []) (fun e he => (by cases he)) (pr := []) (cuts := []) (n := 11) (by decide +kernel)
def mjSm_surex_53 : MjSm := ([(3, 185, 185, 0, 0), (0, 25, 25, 0, 0), (0, -2147483648, 2147483647, 0, 0)], [], [((0, 1, 1, 0, 0), [], [])], [], 1)
set_option maxRecDepth 100000 in
theorem mjC_surex_53 : mjCtr (mjSW 0 240 mjWd_surex) 166 mjSm_surex_53 := aiOk_ctr mjUW_ok (env := []) (fun e he => (by cases he)) (pr := []) (cuts := []) (n := 11) (by decide +kernel)
def mjSm_surex_54 : MjSm := ([(3, 185, 185, 0, 0), (0, 26, 26, 0, 0), (0, -2147483648, 2147483647, 0, 0)], [], [((0, 1, 1, 0, 0), [], [])], [], 1)
set_option maxRecDepth 100000 in
theorem mjC_surex_54 : mjCtr (mjSW 0 240 mjWd_surex) 166 mjSm_surex_54 := aiOk_ctr mjUW_ok (env := []) (fun e he => (by cases he)) (pr := []) (cuts := []) (n := 11) (by decide +kernel)
def mjSm_surex_55 : MjSm := ([(3, 185, 185, 0, 0), (0, 27, 27, 0, 0), (0, -2147483648, 2147483647, 0, 0)], [], [((0, 1, 1, 0, 0), [], [])], [], 1)
set_option maxRecDepth 100000 in
theorem mjC_surex_55 : mjCtr (mjSW 0 240 mjWd_surex) 166 mjSm_surex_55 := aiOk_ctr mjUW_ok (env := []) (fun e he => (by cases he)) (pr := []) (cuts := []) (n := 11) (by decide +kernel)
def mjSm_surex_56 : MjSm := ([(3, 185, 185, 0, 0), (0, 28, 28, 0, 0), (0, -2147483648, 2147483647, 0, 0)], [], [((0, 1, 1, 0, 0), [], [])], [], 1)
set_option maxRecDepth 100000 in
theorem mjC_surex_56 : mjCtr (mjSW 0 240 mjWd_surex) 166 mjSm_surex_56 := aiOk_ctr mjUW_ok (env := []) (fun e he => (by cases he)) (pr := []) (cuts := []) (n := 11) (by decide +kernel)
def mjSm_surex_57 : MjSm := ([(3, 185, 185, 0, 0), (0, 29, 29, 0, 0), (0, -2147483648, 2147483647, 0, 0)], [], [((0, 1, 1, 0, 0), [], [])], [], 1)
set_option maxRecDepth 100000 in
theorem mjC_surex_57 : mjCtr (mjSW 0 240 mjWd_surex) 166 mjSm_surex_57 := aiOk_ctr mjUW_ok (env := []) (fun e he => (by cases he)) (pr := []) (cuts := []) (n := 11) (by decide +kernel)
def mjSm_surex_58 : MjSm := ([(3, 185, 185, 0, 0), (0, 30, 30, 0, 0), (0, -2147483648, 2147483647, 0, 0)], [], [((0, 1, 1, 0, 0), [], [])], [], 1)
set_option maxRecDepth 100000 in
theorem mjC_surex_58 : mjCtr (mjSW 0 240 mjWd_surex) 166 mjSm_surex_58 := aiOk_ctr mjUW_ok (env := []) (fun e he => (by cases he)) (pr := []) (cuts := []) (n := 11) (by decide +kernel)
def mjSm_surex_59 : MjSm := ([(0, 2147483647, 2147483647, 0, 0)], [], [((0, 31, 31, 0, 0), [], [])], [], 1)
set_option maxRecDepth 100000 in
theorem mjC_surex_59 : mjCtr (mjSW 0 240 mjWd_surex) 99 mjSm_surex_59 := aiOk_ctr mjUW_ok (env := []) (fun e he => (by cases he)) (pr := []) (cuts := []) (n := 45) (by decide +kernel)
def mjSm_surex_60 : MjSm := ([(3, 185, 185, 0, 0), (3, 209, 209, 0, 0), (3, 193, 193, 0, 0), (0, -2147483648, 2147483647, 0, 0)], [(185, 6, (0, 0, 0, 0, 0)), (185, 9, (0, 0, 0, 0, 0)), (209, 8, (0, 0, 0, 0, 0))], [((0, 31, 31, 0, 0), [], [(185, 6, (0, 1, 1, 0, 0)), (185, 9, (0, 2147483647, 2147483647, 0, 0))])], [(186, 6), (186, 9), (192, 255), (210, 2), (210, 3), (210, 7), (210, 8), (210, 9), (211, 3), (211, 4), (211, 5), (211, 6), (211, 7), (212, 255), (213, 255), (214, 255), (215, 255), (216, 255), (217, 255), (218, 255)], 6)
set_option maxRecDepth 100000 in
theorem mjC_surex_60 : mjCtr (mjSW 0 240 mjWd_surex) 164 mjSm_surex_60 := aiOk_ctr mjUW_ok (env := [(165, mjSm_surex_27), (99, mjSm_surex_59), (166, mjSm_surex_51), (166, mjSm_surex_35), (166, mjSm_surex_34), (166, mjSm_surex_48), (166, mjSm_surex_28), (166, mjSm_surex_32), (166, mjSm_surex_30), (166, mjSm_surex_44), (166, mjSm_surex_40), (166, mjSm_surex_38), (166, mjSm_surex_43), (166, mjSm_surex_49), (166, mjSm_surex_31), (166, mjSm_surex_52), (166, mjSm_surex_36), (166, mjSm_surex_33), (166, mjSm_surex_46), (166, mjSm_surex_47), (166, mjSm_surex_41), (166, mjSm_surex_57), (166, mjSm_surex_29), (166, mjSm_surex_56), (166, mjSm_surex_55), (166, mjSm_surex_53), (166, mjSm_surex_54), (166, mjSm_surex_50), (166, mjSm_surex_58), (166, mjSm_surex_37), (166, mjSm_surex_39), (166, mjSm_surex_45), (166, mjSm_surex_42)]) (mjEnvC mjC_surex_27 (mjEnvC mjC_surex_59 (mjEnvC mjC_surex_51 (mjEnvC mjC_surex_35 (mjEnvC mjC_surex_34 (mjEnvC mjC_surex_48 (mjEnvC mjC_surex_28 (mjEnvC mjC_surex_32 (mjEnvC mjC_surex_30 (mjEnvC mjC_surex_44 (mjEnvC mjC_surex_40 (mjEnvC mjC_surex_38 (mjEnvC mjC_surex_43 (mjEnvC mjC_surex_49 (mjEnvC mjC_surex_31 (mjEnvC mjC_surex_52 (mjEnvC mjC_surex_36 (mjEnvC mjC_surex_33 (mjEnvC mjC_surex_46 (mjEnvC mjC_surex_47 (mjEnvC mjC_surex_41 (mjEnvC mjC_surex_57 (mjEnvC mjC_surex_29 (mjEnvC mjC_surex_56 (mjEnvC mjC_surex_55 (mjEnvC mjC_surex_53 (mjEnvC mjC_surex_54 (mjEnvC mjC_surex_50 (mjEnvC mjC_surex_58 (mjEnvC mjC_surex_37 (mjEnvC mjC_surex_39 (mjEnvC mjC_surex_45 (mjEnvC mjC_surex_42 (fun e he => (by cases he))))))))))))))))))))))))))))))))))) (pr := []) (cuts := []) (n := 580) (by decide +kernel)
def mjSm_surex_61 : MjSm := ([(0, 2147483647, 2147483647, 0, 0)], [], [((0, 0, 0, 0, 0), [], [])], [], 1)
set_option maxRecDepth 100000 in
theorem mjC_surex_61 : mjCtr (mjSW 0 240 mjWd_surex) 151 mjSm_surex_61 := aiOk_ctr mjUW_ok (env := []) (fun e he => (by cases he)) (pr := []) (cuts := []) (n := 16) (by decide +kernel)
def mjSm_surex_62 : MjSm := ([(0, 2147483647, 2147483647, 0, 0)], [], [((0, 30, 30, 0, 0), [], [])], [], 1)
set_option maxRecDepth 100000 in
theorem mjC_surex_62 : mjCtr (mjSW 0 240 mjWd_surex) 168 mjSm_surex_62 := aiOk_ctr mjUW_ok (env := []) (fun e he => (by cases he)) (pr := []) (cuts := []) (n := 25) (by decide +kernel)
def mjSm_surex_63 : MjSm := ([(3, 0, 0, 0, 0), (0, -2147483648, 2147483647, 0, 0), (0, -2147483648, 2147483647, 0, 0)], [(185, 6, (0, 0, 0, 0, 0)), (185, 9, (0, 0, 0, 0, 0)), (209, 8, (0, 0, 0, 0, 0))], [((0, 0, 0, 0, 0), [(1, 0, 0)], [(185, 6, (0, 1, 1, 0, 0)), (185, 9, (0, 2147483647, 2147483647, 0, 0))]), ((0, 30, 30, 0, 0), [(1, 1, 1)], [(185, 6, (0, 1, 1, 0, 0)), (185, 9, (0, 2147483647, 2147483647, 0, 0))]), ((0, -1, -1, 0, 0), [(1, 2, 2147483647)], [(185, 6, (0, 0, 0, 0, 0)), (185, 9, (0, 0, 0, 0, 0)), (209, 8, (0, 0, 0, 0, 0))]), ((0, -1, -1, 0, 0), [(1, -2147483648, -1)], [(185, 6, (0, 0, 0, 0, 0)), (185, 9, (0, 0, 0, 0, 0)), (209, 8, (0, 0, 0, 0, 0))])], [(186, 6), (186, 9), (192, 255), (210, 2), (210, 3), (210, 7), (210, 8), (210, 9), (211, 3), (211, 4), (211, 5), (211, 6), (211, 7), (212, 255), (213, 255), (214, 255), (215, 255), (216, 255), (217, 255), (218, 255)], 7)
set_option maxRecDepth 100000 in
theorem mjC_surex_63 : mjCtr (mjSW 0 240 mjWd_surex) 167 mjSm_surex_63 := aiOk_ctr mjUW_ok (env := [(164, mjSm_surex_60), (151, mjSm_surex_61), (168, mjSm_surex_62)]) (mjEnvC mjC_surex_60 (mjEnvC mjC_surex_61 (mjEnvC mjC_surex_62 (fun e he => (by cases he))))) (pr := [1]) (cuts := []) (n := 25) (by decide +kernel)
def mjWd_surem : MjWd := [(240, 49, (0, 0, 3)), (240, 50, (0, 0, 2)), (240, 56, (0, -2147483648, 2147483647)), (240, 57, (0, 0, 3)), (240, 58, (0, -2147483648, 2147483647)), (274, 0, (0, 0, 99)), (274, 1, (0, 0, 99)), (274, 2, (0, 0, 99)), (274, 3, (0, 0, 99)), (274, 4, (0, 0, 99)), (274, 5, (0, 0, 99)), (274, 6, (0, 0, 99)), (274, 7, (0, 0, 99)), (274, 8, (0, 0, 99)), (274, 9, (0, 0, 99)), (274, 10, (0, 0, 99)), (274, 11, (0, 0, 99)), (274, 12, (0, 0, 99)), (274, 13, (0, 0, 99)), (274, 14, (0, 0, 99)), (274, 15, (0, 0, 99)), (274, 16, (0, 0, 99)), (274, 17, (0, 0, 99)), (274, 68, (0, -2147483648, 2147483647)), (275, 0, (0, 0, 99)), (275, 1, (0, 0, 99)), (275, 2, (0, 0, 99)), (275, 3, (0, 0, 99)), (275, 4, (0, 0, 99)), (275, 5, (0, 0, 99)), (275, 6, (0, 0, 99)), (275, 7, (0, 0, 99)), (275, 8, (0, 0, 99)), (275, 9, (0, 0, 99)), (275, 10, (0, 0, 99)), (275, 11, (0, 0, 99)), (275, 12, (0, 0, 99)), (275, 13, (0, 0, 99)), (275, 14, (0, 0, 99)), (275, 15, (0, 0, 99)), (275, 16, (0, 0, 99)), (275, 17, (0, 0, 99)), (275, 68, (0, -2147483648, 2147483647)), (276, 255, (0, -2147483648, 2147483647))]
theorem mjWd_surem_ok : mjWdB mjWd_surem = true := by decide +kernel
def mjSm_surem_0 : MjSm := ([(0, -2147483648, 2147483647, 0, 0), (0, 0, 0, 0, 0), (0, 1, 1, 0, 0)], [], [((0, 1, 1, 0, 0), [(0, 0, 1)], []), ((0, 0, 0, 0, 0), [(0, 2, 2147483647)], []), ((0, 0, 0, 0, 0), [(0, -2147483648, -1)], [])], [], 1)
set_option maxRecDepth 100000 in
theorem mjC_surem_0 : mjCtr (mjSW 240 290 mjWd_surem) 221 mjSm_surem_0 := aiOk_ctr mjUW_ok (env := []) (fun e he => (by cases he)) (pr := [0]) (cuts := []) (n := 12) (by decide +kernel)
def mjSm_surem_1 : MjSm := ([(3, 240, 240, 0, 0)], [], [((7, 0, 0, 0, 0), [], [])], [(276, 255)], 1)
set_option maxRecDepth 100000 in
theorem mjC_surem_1 : mjCtr (mjSW 240 290 mjWd_surem) 266 mjSm_surem_1 := aiOk_ctr mjUW_ok (env := []) (fun e he => (by cases he)) (pr := []) (cuts := []) (n := 919) (by decide +kernel)
def mjSm_surem_2 : MjSm := ([(3, 240, 240, 0, 0)], [], [((0, 0, 0, 0, 0), [], [])], [], 1)
set_option maxRecDepth 100000 in
theorem mjC_surem_2 : mjCtr (mjSW 240 290 mjWd_surem) 179 mjSm_surem_2 := aiOk_ctr mjUW_ok (env := []) (fun e he => (by cases he)) (pr := []) (cuts := []) (n := 9) (by decide +kernel)
def mjSm_surem_3 : MjSm := ([(3, 240, 240, 0, 0)], [], [((7, 0, 0, 0, 0), [], [])], [(275, 255)], 2)
set_option maxRecDepth 100000 in
theorem mjC_surem_3 : mjCtr (mjSW 240 290 mjWd_surem) 178 mjSm_surem_3 := aiOk_ctr mjUW_ok (env := [(179, mjSm_surem_2)]) (mjEnvC mjC_surem_2 (fun e he => (by cases he))) (pr := []) (cuts := [(2, ([(3, 240, 240, 0, 0), (0, 0, 70, 0, 0)], [], []), [(0, 0, 49998), (1, 1, 2147483647), (0, 0, 60000), (0, 0, 0), (0, 0, 0), (0, 0, 0), (0, 0, 0), (0, 0, 0)]), (23, ([(3, 240, 240, 0, 0), (0, 0, 30, 0, 0)], [], []), [(0, 0, 49977), (1, 1, 2147483647), (0, 0, 60000), (0, 0, 0), (0, 0, 0), (0, 0, 0), (0, 0, 0), (0, 0, 0)]), (82, ([(3, 240, 240, 0, 0), (0, 0, 0, 0, 0)], [], []), [(0, 0, 49918), (1, 1, 2147483647), (0, 0, 60000), (0, 0, 0), (0, 0, 0), (0, 0, 0), (0, 0, 0), (0, 0, 0)])]) (n := 38) (by decide +kernel)
def mjSm_surem_4 : MjSm := ([(3, 240, 240, 0, 0)], [], [((0, 4, 4, 0, 0), [], [])], [], 1)
set_option maxRecDepth 100000 in
theorem mjC_surem_4 : mjCtr (mjSW 240 290 mjWd_surem) 220 mjSm_surem_4 := aiOk_ctr mjUW_ok (env := []) (fun e he => (by cases he)) (pr := []) (cuts := []) (n := 9) (by decide +kernel)
def mjSm_surem_5 : MjSm := ([(3, 240, 240, 0, 0)], [], [((0, 3, 3, 0, 0), [], [])], [], 1)
set_option maxRecDepth 100000 in
theorem mjC_surem_5 : mjCtr (mjSW 240 290 mjWd_surem) 222 mjSm_surem_5 := aiOk_ctr mjUW_ok (env := []) (fun e he => (by cases he)) (pr := []) (cuts := []) (n := 9) (by decide +kernel)
def mjSm_surem_6 : MjSm := ([(0, 1, 100, 0, 0), (0, 0, 0, 0, 0), (0, 99, 99, 0, 0)], [], [((0, 99, 99, 0, 0), [(0, 100, 100)], []), ((0, 1, 99, 0, 0), [(0, 1, 99)], [])], [], 1)
set_option maxRecDepth 100000 in
theorem mjC_surem_6 : mjCtr (mjSW 240 290 mjWd_surem) 249 mjSm_surem_6 := aiOk_ctr mjUW_ok (env := []) (fun e he => (by cases he)) (pr := [0]) (cuts := []) (n := 12) (by decide +kernel)
def mjSm_surem_7 : MjSm := ([(3, 240, 240, 0, 0), (0, 0, 3, 0, 0), (0, 0, 2, 0, 0)], [], [((0, 0, 99, 0, 0), [], [])], [], 1)
set_option maxRecDepth 100000 in
theorem mjC_surem_7 : mjCtr (mjSW 240 290 mjWd_surem) 223 mjSm_surem_7 := aiOk_ctr mjUW_ok (env := []) (fun e he => (by cases he)) (pr := []) (cuts := []) (n := 14) (by decide +kernel)
def mjSm_surem_8 : MjSm := ([(3, 240, 240, 0, 0), (0, 0, 3, 0, 0), (0, 0, 2, 0, 0), (0, 1, 1, 0, 0)], [], [((7, 0, 0, 0, 0), [], [])], [(275, 255)], 2)
set_option maxRecDepth 100000 in
theorem mjC_surem_8 : mjCtr (mjSW 240 290 mjWd_surem) 248 mjSm_surem_8 := aiOk_ctr mjUW_ok (env := [(223, mjSm_surem_7), (249, mjSm_surem_6)]) (mjEnvC mjC_surem_7 (mjEnvC mjC_surem_6 (fun e he => (by cases he)))) (pr := []) (cuts := []) (n := 23) (by decide +kernel)
def mjSm_surem_9 : MjSm := ([(0, 0, 0, 0, 0), (0, 2, 2, 0, 0)], [], [((0, 0, 0, 0, 0), [], [])], [], 1)
set_option maxRecDepth 100000 in
theorem mjC_surem_9 : mjCtr (mjSW 240 290 mjWd_surem) 191 mjSm_surem_9 := aiOk_ctr mjUW_ok (env := []) (fun e he => (by cases he)) (pr := []) (cuts := []) (n := 12) (by decide +kernel)
def mjSm_surem_10 : MjSm := ([(3, 240, 240, 0, 0), (0, 0, 3, 0, 0)], [], [((0, 0, 0, 0, 0), [], [])], [], 1)
set_option maxRecDepth 100000 in
theorem mjC_surem_10 : mjCtr (mjSW 240 290 mjWd_surem) 226 mjSm_surem_10 := aiOk_ctr mjUW_ok (env := []) (fun e he => (by cases he)) (pr := []) (cuts := [(4, ([(3, 240, 240, 0, 0), (0, 0, 3, 0, 0), (0, 0, 0, 0, 0), (0, 0, 0, 0, 0)], [], []), [(0, 0, 49996), (1, 3, 2147483647), (0, 0, 60000), (0, 0, 0), (0, 0, 0), (0, 0, 0), (0, 0, 0), (0, 0, 0)])]) (n := 12) (by decide +kernel)
def mjSm_surem_11 : MjSm := ([(0, 0, 3, 0, 0), (0, 0, 0, 0, 0), (0, 3, 3, 0, 0)], [], [((0, 1, 1, 0, 0), [], [])], [], 1)
set_option maxRecDepth 100000 in
theorem mjC_surem_11 : mjCtr (mjSW 240 290 mjWd_surem) 221 mjSm_surem_11 := aiOk_ctr mjUW_ok (env := []) (fun e he => (by cases he)) (pr := []) (cuts := []) (n := 12) (by decide +kernel)
def mjSm_surem_12 : MjSm := ([(3, 240, 240, 0, 0), (0, 0, 3, 0, 0)], [], [((0, 1, 1, 0, 0), [], [])], [], 2)
set_option maxRecDepth 100000 in
theorem mjC_surem_12 : mjCtr (mjSW 240 290 mjWd_surem) 219 mjSm_surem_12 := aiOk_ctr mjUW_ok (env := [(220, mjSm_surem_4), (221, mjSm_surem_11)]) (mjEnvC mjC_surem_4 (mjEnvC mjC_surem_11 (fun e he => (by cases he)))) (pr := []) (cuts := []) (n := 11) (by decide +kernel)
def mjSm_surem_13 : MjSm := ([(3, 240, 240, 0, 0), (0, 0, 3, 0, 0), (0, 1, 2, 0, 0)], [], [((0, 0, 0, 0, 0), [], [])], [], 1)
set_option maxRecDepth 100000 in
theorem mjC_surem_13 : mjCtr (mjSW 240 290 mjWd_surem) 224 mjSm_surem_13 := aiOk_ctr mjUW_ok (env := []) (fun e he => (by cases he)) (pr := []) (cuts := []) (n := 14) (by decide +kernel)
def mjSm_surem_14 : MjSm := ([(3, 240, 240, 0, 0), (0, 0, 3, 0, 0), (0, 1, 2, 0, 0)], [], [((0, 0, 99, 0, 0), [], [])], [], 1)
set_option maxRecDepth 100000 in
theorem mjC_surem_14 : mjCtr (mjSW 240 290 mjWd_surem) 223 mjSm_surem_14 := aiOk_ctr mjUW_ok (env := []) (fun e he => (by cases he)) (pr := []) (cuts := []) (n := 14) (by decide +kernel)
def mjSm_surem_15 : MjSm := ([(3, 240, 240, 0, 0), (0, 0, 3, 0, 0), (0, 0, 2, 0, 0), (0, 0, 0, 0, 0)], [], [((0, 0, 0, 0, 0), [], []), ((0, 1, 1, 0, 0), [], [])], [(241, 49), (241, 50), (241, 51)], 2)
set_option maxRecDepth 100000 in
theorem mjC_surem_15 : mjCtr (mjSW 240 290 mjWd_surem) 225 mjSm_surem_15 := aiOk_ctr mjUW_ok (env := [(191, mjSm_surem_9), (226, mjSm_surem_10), (223, mjSm_surem_7)]) (mjEnvC mjC_surem_9 (mjEnvC mjC_surem_10 (mjEnvC mjC_surem_7 (fun e he => (by cases he))))) (pr := []) (cuts := []) (n := 52) (by decide +kernel)
def mjSm_surem_16 : MjSm := ([(3, 240, 240, 0, 0), (0, 0, 3, 0, 0), (0, 0, 2, 0, 0), (0, 1, 1, 0, 0)], [], [((7, 0, 0, 0, 0), [], [])], [(241, 57), (241, 58), (275, 255)], 3)
set_option maxRecDepth 100000 in
theorem mjC_surem_16 : mjCtr (mjSW 240 290 mjWd_surem) 241 mjSm_surem_16 := aiOk_ctr mjUW_ok (env := [(222, mjSm_surem_5), (219, mjSm_surem_12), (223, mjSm_surem_14), (224, mjSm_surem_13), (223, mjSm_surem_7)]) (mjEnvC mjC_surem_5 (mjEnvC mjC_surem_12 (mjEnvC mjC_surem_14 (mjEnvC mjC_surem_13 (mjEnvC mjC_surem_7 (fun e he => (by cases he))))))) (pr := []) (cuts := [(37, ([(3, 240, 240, 0, 0), (0, 0, 3, 0, 0), (0, 0, 2, 0, 0), (0, 1, 1, 0, 0), (0, 1, 3, 0, 0), (9, 0, 0, 0, 0)], [], []), [(0, 0, 49963), (1, 4, 2147483647), (0, 0, 60000), (0, 0, 0), (0, 0, 0), (0, 0, 0), (0, 0, 0), (0, 0, 0)])]) (n := 59) (by decide +kernel)
def mjSm_surem_17 : MjSm := ([(3, 240, 240, 0, 0), (0, 0, 3, 0, 0), (0, 0, 2, 0, 0), (0, 0, 0, 0, 0)], [], [((7, 0, 0, 0, 0), [], [])], [(241, 49), (241, 50), (241, 51), (241, 56), (241, 57), (241, 58), (275, 255), (277, 255)], 4)
set_option maxRecDepth 100000 in
theorem mjC_surem_17 : mjCtr (mjSW 240 290 mjWd_surem) 250 mjSm_surem_17 := aiOk_ctr mjUW_ok (env := [(179, mjSm_surem_2), (241, mjSm_surem_16), (225, mjSm_surem_15)]) (mjEnvC mjC_surem_2 (mjEnvC mjC_surem_16 (mjEnvC mjC_surem_15 (fun e he => (by cases he))))) (pr := []) (cuts := [(55, ([(3, 240, 240, 0, 0), (0, 0, 3, 0, 0), (0, 0, 2, 0, 0), (0, 0, 0, 0, 0), (0, 0, 0, 0, 0)], [], []), [(0, 0, 49945), (1, 4, 2147483647), (0, 0, 60000), (0, 0, 0), (0, 0, 0), (0, 0, 0), (0, 0, 0), (0, 0, 0)])]) (n := 35) (by decide +kernel)
def mjSm_surem_18 : MjSm := ([(3, 240, 240, 0, 0)], [], [((0, 0, 0, 0, 0), [], [])], [], 2)
set_option maxRecDepth 100000 in
theorem mjC_surem_18 : mjCtr (mjSW 240 290 mjWd_surem) 251 mjSm_surem_18 := aiOk_ctr mjUW_ok (env := [(179, mjSm_surem_2)]) (mjEnvC mjC_surem_2 (fun e he => (by cases he))) (pr := []) (cuts := [(4, ([(3, 240, 240, 0, 0), (0, 0, 0, 0, 0), (0, 0, 0, 0, 0)], [], []), [(0, 0, 49996), (1, 2, 2147483647), (0, 0, 60000), (0, 0, 0), (0, 0, 0), (0, 0, 0), (0, 0, 0), (0, 0, 0)])]) (n := 9) (by decide +kernel)
def mjSm_surem_19 : MjSm := ([(3, 240, 240, 0, 0), (0, 0, 0, 0, 0)], [], [((7, 0, 0, 0, 0), [], [])], [(241, 49), (241, 50), (241, 51), (241, 56), (241, 57), (241, 58), (275, 255), (277, 255)], 5)
set_option maxRecDepth 100000 in
theorem mjC_surem_19 : mjCtr (mjSW 240 290 mjWd_surem) 247 mjSm_surem_19 := aiOk_ctr mjUW_ok (env := [(220, mjSm_surem_4), (251, mjSm_surem_18), (222, mjSm_surem_5), (250, mjSm_surem_17), (248, mjSm_surem_8)]) (mjEnvC mjC_surem_4 (mjEnvC mjC_surem_18 (mjEnvC mjC_surem_5 (mjEnvC mjC_surem_17 (mjEnvC mjC_surem_8 (fun e he => (by cases he))))))) (pr := []) (cuts := [(7, ([(3, 240, 240, 0, 0), (0, 0, 0, 0, 0), (0, 0, 6, 0, 0), (9, 0, 0, 0, 0)], [], [(240, 56, (0, 0, 0, 0, 0))]), [(0, 0, 49993), (1, 2, 2147483647), (0, 0, 60000), (0, 0, 0), (0, 0, 0), (0, 0, 0), (0, 0, 0), (0, 0, 0)]), (52, ([(3, 240, 240, 0, 0), (0, 0, 0, 0, 0), (0, 1, 1, 0, 0), (0, 0, 12, 0, 0)], [], [(240, 56, (0, 0, 0, 0, 0))]), [(0, 0, 49948), (1, 3, 2147483647), (0, 0, 60000), (0, 0, 0), (0, 0, 0), (0, 0, 0), (0, 0, 0), (0, 0, 0)]), (159, ([(3, 240, 240, 0, 0), (0, 0, 0, 0, 0), (0, 1, 1, 0, 0), (0, 0, 12, 0, 0)], [], []), [(0, 0, 49841), (1, 3, 2147483647), (0, 0, 60000), (0, 0, 0), (0, 0, 0), (0, 0, 0), (0, 0, 0), (0, 0, 0)])]) (n := 28) (by decide +kernel)
def mjSm_surem_20 : MjSm := ([(3, 240, 240, 0, 0)], [], [((7, 0, 0, 0, 0), [], [])], [(275, 255)], 1)
set_option maxRecDepth 100000 in
theorem mjC_surem_20 : mjCtr (mjSW 240 290 mjWd_surem) 267 mjSm_surem_20 := aiOk_ctr mjUW_ok (env := []) (fun e he => (by cases he)) (pr := []) (cuts := []) (n := 919) (by decide +kernel)
def mjSm_surem_21 : MjSm := ([(3, 240, 240, 0, 0)], [(240, 57, (0, 0, 0, 0, 0))], [((7, 0, 0, 0, 0), [], [])], [(241, 49), (241, 50), (241, 51), (241, 56), (241, 57), (241, 58), (275, 255), (276, 255), (277, 255), (282, 255)], 6)
set_option maxRecDepth 100000 in
theorem mjC_surem_21 : mjCtr (mjSW 240 290 mjWd_surem) 302 mjSm_surem_21 := aiOk_ctr mjUW_ok (env := [(267, mjSm_surem_20), (266, mjSm_surem_1), (220, mjSm_surem_4), (247, mjSm_surem_19), (178, mjSm_surem_3)]) (mjEnvC mjC_surem_20 (mjEnvC mjC_surem_1 (mjEnvC mjC_surem_4 (mjEnvC mjC_surem_19 (mjEnvC mjC_surem_3 (fun e he => (by cases he))))))) (pr := []) (cuts := [(6, ([(3, 240, 240, 0, 0), (0, 0, 31, 0, 0), (9, 0, 0, 0, 0)], [], []), [(0, 0, 49994), (1, 1, 2147483647), (0, 0, 60000), (0, 0, 0), (0, 0, 0), (0, 0, 0), (0, 0, 0), (0, 0, 0)]), (34, ([(3, 240, 240, 0, 0), (0, 0, 30, 0, 0), (0, 0, 25, 0, 0)], [], []), [(0, 0, 49994), (1, 1, 2147483647), (0, 0, 49966), (1, 2, 2147483647), (0, 0, 60000), (0, 0, 0), (0, 0, 0), (0, 0, 0)])]) (n := 23) (by decide +kernel)
def mjSm_surem_22 : MjSm := ([(3, 240, 240, 0, 0), (0, 0, 0, 0, 0), (0, -2147483648, 2147483647, 0, 0)], [], [((0, 1, 1, 0, 0), [], [])], [], 1)
set_option maxRecDepth 100000 in
theorem mjC_surem_22 : mjCtr (mjSW 240 290 mjWd_surem) 303 mjSm_surem_22 := aiOk_ctr mjUW_ok (env := []) (fun e he => (by cases he)) (pr := []) (cuts := []) (n := 11) (by decide +kernel)
def mjSm_surem_23 : MjSm := ([(3, 240, 240, 0, 0), (0, 1, 1, 0, 0), (0, -2147483648, 2147483647, 0, 0)], [], [((0, 1, 1, 0, 0), [], [])], [], 1)
set_option maxRecDepth 100000 in
theorem mjC_surem_23 : mjCtr (mjSW 240 290 mjWd_surem) 303 mjSm_surem_23 := aiOk_ctr mjUW_ok (env := []) (fun e he => (by cases he)) (pr := []) (cuts := []) (n := 11) (by decide +kernel)
def mjSm_surem_24 : MjSm := ([(3, 240, 240, 0, 0), (0, 2, 2, 0, 0), (0, -2147483648, 2147483647, 0, 0)], [], [((0, 1, 1, 0, 0), [], [])], [], 1)
set_option maxRecDepth 100000 in
theorem mjC_surem_24 : mjCtr (mjSW 240 290 mjWd_surem) 303 mjSm_surem_24 := aiOk_ctr mjUW_ok (env := []) (fun e he => (by cases he)) (pr := []) (cuts := []) (n := 11) (by decide +kernel)
def mjSm_surem_25 : MjSm := ([(3, 240, 240, 0, 0), (0, 3, 3, 0, 0), (0, -2147483648, 2147483647, 0, 0)], [], [((0, 1, 1, 0, 0), [], [])], [], 1)
set_option maxRecDepth 100000 in
theorem mjC_surem_25 : mjCtr (mjSW 240 290 mjWd_surem) 303 mjSm_surem_25 := aiOk_ctr mjUW_ok (env := []) (fun e he => (by cases he)) (pr := []) (cuts := []) (n := 11) (by decide +kernel)
def mjSm_surem_26 : MjSm := ([(3, 240, 240, 0, 0), (0, 4, 4, 0, 0), (0, -2147483648, 2147483647, 0, 0)], [], [((0, 1, 1, 0, 0), [], [])], [], 1)
set_option maxRecDepth 100000 in
theorem mjC_surem_26 : mjCtr (mjSW 240 290 mjWd_surem) 303 mjSm_surem_26 := aiOk_ctr mjUW_ok (env := []) (fun e he => (by cases he)) (pr := []) (cuts := []) (n := 11) (by decide +kernel)
def mjSm_surem_27 : MjSm := ([(3, 240, 240, 0, 0), (0, 5, 5, 0, 0), (0, -2147483648, 2147483647, 0, 0)], [], [((0, 1, 1, 0, 0), [], [])], [], 1)
set_option maxRecDepth 100000 in
theorem mjC_surem_27 : mjCtr (mjSW 240 290 mjWd_surem) 303 mjSm_surem_27 := aiOk_ctr mjUW_ok (env := []) (fun e he => (by cases he)) (pr := []) (cuts := []) (n := 11) (by decide +kernel)
def mjSm_surem_28 : MjSm := ([(3, 240, 240, 0, 0), (0, 6, 6, 0, 0), (0, -2147483648, 2147483647, 0, 0)], [], [((0, 1, 1, 0, 0), [], [])], [], 1)
set_option maxRecDepth 100000 in
theorem mjC_surem_28 : mjCtr (mjSW 240 290 mjWd_surem) 303 mjSm_surem_28 := aiOk_ctr mjUW_ok (env := []) (fun e he => (by cases he)) (pr := []) (cuts := []) (n := 11) (by decide +kernel)
def mjSm_surem_29 : MjSm := ([(3, 240, 240, 0, 0), (0, 7, 7, 0, 0), (0, -2147483648, 2147483647, 0, 0)], [], [((0, 1, 1, 0, 0), [], [])], [], 1)
set_option maxRecDepth 100000 in
theorem mjC_surem_29 : mjCtr (mjSW 240 290 mjWd_surem) 303 mjSm_surem_29 := aiOk_ctr mjUW_ok (env := []) (fun e he => (by cases he)) (pr := []) (cuts := []) (n := 11) (by decide +kernel)
def mjSm_surem_30 : MjSm := ([(3, 240, 240, 0, 0), (0, 8, 8, 0, 0), (0, -2147483648, 2147483647, 0, 0)], [], [((0, 1, 1, 0, 0), [], [])], [], 1)
set_option maxRecDepth 100000 in
theorem mjC_surem_30 : mjCtr (mjSW 240 290 mjWd_surem) 303 mjSm_surem_30 := aiOk_ctr mjUW_ok (env := []) (fun e he => (by cases he)) (pr := []) (cuts := []) (n := 11) (by decide +kernel)
def mjSm_surem_31 : MjSm := ([(3, 240, 240, 0, 0), (0, 9, 9, 0, 0), (0, -2147483648, 2147483647, 0, 0)], [], [((0, 1, 1, 0, 0), [], [])], [], 1)
set_option maxRecDepth 100000 in
theorem mjC_surem_31 : mjCtr (mjSW 240 290 mjWd_surem) 303 mjSm_surem_31 := aiOk_ctr mjUW_ok (env := []) (fun e he => (by cases he)) (pr := []) (cuts := []) (n := 11) (by decide +kernel)
def mjSm_surem_32 : MjSm := ([(3, 240, 240, 0, 0), (0, 10, 10, 0, 0), (0, -2147483648, 2147483647, 0, 0)], [], [((0, 1, 1, 0, 0), [], [])], [], 1)
set_option maxRecDepth 100000 in
theorem mjC_surem_32 : mjCtr (mjSW 240 290 mjWd_surem) 303 mjSm_surem_32 := aiOk_ctr mjUW_ok (env := []) (fun e he => (by cases he)) (pr := []) (cuts := []) (n := 11) (by decide +kernel)
def mjSm_surem_33 : MjSm := ([(3, 240, 240, 0, 0), (0, 11, 11, 0, 0), (0, -2147483648, 2147483647, 0, 0)], [], [((0, 1, 1, 0, 0), [], [])], [], 1)
set_option maxRecDepth 100000 in
theorem mjC_surem_33 : mjCtr (mjSW 240 290 mjWd_surem) 303 mjSm_surem_33 := aiOk_ctr mjUW_ok (env := []) (fun e he => (by cases he)) (pr := []) (cuts := []) (n := 11) (by decide +kernel)
def mjSm_surem_34 : MjSm := ([(3, 240, 240, 0, 0), (0, 12, 12, 0, 0), (0, -2147483648, 2147483647, 0, 0)], [], [((0, 1, 1, 0, 0), [], [])], [], 1)
set_option maxRecDepth 100000 in
theorem mjC_surem_34 : mjCtr (mjSW 240 290 mjWd_surem) 303 mjSm_surem_34 := aiOk_ctr mjUW_ok (env := []) (fun e he => (by cases he)) (pr := []) (cuts := []) (n := 11) (by decide +kernel)
def mjSm_surem_35 : MjSm := ([(3, 240, 240, 0, 0), (0, 13, 13, 0, 0), (0, -2147483648, 2147483647, 0, 0)], [], [((0, 1, 1, 0, 0), [], [])], [], 1)
set_option maxRecDepth 100000 in
theorem mjC_surem_35 : mjCtr (mjSW 240 290 mjWd_surem) 303 mjSm_surem_35 := aiOk_ctr mjUW_ok (env := []) (fun e he => (by cases he)) (pr := []) (cuts := []) (n := 11) (by decide +kernel)
def mjSm_surem_36 : MjSm := ([(3, 240, 240, 0, 0), (0, 14, 14, 0, 0), (0, -2147483648, 2147483647, 0, 0)], [], [((0, 1, 1, 0, 0), [], [])], [], 1)
set_option maxRecDepth 100000 in
theorem mjC_surem_36 : mjCtr (mjSW 240 290 mjWd_surem) 303 mjSm_surem_36 := aiOk_ctr mjUW_ok (env := []) (fun e he => (by cases he)) (pr := []) (cuts := []) (n := 11) (by decide +kernel)
def mjSm_surem_37 : MjSm := ([(3, 240, 240, 0, 0), (0, 15, 15, 0, 0), (0, -2147483648, 2147483647, 0, 0)], [], [((0, 1, 1, 0, 0), [], [])], [], 1)
set_option maxRecDepth 100000 in
theorem mjC_surem_37 : mjCtr (mjSW 240 290 mjWd_surem) 303 mjSm_surem_37 := aiOk_ctr mjUW_ok (env := []) (fun e he => (by cases he)) (pr := []) (cuts := []) (n := 11) (by decide +kernel)
def mjSm_surem_38 : MjSm := ([(3, 240, 240, 0, 0), (0, 16, 16, 0, 0), (0, -2147483648, 2147483647, 0, 0)], [], [((0, 1, 1, 0, 0), [], [])], [], 1)
set_option maxRecDepth 100000 in
theorem mjC_surem_38 : mjCtr (mjSW 240 290 mjWd_surem) 303 mjSm_surem_38 := aiOk_ctr mjUW_ok (env := []) (fun e he => (by cases he)) (pr := []) (cuts := []) (n := 11) (by decide +kernel)
def mjSm_surem_39 : MjSm := ([(3, 240, 240, 0, 0), (0, 17, 17, 0, 0), (0, -2147483648, 2147483647, 0, 0)], [], [((0, 1, 1, 0, 0), [], [])], [], 1)
set_option maxRecDepth 100000 in
theorem mjC_surem_39 : mjCtr (mjSW 240 290 mjWd_surem) 303 mjSm_surem_39 := aiOk_ctr mjUW_ok (env := []) (fun e he => (by cases he)) (pr := []) (cuts := []) (n := 11) (by decide +kernel)
def mjSm_surem_40 : MjSm := ([(3, 240, 240, 0, 0), (0, 18, 18, 0, 0), (0, -2147483648, 2147483647, 0, 0)], [], [((0, 1, 1, 0, 0), [], [])], [], 1)
set_option maxRecDepth 100000 in
theorem mjC_surem_40 : mjCtr (mjSW 240 290 mjWd_surem) 303 mjSm_surem_40 := aiOk_ctr mjUW_ok (env := []) (fun e he => (by cases he)) (pr := []) (cuts := []) (n := 11) (by decide +kernel)
def mjSm_surem_41 : MjSm := ([(3, 240, 240, 0, 0), (0, 19, 19, 0, 0), (0, -2147483648, 2147483647, 0, 0)], [], [((0, 1, 1, 0, 0), [], [])], [], 1)
set_option maxRecDepth 100000 in
theorem mjC_surem_41 : mjCtr (mjSW 240 290 mjWd_surem) 303 mjSm_surem_41 := aiOk_ctr mjUW_ok (env := []) (fun e he => (by cases he)) (pr := []) (cuts := []) (n := 11) (by decide +kernel)
def mjSm_surem_42 : MjSm := ([(3, 240, 240, 0, 0), (0, 20, 20, 0, 0), (0, -2147483648, 2147483647, 0, 0)], [], [((0, 1, 1, 0, 0), [], [])], [], 1)
set_option maxRecDepth 100000 in
theorem mjC_surem_42 : mjCtr (mjSW 240 290 mjWd_surem) 303 mjSm_surem_42 := aiOk_ctr mjUW_ok (env := []) (fun e he => (by cases he)) (pr := []) (cuts := []) (n := 11) (by decide +kernel)
def mjSm_surem_43 : MjSm := ([(3, 240, 240, 0, 0), (0, 21, 21, 0, 0), (0, -2147483648, 2147483647, 0, 0)], [], [((0, 1, 1, 0, 0), [], [])], [], 1)
set_option maxRecDepth 100000 in
theorem mjC_surem_43 : mjCtr (mjSW 240 290 mjWd_surem) 303 mjSm_surem_43 := aiOk_ctr mjUW_ok (env := []) (fun e he => (by cases he)) (pr := []) (cuts := []) (n := 11) (by decide +kernel)
def mjSm_surem_44 : MjSm := ([(3, 240, 240, 0, 0), (0, 22, 22, 0, 0), (0, -2147483648, 2147483647, 0, 0)], [], [((0, 1, 1, 0, 0), [], [])], [], 1)
set_option maxRecDepth 100000 in
theorem mjC_surem_44 : mjCtr (mjSW 240 290 mjWd_surem) 303 mjSm_surem_44 := aiOk_ctr mjUW_ok (env := []) (fun e he => (by cases he)) (pr := []) (cuts := []) (n := 11) (by decide +kernel)
def mjSm_surem_45 : MjSm := ([(3, 240, 240, 0, 0), (0, 23, 23, 0, 0), (0, -2147483648, 2147483647, 0, 0)], [], [((0, 1, 1, 0, 0), [], [])], [], 1)
set_option maxRecDepth 100000 in
theorem mjC_surem_45 : mjCtr (mjSW 240 290 mjWd_surem) 303 mjSm_surem_45 := aiOk_ctr mjUW_ok (env := []) (fun e he => (by cases he)) (pr := []) (cuts := []) (n := 11) (by decide +kernel)
def mjSm_surem_46 : MjSm := ([(3, 240, 240, 0, 0), (0, 24, 24, 0, 0), (0, -2147483648, 2147483647, 0, 0)], [], [((0, 1, 1, 0, 0), [], [])], [], 1)
set_option maxRecDepth 100000 in
theorem mjC_surem_46 : mjCtr (mjSW 240 290 mjWd_surem) 303 mjSm_surem_46 := aiOk_ctr mjUW_ok (env := []) (fun e he => (by cases he)) (pr := []) (cuts := []) (n := 11) (by decide +kernel)
def mjSm_surem_47 : MjSm := ([(3, 240, 240, 0, 0), (0, 25, 25, 0, 0), (0, -2147483648, 2147483647, 0, 0)], [], [((0, 1, 1, 0, 0), [], [])], [], 1)
set_option maxRecDepth 100000 in
theorem mjC_surem_47 : mjCtr (mjSW 240 290 mjWd_surem) 303 mjSm_surem_47 := aiOk_ctr mjUW_ok (env := []) (fun e he => (by cases he)) (pr := []) (cuts := []) (n := 11) (by decide +kernel)
def mjSm_surem_48 : MjSm := ([(3, 240, 240, 0, 0), (0, 26, 26, 0, 0), (0, -2147483648, 2147483647, 0, 0)], [], [((0, 1, 1, 0, 0), [], [])], [], 1)
set_option maxRecDepth 100000 in
theorem mjC_surem_48 : mjCtr (mjSW 240 290 mjWd_surem) 303 mjSm_surem_48 := aiOk_ctr mjUW_ok (env := []) (fun e he => (by cases he)) (pr := []) (cuts := []) (n := 11) (by decide +kernel)
def mjSm_surem_49 : MjSm := ([(3, 240, 240, 0, 0), (0, 27, 27, 0, 0), (0, -2147483648, 2147483647, 0, 0)], [], [((0, 1, 1, 0, 0), [], [])], [], 1)
set_option maxRecDepth 100000 in
theorem mjC_surem_49 : mjCtr (mjSW 240 290 mjWd_surem) 303 mjSm_surem_49 := aiOk_ctr mjUW_ok (env := []) (fun e he => (by cases he)) (pr := []) (cuts := []) (n := 11) (by decide +kernel)
def mjSm_surem_50 : MjSm := ([(3, 240, 240, 0, 0), (0, 28, 28, 0, 0), (0, -2147483648, 2147483647, 0, 0)], [], [((0, 1, 1, 0, 0), [], [])], [], 1)
set_option maxRecDepth 100000 in
theorem mjC_surem_50 : mjCtr (mjSW 240 290 mjWd_surem) 303 mjSm_surem_50 := aiOk_ctr mjUW_ok (env := []) (fun e he => (by cases he)) (pr := []) (cuts := []) (n := 11) (by decide +kernel)
def mjSm_surem_51 : MjSm := ([(3, 240, 240, 0, 0), (0, 29, 29, 0, 0), (0, -2147483648, 2147483647, 0, 0)], [], [((0, 1, 1, 0, 0), [], [])], [], 1)
set_option maxRecDepth 100000 in
theorem mjC_surem_51 : mjCtr (mjSW 240 290 mjWd_surem) 303 mjSm_surem_51 := aiOk_ctr mjUW_ok (env := []) (fun e he => (by cases he)) (pr := []) (cuts := []) (n := 11) (by decide +kernel)
def mjSm_surem_52 : MjSm := ([(3, 240, 240, 0, 0), (0, 30, 30, 0, 0), (0, -2147483648, 2147483647, 0, 0)], [], [((0, 1, 1, 0, 0), [], [])], [], 1)
set_option maxRecDepth 100000 in
theorem mjC_surem_52 : mjCtr (mjSW 240 290 mjWd_surem) 303 mjSm_surem_52 := aiOk_ctr mjUW_ok (env := []) (fun e he => (by cases he)) (pr := []) (cuts := []) (n := 11) (by decide +kernel)
def mjSm_surem_53 : MjSm := ([(3, 240, 240, 0, 0), (0, -2147483648, 2147483647, 0, 0)], [(240, 57, (0, 0, 0, 0, 0))], [((0, 31, 31, 0, 0), [], [])], [(241, 49), (241, 50), (241, 51), (241, 56), (241, 57), (241, 58), (275, 255), (276, 255), (277, 255), (282, 255)], 7)
set_option maxRecDepth 100000 in
theorem mjC_surem_53 : mjCtr (mjSW 240 290 mjWd_surem) 301 mjSm_surem_53 := aiOk_ctr mjUW_ok (env := [(302, mjSm_surem_21), (303, mjSm_surem_41), (303, mjSm_surem_23), (303, mjSm_surem_42), (303, mjSm_surem_47), (303, mjSm_surem_39), (303, mjSm_surem_34), (303, mjSm_surem_25), (303, mjSm_surem_51), (303, mjSm_surem_48), (303, mjSm_surem_52), (303, mjSm_surem_31), (303, mjSm_surem_46), (303, mjSm_surem_36), (303, mjSm_surem_50), (303, mjSm_surem_26), (303, mjSm_surem_30), (303, mjSm_surem_45), (303, mjSm_surem_33), (303, mjSm_surem_22), (303, mjSm_surem_29), (303, mjSm_surem_24), (303, mjSm_surem_35), (303, mjSm_surem_32), (303, mjSm_surem_43), (303, mjSm_surem_40), (303, mjSm_surem_49), (303, mjSm_surem_38), (303, mjSm_surem_44), (303, mjSm_surem_28), (303, mjSm_surem_27), (303, mjSm_surem_37)]) (mjEnvC mjC_surem_21 (mjEnvC mjC_surem_41 (mjEnvC mjC_surem_23 (mjEnvC mjC_surem_42 (mjEnvC mjC_surem_47 (mjEnvC mjC_surem_39 (mjEnvC mjC_surem_34 (mjEnvC mjC_surem_25 (mjEnvC mjC_surem_51 (mjEnvC mjC_surem_48 (mjEnvC mjC_surem_52 (mjEnvC mjC_surem_31 (mjEnvC mjC_surem_46 (mjEnvC mjC_surem_36 (mjEnvC mjC_surem_50 (mjEnvC mjC_surem_26 (mjEnvC mjC_surem_30 (mjEnvC mjC_surem_45 (mjEnvC mjC_surem_33 (mjEnvC mjC_surem_22 (mjEnvC mjC_surem_29 (mjEnvC mjC_surem_24 (mjEnvC mjC_surem_35 (mjEnvC mjC_surem_32 (mjEnvC mjC_surem_43 (mjEnvC mjC_surem_40 (mjEnvC mjC_surem_49 (mjEnvC mjC_surem_38 (mjEnvC mjC_surem_44 (mjEnvC mjC_surem_28 (mjEnvC mjC_surem_27 (mjEnvC mjC_surem_37 (fun e he => (by cases he)))))))))))))))))))))))))))))))))) (pr := []) (cuts := []) (n := 479) (by decide +kernel)
def mjSm_surem_54 : MjSm := ([(3, 240, 240, 0, 0), (0, -2147483648, 2147483647, 0, 0), (0, -2147483648, 2147483647, 0, 0)], [(240, 57, (0, 0, 0, 0, 0))], [((0, -1, -1, 0, 0), [(1, -2147483648, -1)], [(240, 57, (0, 0, 0, 0, 0))]), ((0, -1, -1, 0, 0), [(1, 2, 2147483647)], [(240, 57, (0, 0, 0, 0, 0))]), ((0, 0, 0, 0, 0), [(1, 0, 0)], []), ((0, 30, 30, 0, 0), [(1, 1, 1)], [])], [(241, 49), (241, 50), (241, 51), (241, 56), (241, 57), (241, 58), (275, 255), (276, 255), (277, 255), (282, 255)], 8)
set_option maxRecDepth 100000 in
theorem mjC_surem_54 : mjCtr (mjSW 240 290 mjWd_surem) 305 mjSm_surem_54 := aiOk_ctr mjUW_ok (env := [(301, mjSm_surem_53), (221, mjSm_surem_0), (303, mjSm_surem_22), (303, mjSm_surem_52)]) (mjEnvC mjC_surem_53 (mjEnvC mjC_surem_0 (mjEnvC mjC_surem_22 (mjEnvC mjC_surem_52 (fun e he => (by cases he)))))) (pr := [1]) (cuts := []) (n := 24) (by decide +kernel)
set_option maxRecDepth 100000 in
theorem mjPair_sure (sc : List Int32) (s1 s2 : Int32)  : ∃ (v : Int32) (n1 : Nat) (w1 : MjW) (n2 : Nat) (w2 : MjW), mjEx mjTb mjMt sc n1 7 167 0 (mjEntry mjM_167.2.2.1 (.ref 0 :: [.int s1, .int s2])) [] mjW0 = some (some (.int v), w1) ∧ mjEx mjTb mjMt sc n2 8 305 0 (mjEntry mjM_305.2.2.1 (.ref 240 :: [.int s1, .int s2])) [] w1 = some (some (.int v), w2) ∧ mjShp w1 = mjShp mjW0 ∧ mjShp w2 = mjShp mjW0 := mj_pair (smx := mjSm_surex_63) (smm := mjSm_surem_54) mjC_surex_63 mjC_surem_54 mjWd_surex_ok mjWd_surem_ok (by decide +kernel) (by decide +kernel) (by decide +kernel) (by decide +kernel) (by decide +kernel) ⟨⟨0, rfl, rfl⟩, ⟨⟨s1, rfl, mjB.all s1⟩, ⟨⟨s2, rfl, mjB.all s2⟩, trivial⟩⟩⟩ ⟨⟨240, rfl, rfl⟩, ⟨⟨s1, rfl, mjB.all s1⟩, ⟨⟨s2, rfl, mjB.all s2⟩, trivial⟩⟩⟩ rfl rfl
