def mjWd_fitsx : MjWd := [(185, 6, (0, 0, 1)), (185, 9, (0, 0, 2147483647)), (209, 7, (0, -2147483648, 2147483647)), (209, 8, (0, 0, 3)), (209, 9, (0, -2147483648, 2147483647)), (210, 6, (0, -2147483648, 2147483647)), (210, 7, (0, 0, 999)), (211, 255, (0, 0, 99)), (214, 255, (0, -2147483648, 2147483647)), (216, 255, (0, -2147483648, 2147483647)), (217, 255, (0, 0, 2147483647))]
theorem mjWd_fitsx_ok : mjWdB mjWd_fitsx = true := by decide +kernel
def mjSm_fitsx_0 : MjSm := ([(3, 210, 210, 0, 0), (3, 205, 205, 0, 0)], [], [((7, 0, 0, 0, 0), [], [])], [(211, 3), (211, 4), (211, 5), (211, 6), (211, 7), (212, 255), (213, 255), (214, 255)], 1)
set_option maxRecDepth 100000 in
theorem mjC_fitsx_0 : mjCtr (mjSW 0 240 mjWd_fitsx) 64 mjSm_fitsx_0 := aiOk_ctr mjUW_ok (env := []) (fun e he => (by cases he)) (pr := []) (cuts := []) (n := 48) (by decide +kernel)
def mjSm_fitsx_1 : MjSm := ([(3, 216, 216, 0, 0), (0, 0, 0, 0, 0)], [], [((7, 0, 0, 0, 0), [], [])], [(217, 255)], 1)
set_option maxRecDepth 100000 in
theorem mjC_fitsx_1 : mjCtr (mjSW 0 240 mjWd_fitsx) 6 mjSm_fitsx_1 := aiOk_ctr mjUW_ok (env := []) (fun e he => (by cases he)) (pr := []) (cuts := [(5, ([(3, 216, 216, 0, 0), (0, 0, 0, 0, 0), (0, 0, 6, 0, 0), (0, 6, 6, 0, 0)], [], []), [(0, 0, 49995), (1, 2, 2147483647), (0, 0, 60000), (0, 0, 0), (0, 0, 0), (0, 0, 0), (0, 0, 0), (0, 0, 0)])]) (n := 12) (by decide +kernel)
def mjSm_fitsx_2 : MjSm := ([(3, 217, 217, 0, 0), (0, 0, 0, 0, 0)], [], [((7, 0, 0, 0, 0), [], [])], [(218, 255)], 1)
set_option maxRecDepth 100000 in
theorem mjC_fitsx_2 : mjCtr (mjSW 0 240 mjWd_fitsx) 6 mjSm_fitsx_2 := aiOk_ctr mjUW_ok (env := []) (fun e he => (by cases he)) (pr := []) (cuts := [(5, ([(3, 217, 217, 0, 0), (0, 0, 0, 0, 0), (0, 0, 6, 0, 0), (0, 6, 6, 0, 0)], [], []), [(0, 0, 49995), (1, 2, 2147483647), (0, 0, 60000), (0, 0, 0), (0, 0, 0), (0, 0, 0), (0, 0, 0), (0, 0, 0)])]) (n := 12) (by decide +kernel)
def mjSm_fitsx_3 : MjSm := ([(3, 215, 215, 0, 0), (0, 0, 0, 0, 0)], [], [((7, 0, 0, 0, 0), [], [])], [(216, 255)], 1)
set_option maxRecDepth 100000 in
theorem mjC_fitsx_3 : mjCtr (mjSW 0 240 mjWd_fitsx) 6 mjSm_fitsx_3 := aiOk_ctr mjUW_ok (env := []) (fun e he => (by cases he)) (pr := []) (cuts := [(5, ([(3, 215, 215, 0, 0), (0, 0, 0, 0, 0), (0, 0, 6, 0, 0), (0, 6, 6, 0, 0)], [], []), [(0, 0, 49995), (1, 2, 2147483647), (0, 0, 60000), (0, 0, 0), (0, 0, 0), (0, 0, 0), (0, 0, 0), (0, 0, 0)])]) (n := 12) (by decide +kernel)
def mjSm_fitsx_4 : MjSm := ([(3, 193, 193, 0, 0), (3, 210, 210, 0, 0), (0, -2147483648, 2147483647, 0, 0)], [], [((0, 0, 0, 0, 0), [], [])], [], 1)
set_option maxRecDepth 100000 in
theorem mjC_fitsx_4 : mjCtr (mjSW 0 240 mjWd_fitsx) 75 mjSm_fitsx_4 := aiOk_ctr mjUW_ok (env := []) (fun e he => (by cases he)) (pr := []) (cuts := [(5, ([(3, 193, 193, 0, 0), (3, 210, 210, 0, 0), (0, -2147483648, 2147483647, 0, 0), (0, 0, 0, 0, 0), (0, 0, 0, 0, 0), (9, 0, 0, 0, 0)], [], []), [(0, 0, 49995), (1, 4, 2147483647), (0, 0, 60000), (0, 0, 0), (0, 0, 0), (0, 0, 0), (0, 0, 0), (0, 0, 0)])]) (n := 9) (by decide +kernel)
def mjSm_fitsx_5 : MjSm := ([(3, 209, 209, 0, 0)], [], [((7, 0, 0, 0, 0), [], [])], [(216, 255)], 2)
set_option maxRecDepth 100000 in
theorem mjC_fitsx_5 : mjCtr (mjSW 0 240 mjWd_fitsx) 74 mjSm_fitsx_5 := aiOk_ctr mjUW_ok (env := [(6, mjSm_fitsx_3), (75, mjSm_fitsx_4)]) (mjEnvC mjC_fitsx_3 (mjEnvC mjC_fitsx_4 (fun e he => (by cases he)))) (pr := []) (cuts := [(32, ([(3, 209, 209, 0, 0), (0, 0, 0, 0, 0), (0, 0, 0, 0, 0)], [], []), [(0, 0, 49968), (1, 2, 2147483647), (0, 0, 60000), (0, 0, 0), (0, 0, 0), (0, 0, 0), (0, 0, 0), (0, 0, 0)])]) (n := 20) (by decide +kernel)
def mjSm_fitsx_6 : MjSm := ([(3, 209, 209, 0, 0), (3, 193, 193, 0, 0), (3, 210, 210, 0, 0)], [], [((7, 0, 0, 0, 0), [], [])], [(210, 2), (210, 3), (210, 7), (216, 255), (217, 255), (218, 255)], 3)
set_option maxRecDepth 100000 in
theorem mjC_fitsx_6 : mjCtr (mjSW 0 240 mjWd_fitsx) 73 mjSm_fitsx_6 := aiOk_ctr mjUW_ok (env := [(6, mjSm_fitsx_2), (6, mjSm_fitsx_1), (74, mjSm_fitsx_5)]) (mjEnvC mjC_fitsx_2 (mjEnvC mjC_fitsx_1 (mjEnvC mjC_fitsx_5 (fun e he => (by cases he))))) (pr := []) (cuts := []) (n := 23) (by decide +kernel)
def mjSm_fitsx_7 : MjSm := ([(3, 209, 209, 0, 0), (3, 193, 193, 0, 0), (3, 205, 205, 0, 0)], [], [((7, 0, 0, 0, 0), [], [])], [(210, 2), (210, 3), (210, 7), (211, 3), (211, 4), (211, 5), (211, 6), (211, 7), (212, 255), (213, 255), (214, 255), (216, 255), (217, 255), (218, 255)], 4)
set_option maxRecDepth 100000 in
theorem mjC_fitsx_7 : mjCtr (mjSW 0 240 mjWd_fitsx) 72 mjSm_fitsx_7 := aiOk_ctr mjUW_ok (env := [(64, mjSm_fitsx_0), (73, mjSm_fitsx_6)]) (mjEnvC mjC_fitsx_0 (mjEnvC mjC_fitsx_6 (fun e he => (by cases he)))) (pr := []) (cuts := []) (n := 13) (by decide +kernel)
def mjSm_fitsx_8 : MjSm := ([(0, 3, 3, 0, 0), (0, 0, 0, 0, 0)], [], [((0, 15, 15, 0, 0), [], [])], [], 1)
set_option maxRecDepth 100000 in
theorem mjC_fitsx_8 : mjCtr (mjSW 0 240 mjWd_fitsx) 48 mjSm_fitsx_8 := aiOk_ctr mjUW_ok (env := []) (fun e he => (by cases he)) (pr := []) (cuts := []) (n := 9) (by decide +kernel)
def mjSm_fitsx_9 : MjSm := ([(0, 0, 3, 0, 0), (0, 0, 2, 0, 0)], [], [((0, 0, 17, 0, 0), [], [])], [], 1)
set_option maxRecDepth 100000 in
theorem mjC_fitsx_9 : mjCtr (mjSW 0 240 mjWd_fitsx) 48 mjSm_fitsx_9 := aiOk_ctr mjUW_ok (env := []) (fun e he => (by cases he)) (pr := []) (cuts := []) (n := 9) (by decide +kernel)
def mjSm_fitsx_10 : MjSm := ([(3, 209, 209, 0, 0), (0, 0, 17, 0, 0), (0, 1, 1, 0, 0)], [], [((7, 0, 0, 0, 0), [], [])], [(212, 255)], 1)
set_option maxRecDepth 100000 in
theorem mjC_fitsx_10 : mjCtr (mjSW 0 240 mjWd_fitsx) 89 mjSm_fitsx_10 := aiOk_ctr mjUW_ok (env := []) (fun e he => (by cases he)) (pr := []) (cuts := []) (n := 18) (by decide +kernel)
def mjSm_fitsx_11 : MjSm := ([(3, 201, 201, 0, 0), (3, 214, 214, 0, 0)], [], [((0, -2147483648, 2147483647, 0, 0), [], [])], [], 1)
set_option maxRecDepth 100000 in
theorem mjC_fitsx_11 : mjCtr (mjSW 0 240 mjWd_fitsx) 77 mjSm_fitsx_11 := aiOk_ctr mjUW_ok (env := []) (fun e he => (by cases he)) (pr := []) (cuts := []) (n := 20) (by decide +kernel)
def mjSm_fitsx_12 : MjSm := ([(3, 193, 193, 0, 0), (0, 0, 3, 0, 0)], [], [((0, 1, 1, 0, 0), [], [])], [], 1)
set_option maxRecDepth 100000 in
theorem mjC_fitsx_12 : mjCtr (mjSW 0 240 mjWd_fitsx) 69 mjSm_fitsx_12 := aiOk_ctr mjUW_ok (env := []) (fun e he => (by cases he)) (pr := []) (cuts := []) (n := 15) (by decide +kernel)
def mjSm_fitsx_13 : MjSm := ([(0, 0, 3, 0, 0), (0, 1, 2, 0, 0)], [], [((0, 1, 17, 0, 0), [], [])], [], 1)
set_option maxRecDepth 100000 in
theorem mjC_fitsx_13 : mjCtr (mjSW 0 240 mjWd_fitsx) 48 mjSm_fitsx_13 := aiOk_ctr mjUW_ok (env := []) (fun e he => (by cases he)) (pr := []) (cuts := []) (n := 9) (by decide +kernel)
def mjSm_fitsx_14 : MjSm := ([(3, 209, 209, 0, 0), (0, 1, 17, 0, 0), (0, 1, 1, 0, 0)], [], [((7, 0, 0, 0, 0), [], [])], [(210, 9), (212, 255)], 1)
set_option maxRecDepth 100000 in
theorem mjC_fitsx_14 : mjCtr (mjSW 0 240 mjWd_fitsx) 92 mjSm_fitsx_14 := aiOk_ctr mjUW_ok (env := []) (fun e he => (by cases he)) (pr := []) (cuts := []) (n := 22) (by decide +kernel)
def mjSm_fitsx_15 : MjSm := ([(0, 0, 3, 0, 0), (0, 0, 1, 0, 0)], [], [((0, 0, 16, 0, 0), [], [])], [], 1)
set_option maxRecDepth 100000 in
theorem mjC_fitsx_15 : mjCtr (mjSW 0 240 mjWd_fitsx) 48 mjSm_fitsx_15 := aiOk_ctr mjUW_ok (env := []) (fun e he => (by cases he)) (pr := []) (cuts := []) (n := 9) (by decide +kernel)
def mjSm_fitsx_16 : MjSm := ([(3, 209, 209, 0, 0), (0, 0, 16, 0, 0), (0, 1, 1, 0, 0)], [], [((7, 0, 0, 0, 0), [], [])], [(210, 9), (212, 255)], 1)
set_option maxRecDepth 100000 in
theorem mjC_fitsx_16 : mjCtr (mjSW 0 240 mjWd_fitsx) 92 mjSm_fitsx_16 := aiOk_ctr mjUW_ok (env := []) (fun e he => (by cases he)) (pr := []) (cuts := []) (n := 22) (by decide +kernel)
def mjSm_fitsx_17 : MjSm := ([(3, 209, 209, 0, 0), (0, 0, 3, 0, 0), (0, 0, 1, 0, 0), (0, 1, 1, 0, 0)], [], [((7, 0, 0, 0, 0), [], [])], [(210, 8), (210, 9), (212, 255)], 2)
set_option maxRecDepth 100000 in
theorem mjC_fitsx_17 : mjCtr (mjSW 0 240 mjWd_fitsx) 91 mjSm_fitsx_17 := aiOk_ctr mjUW_ok (env := [(69, mjSm_fitsx_12), (48, mjSm_fitsx_15), (48, mjSm_fitsx_13), (92, mjSm_fitsx_16), (92, mjSm_fitsx_14)]) (mjEnvC mjC_fitsx_12 (mjEnvC mjC_fitsx_15 (mjEnvC mjC_fitsx_13 (mjEnvC mjC_fitsx_16 (mjEnvC mjC_fitsx_14 (fun e he => (by cases he))))))) (pr := []) (cuts := [(25, ([(3, 209, 209, 0, 0), (0, 0, 3, 0, 0), (0, 0, 1, 0, 0), (0, 1, 1, 0, 0), (0, 1, 3, 0, 0), (9, 0, 0, 0, 0)], [], []), [(0, 0, 49975), (1, 4, 2147483647), (0, 0, 60000), (0, 0, 0), (0, 0, 0), (0, 0, 0), (0, 0, 0), (0, 0, 0)])]) (n := 43) (by decide +kernel)
def mjSm_fitsx_18 : MjSm := ([(3, 209, 209, 0, 0), (0, 0, 3, 0, 0), (0, 0, 1, 0, 0)], [], [((7, 0, 0, 0, 0), [], [])], [(210, 7), (210, 8), (210, 9), (212, 255), (217, 255), (218, 255)], 3)
set_option maxRecDepth 100000 in
theorem mjC_fitsx_18 : mjCtr (mjSW 0 240 mjWd_fitsx) 90 mjSm_fitsx_18 := aiOk_ctr mjUW_ok (env := [(91, mjSm_fitsx_17)]) (mjEnvC mjC_fitsx_17 (fun e he => (by cases he))) (pr := []) (cuts := [(78, ([(3, 209, 209, 0, 0), (0, 0, 3, 0, 0), (0, 0, 1, 0, 0), (0, 0, 0, 0, 0), (0, 0, 0, 0, 0)], [], []), [(0, 0, 49922), (1, 4, 2147483647), (0, 0, 60000), (0, 0, 0), (0, 0, 0), (0, 0, 0), (0, 0, 0), (0, 0, 0)])]) (n := 47) (by decide +kernel)
def mjSm_fitsx_19 : MjSm := ([(3, 209, 209, 0, 0), (0, 0, 3, 0, 0), (0, 0, 2, 0, 0), (0, 0, 0, 0, 0)], [], [((0, 0, 0, 0, 0), [], []), ((0, 1, 1, 0, 0), [(2, 0, 1)], []), ((0, 0, 0, 0, 0), [(2, 0, 1)], []), ((0, 1, 1, 0, 0), [(2, 2, 2)], []), ((0, 0, 0, 0, 0), [(2, 2, 2)], [])], [(215, 255)], 2)
set_option maxRecDepth 100000 in
theorem mjC_fitsx_19 : mjCtr (mjSW 0 240 mjWd_fitsx) 76 mjSm_fitsx_19 := aiOk_ctr mjUW_ok (env := [(77, mjSm_fitsx_11), (48, mjSm_fitsx_9)]) (mjEnvC mjC_fitsx_11 (mjEnvC mjC_fitsx_9 (fun e he => (by cases he)))) (pr := [2]) (cuts := []) (n := 80) (by decide +kernel)
def mjSm_fitsx_20 : MjSm := ([(0, 0, 3, 0, 0), (0, 2, 2, 0, 0)], [], [((0, 2, 17, 0, 0), [], [])], [], 1)
set_option maxRecDepth 100000 in
theorem mjC_fitsx_20 : mjCtr (mjSW 0 240 mjWd_fitsx) 48 mjSm_fitsx_20 := aiOk_ctr mjUW_ok (env := []) (fun e he => (by cases he)) (pr := []) (cuts := []) (n := 9) (by decide +kernel)
def mjSm_fitsx_21 : MjSm := ([(3, 209, 209, 0, 0), (0, 2, 17, 0, 0), (0, 1, 1, 0, 0)], [], [((7, 0, 0, 0, 0), [], [])], [(210, 9), (212, 255)], 1)
set_option maxRecDepth 100000 in
theorem mjC_fitsx_21 : mjCtr (mjSW 0 240 mjWd_fitsx) 92 mjSm_fitsx_21 := aiOk_ctr mjUW_ok (env := []) (fun e he => (by cases he)) (pr := []) (cuts := []) (n := 22) (by decide +kernel)
def mjSm_fitsx_22 : MjSm := ([(3, 209, 209, 0, 0), (0, 0, 3, 0, 0), (0, 2, 2, 0, 0), (0, 1, 1, 0, 0)], [], [((7, 0, 0, 0, 0), [], [])], [(210, 8), (210, 9), (212, 255)], 2)
set_option maxRecDepth 100000 in
theorem mjC_fitsx_22 : mjCtr (mjSW 0 240 mjWd_fitsx) 91 mjSm_fitsx_22 := aiOk_ctr mjUW_ok (env := [(48, mjSm_fitsx_20), (92, mjSm_fitsx_21)]) (mjEnvC mjC_fitsx_20 (mjEnvC mjC_fitsx_21 (fun e he => (by cases he)))) (pr := []) (cuts := [(25, ([(3, 209, 209, 0, 0), (0, 0, 3, 0, 0), (0, 2, 2, 0, 0), (0, 1, 1, 0, 0), (0, 3, 3, 0, 0), (9, 0, 0, 0, 0)], [], []), [(0, 0, 49975), (1, 4, 2147483647), (0, 0, 60000), (0, 0, 0), (0, 0, 0), (0, 0, 0), (0, 0, 0), (0, 0, 0)])]) (n := 19) (by decide +kernel)
def mjSm_fitsx_23 : MjSm := ([(3, 209, 209, 0, 0), (0, 0, 3, 0, 0), (0, 2, 2, 0, 0)], [], [((7, 0, 0, 0, 0), [], [])], [(210, 7), (210, 8), (210, 9), (212, 255), (217, 255), (218, 255)], 3)
set_option maxRecDepth 100000 in
theorem mjC_fitsx_23 : mjCtr (mjSW 0 240 mjWd_fitsx) 90 mjSm_fitsx_23 := aiOk_ctr mjUW_ok (env := [(91, mjSm_fitsx_22)]) (mjEnvC mjC_fitsx_22 (fun e he => (by cases he))) (pr := []) (cuts := [(78, ([(3, 209, 209, 0, 0), (0, 0, 3, 0, 0), (0, 2, 2, 0, 0), (0, 0, 0, 0, 0), (0, 0, 0, 0, 0)], [], []), [(0, 0, 49922), (1, 4, 2147483647), (0, 0, 60000), (0, 0, 0), (0, 0, 0), (0, 0, 0), (0, 0, 0), (0, 0, 0)])]) (n := 47) (by decide +kernel)
def mjSm_fitsx_24 : MjSm := ([(3, 209, 209, 0, 0), (0, -1, -1, 0, 0)], [], [((0, 0, 0, 0, 0), [], [])], [], 1)
set_option maxRecDepth 100000 in
theorem mjC_fitsx_24 : mjCtr (mjSW 0 240 mjWd_fitsx) 94 mjSm_fitsx_24 := aiOk_ctr mjUW_ok (env := []) (fun e he => (by cases he)) (pr := []) (cuts := [(4, ([(3, 209, 209, 0, 0), (0, -1, -1, 0, 0), (0, 0, 0, 0, 0), (0, 0, 0, 0, 0)], [], []), [(0, 0, 49996), (1, 3, 2147483647), (0, 0, 60000), (0, 0, 0), (0, 0, 0), (0, 0, 0), (0, 0, 0), (0, 0, 0)])]) (n := 10) (by decide +kernel)
def mjSm_fitsx_25 : MjSm := ([(3, 209, 209, 0, 0)], [], [((0, 0, 0, 0, 0), [], [])], [], 2)
set_option maxRecDepth 100000 in
theorem mjC_fitsx_25 : mjCtr (mjSW 0 240 mjWd_fitsx) 93 mjSm_fitsx_25 := aiOk_ctr mjUW_ok (env := [(94, mjSm_fitsx_24)]) (mjEnvC mjC_fitsx_24 (fun e he => (by cases he))) (pr := []) (cuts := []) (n := 11) (by decide +kernel)
def mjSm_fitsx_26 : MjSm := ([(3, 209, 209, 0, 0), (0, 1, 1, 0, 0), (0, 0, 0, 0, 0)], [], [((7, 0, 0, 0, 0), [], [])], [(210, 7), (210, 8), (210, 9), (211, 5), (211, 6), (211, 7), (212, 255), (215, 255), (216, 255), (217, 255), (218, 255)], 4)
set_option maxRecDepth 100000 in
theorem mjC_fitsx_26 : mjCtr (mjSW 0 240 mjWd_fitsx) 88 mjSm_fitsx_26 := aiOk_ctr mjUW_ok (env := [(74, mjSm_fitsx_5), (93, mjSm_fitsx_25), (90, mjSm_fitsx_23), (90, mjSm_fitsx_18), (48, mjSm_fitsx_9), (76, mjSm_fitsx_19), (89, mjSm_fitsx_10)]) (mjEnvC mjC_fitsx_5 (mjEnvC mjC_fitsx_25 (mjEnvC mjC_fitsx_23 (mjEnvC mjC_fitsx_18 (mjEnvC mjC_fitsx_9 (mjEnvC mjC_fitsx_19 (mjEnvC mjC_fitsx_10 (fun e he => (by cases he))))))))) (pr := []) (cuts := [(2, ([(3, 209, 209, 0, 0), (0, 1, 1, 0, 0), (0, 0, 0, 0, 0), (0, 0, 4, 0, 0), (9, 0, 0, 0, 0)], [], []), [(0, 0, 49998), (1, 3, 2147483647), (0, 0, 60000), (0, 0, 0), (0, 0, 0), (0, 0, 0), (0, 0, 0), (0, 0, 0)]), (16, ([(3, 209, 209, 0, 0), (0, 1, 1, 0, 0), (0, 0, 0, 0, 0), (0, 0, 3, 0, 0), (0, 0, 3, 0, 0)], [], []), [(0, 0, 49998), (1, 3, 2147483647), (0, 0, 49984), (1, 4, 2147483647), (0, 0, 60000), (0, 0, 0), (0, 0, 0), (0, 0, 0)]), (140, ([(3, 209, 209, 0, 0), (0, 1, 1, 0, 0), (0, 0, 0, 0, 0), (0, 0, 3, 0, 0), (9, 0, 0, 0, 0)], [], []), [(0, 0, 49860), (1, 3, 2147483647), (0, 0, 60000), (0, 0, 0), (0, 0, 0), (0, 0, 0), (0, 0, 0), (0, 0, 0)]), (154, ([(3, 209, 209, 0, 0), (0, 1, 1, 0, 0), (0, 0, 0, 0, 0), (0, 0, 2, 0, 0), (0, 0, 4, 0, 0)], [], []), [(0, 0, 49860), (1, 3, 2147483647), (0, 0, 49846), (1, 4, 2147483647), (0, 0, 60000), (0, 0, 0), (0, 0, 0), (0, 0, 0)])]) (n := 26) (by decide +kernel)
def mjSm_fitsx_27 : MjSm := ([(3, 185, 185, 0, 0), (3, 209, 209, 0, 0), (3, 193, 193, 0, 0)], [(209, 8, (0, 0, 0, 0, 0))], [((7, 0, 0, 0, 0), [], [(185, 6, (0, 1, 1, 0, 0))])], [(186, 6), (192, 255), (210, 2), (210, 3), (210, 7), (210, 8), (210, 9), (211, 3), (211, 4), (211, 5), (211, 6), (211, 7), (212, 255), (213, 255), (214, 255), (215, 255), (216, 255), (217, 255), (218, 255)], 5)
set_option maxRecDepth 100000 in
theorem mjC_fitsx_27 : mjCtr (mjSW 0 240 mjWd_fitsx) 165 mjSm_fitsx_27 := aiOk_ctr mjUW_ok (env := [(48, mjSm_fitsx_8), (72, mjSm_fitsx_7), (88, mjSm_fitsx_26)]) (mjEnvC mjC_fitsx_8 (mjEnvC mjC_fitsx_7 (mjEnvC mjC_fitsx_26 (fun e he => (by cases he))))) (pr := []) (cuts := [(2, ([(3, 185, 185, 0, 0), (3, 209, 209, 0, 0), (3, 193, 193, 0, 0), (0, 0, 31, 0, 0), (9, 0, 0, 0, 0)], [], []), [(0, 0, 49998), (1, 3, 2147483647), (0, 0, 60000), (0, 0, 0), (0, 0, 0), (0, 0, 0), (0, 0, 0), (0, 0, 0)]), (62, ([(3, 185, 185, 0, 0), (3, 209, 209, 0, 0), (3, 193, 193, 0, 0), (0, 0, 30, 0, 0), (0, 1, 25, 0, 0)], [], []), [(0, 0, 49998), (1, 3, 2147483647), (0, 0, 49938), (1, 4, 2147483647), (0, 0, 60000), (0, 0, 0), (0, 0, 0), (0, 0, 0)])]) (n := 36) (by decide +kernel)
def mjSm_fitsx_28 : MjSm := ([(3, 185, 185, 0, 0), (0, 0, 0, 0, 0), (0, -2147483648, 2147483647, 0, 0)], [], [((0, 1, 1, 0, 0), [], [])], [], 1)
set_option maxRecDepth 100000 in
theorem mjC_fitsx_28 : mjCtr (mjSW 0 240 mjWd_fitsx) 166 mjSm_fitsx_28 := aiOk_ctr mjUW_ok (env := []) (fun e he => (by cases he)) (pr := []) (cuts := []) (n := 11) (by decide +kernel)
def mjSm_fitsx_29 : MjSm := ([(3, 185, 185, 0, 0), (0, 1, 1, 0, 0), (0, -2147483648, 2147483647, 0, 0)], [], [((0, 1, 1, 0, 0), [], [])], [], 1)
set_option maxRecDepth 100000 in
theorem mjC_fitsx_29 : mjCtr (mjSW 0 240 mjWd_fitsx) 166 mjSm_fitsx_29 := aiOk_ctr mjUW_ok (env := []) (fun e he => (by cases he)) (pr := []) (cuts := []) (n := 11) (by decide +kernel)
def mjSm_fitsx_30 : MjSm := ([(3, 185, 185, 0, 0), (0, 2, 2, 0, 0), (0, -2147483648, 2147483647, 0, 0)], [], [((0, 1, 1, 0, 0), [], [])], [], 1)
set_option maxRecDepth 100000 in
theorem mjC_fitsx_30 : mjCtr (mjSW 0 240 mjWd_fitsx) 166 mjSm_fitsx_30 := aiOk_ctr mjUW_ok (env := []) (fun e he => (by cases he)) (pr := []) (cuts := []) (n := 11) (by decide +kernel)
def mjSm_fitsx_31 : MjSm := ([(3, 185, 185, 0, 0), (0, 3, 3, 0, 0), (0, -2147483648, 2147483647, 0, 0)], [], [((0, 1, 1, 0, 0), [], [])], [], 1)
set_option maxRecDepth 100000 in
theorem mjC_fitsx_31 : mjCtr (mjSW 0 240 mjWd_fitsx) 166 mjSm_fitsx_31 := aiOk_ctr mjUW_ok (env := []) (fun e he => (by cases he)) (pr := []) (cuts := []) (n := 11) (by decide +kernel)
def mjSm_fitsx_32 : MjSm := ([(3, 185, 185, 0, 0), (0, 4, 4, 0, 0), (0, -2147483648, 2147483647, 0, 0)], [], [((0, 1, 1, 0, 0), [], [])], [], 1)
set_option maxRecDepth 100000 in
theorem mjC_fitsx_32 : mjCtr (mjSW 0 240 mjWd_fitsx) 166 mjSm_fitsx_32 := aiOk_ctr mjUW_ok (env := []) (fun e he => (by cases he)) (pr := []) (cuts := []) (n := 11) (by decide +kernel)
def mjSm_fitsx_33 : MjSm := ([(3, 185, 185, 0, 0), (0, 5, 5, 0, 0), (0, -2147483648, 2147483647, 0, 0)], [], [((0, 1, 1, 0, 0), [], [])], [], 1)
set_option maxRecDepth 100000 in
theorem mjC_fitsx_33 : mjCtr (mjSW 0 240 mjWd_fitsx) 166 mjSm_fitsx_33 := aiOk_ctr mjUW_ok (env := []) (fun e he => (by cases he)) (pr := []) (cuts := []) (n := 11) (by decide +kernel)
def mjSm_fitsx_34 : MjSm := ([(3, 185, 185, 0, 0), (0, 6, 6, 0, 0), (0, -2147483648, 2147483647, 0, 0)], [], [((0, 1, 1, 0, 0), [], [])], [], 1)
set_option maxRecDepth 100000 in
theorem mjC_fitsx_34 : mjCtr (mjSW 0 240 mjWd_fitsx) 166 mjSm_fitsx_34 := aiOk_ctr mjUW_ok (env := []) (fun e he => (by cases he)) (pr := []) (cuts := []) (n := 11) (by decide +kernel)
def mjSm_fitsx_35 : MjSm := ([(3, 185, 185, 0, 0), (0, 7, 7, 0, 0), (0, -2147483648, 2147483647, 0, 0)], [], [((0, 1, 1, 0, 0), [], [])], [], 1)
set_option maxRecDepth 100000 in
theorem mjC_fitsx_35 : mjCtr (mjSW 0 240 mjWd_fitsx) 166 mjSm_fitsx_35 := aiOk_ctr mjUW_ok (env := []) (fun e he => (by cases he)) (pr := []) (cuts := []) (n := 11) (by decide +kernel)
def mjSm_fitsx_36 : MjSm := ([(3, 185, 185, 0, 0), (0, 8, 8, 0, 0), (0, -2147483648, 2147483647, 0, 0)], [], [((0, 1, 1, 0, 0), [], [])], [], 1)
set_option maxRecDepth 100000 in
theorem mjC_fitsx_36 : mjCtr (mjSW 0 240 mjWd_fitsx) 166 mjSm_fitsx_36 := aiOk_ctr mjUW_ok (env := []) (fun e he => (by cases he)) (pr := []) (cuts := []) (n := 11) (by decide +kernel)
def mjSm_fitsx_37 : MjSm := ([(3, 185, 185, 0, 0), (0, 9, 9, 0, 0), (0, -2147483648, 2147483647, 0, 0)], [], [((0, 1, 1, 0, 0), [], [])], [], 1)
set_option maxRecDepth 100000 in
theorem mjC_fitsx_37 : mjCtr (mjSW 0 240 mjWd_fitsx) 166 mjSm_fitsx_37 := aiOk_ctr mjUW_ok (env := []) (fun e he => (by cases he)) (pr := []) (cuts := []) (n := 11) (by decide +kernel)
def mjSm_fitsx_38 : MjSm := ([(3, 185, 185, 0, 0), (0, 10, 10, 0, 0), (0, -2147483648, 2147483647, 0, 0)], [], [((0, 1, 1, 0, 0), [], [])], [], 1)
set_option maxRecDepth 100000 in
theorem mjC_fitsx_38 : mjCtr (mjSW 0 240 mjWd_fitsx) 166 mjSm_fitsx_38 := aiOk_ctr mjUW_ok (env := []) (fun e he => (by cases he)) (pr := []) (cuts := []) (n := 11) (by decide +kernel)
def mjSm_fitsx_39 : MjSm := ([(3, 185, 185, 0, 0), (0, 11, 11, 0, 0), (0, -2147483648, 2147483647, 0, 0)], [], [((0, 1, 1, 0, 0), [], [])], [], 1)
set_option maxRecDepth 100000 in
theorem mjC_fitsx_39 : mjCtr (mjSW 0 240 mjWd_fitsx) 166 mjSm_fitsx_39 := aiOk_ctr mjUW_ok (env := []) (fun e he => (by cases he)) (pr := []) (cuts := []) (n := 11) (by decide +kernel)
def mjSm_fitsx_40 : MjSm := ([(3, 185, 185, 0, 0), (0, 12, 12, 0, 0), (0, -2147483648, 2147483647, 0, 0)], [], [((0, 1, 1, 0, 0), [], [])], [], 1)
set_option maxRecDepth 100000 in
theorem mjC_fitsx_40 : mjCtr (mjSW 0 240 mjWd_fitsx) 166 mjSm_fitsx_40 := aiOk_ctr mjUW_ok (env := []) (fun e he => (by cases he)) (pr := []) (cuts := []) (n := 11) (by decide +kernel)
def mjSm_fitsx_41 : MjSm := ([(3, 185, 185, 0, 0), (0, 13, 13, 0, 0), (0, -2147483648, 2147483647, 0, 0)], [], [((0, 1, 1, 0, 0), [], [])], [], 1)
set_option maxRecDepth 100000 in
theorem mjC_fitsx_41 : mjCtr (mjSW 0 240 mjWd_fitsx) 166 mjSm_fitsx_41 := aiOk_ctr mjUW_ok (env := []) (fun e he => (by cases he)) (pr := []) (cuts := []) (n := 11) (by decide +kernel)
def mjSm_fitsx_42 : MjSm := ([(3, 185, 185, 0, 0), (0, 14, 14, 0, 0), (0, -2147483648, 2147483647, 0, 0)], [], [((0, 1, 1, 0, 0), [], [])], [], 1)
set_option maxRecDepth 100000 in
theorem mjC_fitsx_42 : mjCtr (mjSW 0 240 mjWd_fitsx) 166 mjSm_fitsx_42 := aiOk_ctr mjUW_ok (env := []) (fun e he => (by cases he)) (pr := []) (cuts := []) (n := 11) (by decide +kernel)
def mjSm_fitsx_43 : MjSm := ([(3, 185, 185, 0, 0), (0, 15, 15, 0, 0), (0, -2147483648, 2147483647, 0, 0)], [], [((0, 1, 1, 0, 0), [], [])], [], 1)
set_option maxRecDepth 100000 in
theorem mjC_fitsx_43 : mjCtr (mjSW 0 240 mjWd_fitsx) 166 mjSm_fitsx_43 := aiOk_ctr mjUW_ok (env := []) (fun e he => (by cases he)) (pr := []) (cuts := []) (n := 11) (by decide +kernel)
def mjSm_fitsx_44 : MjSm := ([(3, 185, 185, 0, 0), (0, 16, 16, 0, 0), (0, -2147483648, 2147483647, 0, 0)], [], [((0, 1, 1, 0, 0), [], [])], [], 1)
set_option maxRecDepth 100000 in
theorem mjC_fitsx_44 : mjCtr (mjSW 0 240 mjWd_fitsx) 166 mjSm_fitsx_44 := aiOk_ctr mjUW_ok (env := []) (fun e he => (by cases he)) (pr := []) (cuts := []) (n := 11) (by decide +kernel)
def mjSm_fitsx_45 : MjSm := ([(3, 185, 185, 0, 0), (0, 17, 17, 0, 0), (0, -2147483648, 2147483647, 0, 0)], [], [((0, 1, 1, 0, 0), [], [])], [], 1)
set_option maxRecDepth 100000 in
theorem mjC_fitsx_45 : mjCtr (mjSW 0 240 mjWd_fitsx) 166 mjSm_fitsx_45 := aiOk_ctr mjUW_ok (env := []) (fun e he => (by cases he)) (pr := []) (cuts := []) (n := 11) (by decide +kernel)
def mjSm_fitsx_46 : MjSm := ([(3, 185, 185, 0, 0), (0, 18, 18, 0, 0), (0, -2147483648, 2147483647, 0, 0)], [], [((0, 1, 1, 0, 0), [], [])], [], 1)
set_option maxRecDepth 100000 in
theorem mjC_fitsx_46 : mjCtr (mjSW 0 240 mjWd_fitsx) 166 mjSm_fitsx_46 := aiOk_ctr mjUW_ok (env := []) (fun e he => (by cases he)) (pr := []) (cuts := []) (n := 11) (by decide +kernel)
def mjSm_fitsx_47 : MjSm := ([(3, 185, 185, 0, 0), (0, 19, 19, 0, 0), (0, -2147483648, 2147483647, 0, 0)], [], [((0, 1, 1, 0, 0), [], [])], [], 1)
set_option maxRecDepth 100000 in
theorem mjC_fitsx_47 : mjCtr (mjSW 0 240 mjWd_fitsx) 166 mjSm_fitsx_47 := aiOk_ctr mjUW_ok (env := []) (fun e he => (by cases he)) (pr := []) (cuts := []) (n := 11) (by decide +kernel)
def mjSm_fitsx_48 : MjSm := ([(3, 185, 185, 0, 0), (0, 20, 20, 0, 0), (0, -2147483648, 2147483647, 0, 0)], [], [((0, 1, 1, 0, 0), [], [])], [], 1)
set_option maxRecDepth 100000 in
theorem mjC_fitsx_48 : mjCtr (mjSW 0 240 mjWd_fitsx) 166 mjSm_fitsx_48 := aiOk_ctr mjUW_ok (env := []) (fun e he => (by cases he)) (pr := []) (cuts := []) (n := 11) (by decide +kernel)
def mjSm_fitsx_49 : MjSm := ([(3, 185, 185, 0, 0), (0, 21, 21, 0, 0), (0, -2147483648, 2147483647, 0, 0)], [], [((0, 1, 1, 0, 0), [], [])], [], 1)
set_option maxRecDepth 100000 in
theorem mjC_fitsx_49 : mjCtr (mjSW 0 240 mjWd_fitsx) 166 mjSm_fitsx_49 := aiOk_ctr mjUW_ok (env := []) (fun e he => (by cases he)) (pr := []) (cuts := []) (n := 11) (by decide +kernel)
def mjSm_fitsx_50 : MjSm := ([(3, 185, 185, 0, 0), (0, 22, 22, 0, 0), (0, -2147483648, 2147483647, 0, 0)], [], [((0, 1, 1, 0, 0), [], [])], [], 1)
set_option maxRecDepth 100000 in
theorem mjC_fitsx_50 : mjCtr (mjSW 0 240 mjWd_fitsx) 166 mjSm_fitsx_50 := aiOk_ctr mjUW_ok (env := []) (fun e he => (by cases he)) (pr := []) (cuts := []) (n := 11) (by decide +kernel)
def mjSm_fitsx_51 : MjSm := ([(3, 185, 185, 0, 0), (0, 23, 23, 0, 0), (0, -2147483648, 2147483647, 0, 0)], [], [((0, 1, 1, 0, 0), [], [])], [], 1)
set_option maxRecDepth 100000 in
theorem mjC_fitsx_51 : mjCtr (mjSW 0 240 mjWd_fitsx) 166 mjSm_fitsx_51 := aiOk_ctr mjUW_ok (env := []) (fun e he => (by cases he)) (pr := []) (cuts := []) (n := 11) (by decide +kernel)
def mjSm_fitsx_52 : MjSm := ([(3, 185, 185, 0, 0), (0, 24, 24, 0, 0), (0, -2147483648, 2147483647, 0, 0)], [], [((0, 1, 1, 0, 0), [], [])], [], 1)
set_option maxRecDepth 100000 in
theorem mjC_fitsx_52 : mjCtr (mjSW 0 240 mjWd_fitsx) 166 mjSm_fitsx_52 := aiOk_ctr mjUW_ok (env := []) (fun e he => (by cases he)) (pr := []) (cuts := []) (n := 11) (by decide +kernel)
def mjSm_fitsx_53 : MjSm := ([(3, 185, 185, 0, 0), (0, 25, 25, 0, 0), (0, -2147483648, 2147483647, 0, 0)], [], [((0, 1, 1, 0, 0), [], [])], [], 1)
set_option maxRecDepth 100000 in
theorem mjC_fitsx_53 : mjCtr (mjSW 0 240 mjWd_fitsx) 166 mjSm_fitsx_53 := aiOk_ctr mjUW_ok (env := []) (fun e he => (by cases he)) (pr := []) (cuts := []) (n := 11) (by decide +kernel)
def mjSm_fitsx_54 : MjSm := ([(3, 185, 185, 0, 0), (0, 26, 26, 0, 0), (0, -2147483648, 2147483647, 0, 0)], [], [((0, 1, 1, 0, 0), [], [])], [], 1)
set_option maxRecDepth 100000 in
theorem mjC_fitsx_54 : mjCtr (mjSW 0 240 mjWd_fitsx) 166 mjSm_fitsx_54 := aiOk_ctr mjUW_ok (env := []) (fun e he => (by cases he)) (pr := []) (cuts := []) (n := 11) (by decide +kernel)
def mjSm_fitsx_55 : MjSm := ([(3, 185, 185, 0, 0), (0, 27, 27, 0, 0), (0, -2147483648, 2147483647, 0, 0)], [], [((0, 1, 1, 0, 0), [], [])], [], 1)
set_option maxRecDepth 100000 in
theorem mjC_fitsx_55 : mjCtr (mjSW 0 240 mjWd_fitsx) 166 mjSm_fitsx_55 := aiOk_ctr mjUW_ok (env := []) (fun e he => (by cases he)) (pr := []) (cuts := []) (n := 11) (by decide +kernel)
def mjSm_fitsx_56 : MjSm := ([(3, 185, 185, 0, 0), (0, 28, 28, 0, 0), (0, -2147483648, 2147483647, 0, 0)], [], [((0, 1, 1, 0, 0), [], [])], [], 1)
set_option maxRecDepth 100000 in
theorem mjC_fitsx_56 : mjCtr (mjSW 0 240 mjWd_fitsx) 166 mjSm_fitsx_56 := aiOk_ctr mjUW_ok (env := []) (fun e he => (by cases he)) (pr := []) (cuts := []) (n := 11) (by decide +kernel)
def mjSm_fitsx_57 : MjSm := ([(3, 185, 185, 0, 0), (0, 29, 29, 0, 0), (0, -2147483648, 2147483647, 0, 0)], [], [((0, 1, 1, 0, 0), [], [])], [], 1)
set_option maxRecDepth 100000 in
theorem mjC_fitsx_57 : mjCtr (mjSW 0 240 mjWd_fitsx) 166 mjSm_fitsx_57 := aiOk_ctr mjUW_ok (env := []) (fun e he => (by cases he)) (pr := []) (cuts := []) (n := 11) (by decide +kernel)
def mjSm_fitsx_58 : MjSm := ([(3, 185, 185, 0, 0), (0, 30, 30, 0, 0), (0, -2147483648, 2147483647, 0, 0)], [], [((0, 1, 1, 0, 0), [], [])], [], 1)
set_option maxRecDepth 100000 in
theorem mjC_fitsx_58 : mjCtr (mjSW 0 240 mjWd_fitsx) 166 mjSm_fitsx_58 := aiOk_ctr mjUW_ok (env := []) (fun e he => (by cases he)) (pr := []) (cuts := []) (n := 11) (by decide +kernel)
def mjSm_fitsx_59 : MjSm := ([(0, 2147483647, 2147483647, 0, 0)], [], [((0, 31, 31, 0, 0), [], [])], [], 1)
set_option maxRecDepth 100000 in
theorem mjC_fitsx_59 : mjCtr (mjSW 0 240 mjWd_fitsx) 99 mjSm_fitsx_59 := aiOk_ctr mjUW_ok (env := []) (fun e he => (by cases he)) (pr := []) (cuts := []) (n := 45) (by decide +kernel)
def mjSm_fitsx_60 : MjSm := ([(3, 185, 185, 0, 0), (3, 209, 209, 0, 0), (3, 193, 193, 0, 0), (0, -2147483648, 2147483647, 0, 0)], [(185, 6, (0, 0, 0, 0, 0)), (185, 9, (0, 0, 0, 0, 0)), (209, 8, (0, 0, 0, 0, 0))], [((0, 31, 31, 0, 0), [], [(185, 6, (0, 1, 1, 0, 0)), (185, 9, (0, 2147483647, 2147483647, 0, 0))])], [(186, 6), (186, 9), (192, 255), (210, 2), (210, 3), (210, 7), (210, 8), (210, 9), (211, 3), (211, 4), (211, 5), (211, 6), (211, 7), (212, 255), (213, 255), (214, 255), (215, 255), (216, 255), (217, 255), (218, 255)], 6)
set_option maxRecDepth 100000 in
theorem mjC_fitsx_60 : mjCtr (mjSW 0 240 mjWd_fitsx) 164 mjSm_fitsx_60 := aiOk_ctr mjUW_ok (env := [(165, mjSm_fitsx_27), (99, mjSm_fitsx_59), (166, mjSm_fitsx_51), (166, mjSm_fitsx_35), (166, mjSm_fitsx_34), (166, mjSm_fitsx_48), (166, mjSm_fitsx_28), (166, mjSm_fitsx_32), (166, mjSm_fitsx_30), (166, mjSm_fitsx_44), (166, mjSm_fitsx_40), (166, mjSm_fitsx_38), (166, mjSm_fitsx_43), (166, mjSm_fitsx_49), (166, mjSm_fitsx_31), (166, mjSm_fitsx_52), (166, mjSm_fitsx_36), (166, mjSm_fitsx_33), (166, mjSm_fitsx_46), (166, mjSm_fitsx_47), (166, mjSm_fitsx_41), (166, mjSm_fitsx_57), (166, mjSm_fitsx_29), (166, mjSm_fitsx_56), (166, mjSm_fitsx_55), (166, mjSm_fitsx_53), (166, mjSm_fitsx_54), (166, mjSm_fitsx_50), (166, mjSm_fitsx_58), (166, mjSm_fitsx_37), (166, mjSm_fitsx_39), (166, mjSm_fitsx_45), (166, mjSm_fitsx_42)]) (mjEnvC mjC_fitsx_27 (mjEnvC mjC_fitsx_59 (mjEnvC mjC_fitsx_51 (mjEnvC mjC_fitsx_35 (mjEnvC mjC_fitsx_34 (mjEnvC mjC_fitsx_48 (mjEnvC mjC_fitsx_28 (mjEnvC mjC_fitsx_32 (mjEnvC mjC_fitsx_30 (mjEnvC mjC_fitsx_44 (mjEnvC mjC_fitsx_40 (mjEnvC mjC_fitsx_38 (mjEnvC mjC_fitsx_43 (mjEnvC mjC_fitsx_49 (mjEnvC mjC_fitsx_31 (mjEnvC mjC_fitsx_52 (mjEnvC mjC_fitsx_36 (mjEnvC mjC_fitsx_33 (mjEnvC mjC_fitsx_46 (mjEnvC mjC_fitsx_47 (mjEnvC mjC_fitsx_41 (mjEnvC mjC_fitsx_57 (mjEnvC mjC_fitsx_29 (mjEnvC mjC_fitsx_56 (mjEnvC mjC_fitsx_55 (mjEnvC mjC_fitsx_53 (mjEnvC mjC_fitsx_54 (mjEnvC mjC_fitsx_50 (mjEnvC mjC_fitsx_58 (mjEnvC mjC_fitsx_37 (mjEnvC mjC_fitsx_39 (mjEnvC mjC_fitsx_45 (mjEnvC mjC_fitsx_42 (fun e he => (by cases he))))))))))))))))))))))))))))))))))) (pr := []) (cuts := []) (n := 580) (by decide +kernel)
def mjSm_fitsx_61 : MjSm := ([(3, 0, 0, 0, 0), (0, -2147483648, 2147483647, 0, 0)], [(185, 6, (0, 0, 0, 0, 0)), (185, 9, (0, 0, 0, 0, 0)), (209, 8, (0, 0, 0, 0, 0))], [((0, 31, 31, 0, 0), [], [(185, 6, (0, 1, 1, 0, 0)), (185, 9, (0, 2147483647, 2147483647, 0, 0))])], [(186, 6), (186, 9), (192, 255), (210, 2), (210, 3), (210, 7), (210, 8), (210, 9), (211, 3), (211, 4), (211, 5), (211, 6), (211, 7), (212, 255), (213, 255), (214, 255), (215, 255), (216, 255), (217, 255), (218, 255)], 7)
set_option maxRecDepth 100000 in
theorem mjC_fitsx_61 : mjCtr (mjSW 0 240 mjWd_fitsx) 163 mjSm_fitsx_61 := aiOk_ctr mjUW_ok (env := [(164, mjSm_fitsx_60)]) (mjEnvC mjC_fitsx_60 (fun e he => (by cases he))) (pr := []) (cuts := []) (n := 12) (by decide +kernel)
def mjWd_fitsm : MjWd := [(240, 49, (0, 0, 3)), (240, 50, (0, 0, 2)), (240, 56, (0, -2147483648, 2147483647)), (240, 57, (0, 0, 3)), (240, 58, (0, -2147483648, 2147483647)), (274, 0, (0, 0, 99)), (274, 1, (0, 0, 99)), (274, 2, (0, 0, 99)), (274, 3, (0, 0, 99)), (274, 4, (0, 0, 99)), (274, 5, (0, 0, 99)), (274, 6, (0, 0, 99)), (274, 7, (0, 0, 99)), (274, 8, (0, 0, 99)), (274, 9, (0, 0, 99)), (274, 10, (0, 0, 99)), (274, 11, (0, 0, 99)), (274, 12, (0, 0, 99)), (274, 13, (0, 0, 99)), (274, 14, (0, 0, 99)), (274, 15, (0, 0, 99)), (274, 16, (0, 0, 99)), (274, 17, (0, 0, 99)), (274, 68, (0, -2147483648, 2147483647)), (275, 0, (0, 0, 99)), (275, 1, (0, 0, 99)), (275, 2, (0, 0, 99)), (275, 3, (0, 0, 99)), (275, 4, (0, 0, 99)), (275, 5, (0, 0, 99)), (275, 6, (0, 0, 99)), (275, 7, (0, 0, 99)), (275, 8, (0, 0, 99)), (275, 9, (0, 0, 99)), (275, 10, (0, 0, 99)), (275, 11, (0, 0, 99)), (275, 12, (0, 0, 99)), (275, 13, (0, 0, 99)), (275, 14, (0, 0, 99)), (275, 15, (0, 0, 99)), (275, 16, (0, 0, 99)), (275, 17, (0, 0, 99)), (275, 68, (0, -2147483648, 2147483647)), (276, 255, (0, -2147483648, 2147483647))]
theorem mjWd_fitsm_ok : mjWdB mjWd_fitsm = true := by decide +kernel
def mjSm_fitsm_0 : MjSm := ([(3, 240, 240, 0, 0)], [], [((7, 0, 0, 0, 0), [], [])], [(276, 255)], 1)
set_option maxRecDepth 100000 in
theorem mjC_fitsm_0 : mjCtr (mjSW 240 290 mjWd_fitsm) 266 mjSm_fitsm_0 := aiOk_ctr mjUW_ok (env := []) (fun e he => (by cases he)) (pr := []) (cuts := []) (n := 919) (by decide +kernel)
def mjSm_fitsm_1 : MjSm := ([(3, 240, 240, 0, 0)], [], [((0, 0, 0, 0, 0), [], [])], [], 1)
set_option maxRecDepth 100000 in
theorem mjC_fitsm_1 : mjCtr (mjSW 240 290 mjWd_fitsm) 179 mjSm_fitsm_1 := aiOk_ctr mjUW_ok (env := []) (fun e he => (by cases he)) (pr := []) (cuts := []) (n := 9) (by decide +kernel)
def mjSm_fitsm_2 : MjSm := ([(3, 240, 240, 0, 0)], [], [((7, 0, 0, 0, 0), [], [])], [(275, 255)], 2)
set_option maxRecDepth 100000 in
theorem mjC_fitsm_2 : mjCtr (mjSW 240 290 mjWd_fitsm) 178 mjSm_fitsm_2 := aiOk_ctr mjUW_ok (env := [(179, mjSm_fitsm_1)]) (mjEnvC mjC_fitsm_1 (fun e he => (by cases he))) (pr := []) (cuts := [(2, ([(3, 240, 240, 0, 0), (0, 0, 70, 0, 0)], [], []), [(0, 0, 49998), (1, 1, 2147483647), (0, 0, 60000), (0, 0, 0), (0, 0, 0), (0, 0, 0), (0, 0, 0), (0, 0, 0)]), (23, ([(3, 240, 240, 0, 0), (0, 0, 30, 0, 0)], [], []), [(0, 0, 49977), (1, 1, 2147483647), (0, 0, 60000), (0, 0, 0), (0, 0, 0), (0, 0, 0), (0, 0, 0), (0, 0, 0)]), (82, ([(3, 240, 240, 0, 0), (0, 0, 0, 0, 0)], [], []), [(0, 0, 49918), (1, 1, 2147483647), (0, 0, 60000), (0, 0, 0), (0, 0, 0), (0, 0, 0), (0, 0, 0), (0, 0, 0)])]) (n := 38) (by decide +kernel)
def mjSm_fitsm_3 : MjSm := ([(3, 240, 240, 0, 0)], [], [((0, 4, 4, 0, 0), [], [])], [], 1)
set_option maxRecDepth 100000 in
theorem mjC_fitsm_3 : mjCtr (mjSW 240 290 mjWd_fitsm) 220 mjSm_fitsm_3 := aiOk_ctr mjUW_ok (env := []) (fun e he => (by cases he)) (pr := []) (cuts := []) (n := 9) (by decide +kernel)
def mjSm_fitsm_4 : MjSm := ([(3, 240, 240, 0, 0)], [], [((0, 3, 3, 0, 0), [], [])], [], 1)
set_option maxRecDepth 100000 in
theorem mjC_fitsm_4 : mjCtr (mjSW 240 290 mjWd_fitsm) 222 mjSm_fitsm_4 := aiOk_ctr mjUW_ok (env := []) (fun e he => (by cases he)) (pr := []) (cuts := []) (n := 9) (by decide +kernel)
def mjSm_fitsm_5 : MjSm := ([(0, 1, 100, 0, 0), (0, 0, 0, 0, 0), (0, 99, 99, 0, 0)], [], [((0, 99, 99, 0, 0), [(0, 100, 100)], []), ((0, 1, 99, 0, 0), [(0, 1, 99)], [])], [], 1)
set_option maxRecDepth 100000 in
theorem mjC_fitsm_5 : mjCtr (mjSW 240 290 mjWd_fitsm) 249 mjSm_fitsm_5 := aiOk_ctr mjUW_ok (env := []) (fun e he => (by cases he)) (pr := [0]) (cuts := []) (n := 12) (by decide +kernel)
def mjSm_fitsm_6 : MjSm := ([(3, 240, 240, 0, 0), (0, 0, 3, 0, 0), (0, 0, 2, 0, 0)], [], [((0, 0, 99, 0, 0), [], [])], [], 1)
set_option maxRecDepth 100000 in
theorem mjC_fitsm_6 : mjCtr (mjSW 240 290 mjWd_fitsm) 223 mjSm_fitsm_6 := aiOk_ctr mjUW_ok (env := []) (fun e he => (by cases he)) (pr := []) (cuts := []) (n := 14) (by decide +kernel)
def mjSm_fitsm_7 : MjSm := ([(3, 240, 240, 0, 0), (0, 0, 3, 0, 0), (0, 0, 2, 0, 0), (0, 1, 1, 0, 0)], [], [((7, 0, 0, 0, 0), [], [])], [(275, 255)], 2)
set_option maxRecDepth 100000 in
theorem mjC_fitsm_7 : mjCtr (mjSW 240 290 mjWd_fitsm) 248 mjSm_fitsm_7 := aiOk_ctr mjUW_ok (env := [(223, mjSm_fitsm_6), (249, mjSm_fitsm_5)]) (mjEnvC mjC_fitsm_6 (mjEnvC mjC_fitsm_5 (fun e he => (by cases he)))) (pr := []) (cuts := []) (n := 23) (by decide +kernel)
def mjSm_fitsm_8 : MjSm := ([(0, 0, 0, 0, 0), (0, 2, 2, 0, 0)], [], [((0, 0, 0, 0, 0), [], [])], [], 1)
set_option maxRecDepth 100000 in
theorem mjC_fitsm_8 : mjCtr (mjSW 240 290 mjWd_fitsm) 191 mjSm_fitsm_8 := aiOk_ctr mjUW_ok (env := []) (fun e he => (by cases he)) (pr := []) (cuts := []) (n := 12) (by decide +kernel)
def mjSm_fitsm_9 : MjSm := ([(3, 240, 240, 0, 0), (0, 0, 3, 0, 0)], [], [((0, 0, 0, 0, 0), [], [])], [], 1)
set_option maxRecDepth 100000 in
theorem mjC_fitsm_9 : mjCtr (mjSW 240 290 mjWd_fitsm) 226 mjSm_fitsm_9 := aiOk_ctr mjUW_ok (env := []) (fun e he => (by cases he)) (pr := []) (cuts := [(4, ([(3, 240, 240, 0, 0), (0, 0, 3, 0, 0), (0, 0, 0, 0, 0), (0, 0, 0, 0, 0)], [], []), [(0, 0, 49996), (1, 3, 2147483647), (0, 0, 60000), (0, 0, 0), (0, 0, 0), (0, 0, 0), (0, 0, 0), (0, 0, 0)])]) (n := 12) (by decide +kernel)
def mjSm_fitsm_10 : MjSm := ([(0, 0, 3, 0, 0), (0, 0, 0, 0, 0), (0, 3, 3, 0, 0)], [], [((0, 1, 1, 0, 0), [], [])], [], 1)
set_option maxRecDepth 100000 in
theorem mjC_fitsm_10 : mjCtr (mjSW 240 290 mjWd_fitsm) 221 mjSm_fitsm_10 := aiOk_ctr mjUW_ok (env := []) (fun e he => (by cases he)) (pr := []) (cuts := []) (n := 12) (by decide +kernel)
def mjSm_fitsm_11 : MjSm := ([(3, 240, 240, 0, 0), (0, 0, 3, 0, 0)], [], [((0, 1, 1, 0, 0), [], [])], [], 2)
set_option maxRecDepth 100000 in
theorem mjC_fitsm_11 : mjCtr (mjSW 240 290 mjWd_fitsm) 219 mjSm_fitsm_11 := aiOk_ctr mjUW_ok (env := [(220, mjSm_fitsm_3), (221, mjSm_fitsm_10)]) (mjEnvC mjC_fitsm_3 (mjEnvC mjC_fitsm_10 (fun e he => (by cases he)))) (pr := []) (cuts := []) (n := 11) (by decide +kernel)
def mjSm_fitsm_12 : MjSm := ([(3, 240, 240, 0, 0), (0, 0, 3, 0, 0), (0, 1, 2, 0, 0)], [], [((0, 0, 0, 0, 0), [], [])], [], 1)
set_option maxRecDepth 100000 in
theorem mjC_fitsm_12 : mjCtr (mjSW 240 290 mjWd_fitsm) 224 mjSm_fitsm_12 := aiOk_ctr mjUW_ok (env := []) (fun e he => (by cases he)) (pr := []) (cuts := []) (n := 14) (by decide +kernel)
def mjSm_fitsm_13 : MjSm := ([(3, 240, 240, 0, 0), (0, 0, 3, 0, 0), (0, 1, 2, 0, 0)], [], [((0, 0, 99, 0, 0), [], [])], [], 1)
set_option maxRecDepth 100000 in
theorem mjC_fitsm_13 : mjCtr (mjSW 240 290 mjWd_fitsm) 223 mjSm_fitsm_13 := aiOk_ctr mjUW_ok (env := []) (fun e he => (by cases he)) (pr := []) (cuts := []) (n := 14) (by decide +kernel)
def mjSm_fitsm_14 : MjSm := ([(3, 240, 240, 0, 0), (0, 0, 3, 0, 0), (0, 0, 2, 0, 0), (0, 0, 0, 0, 0)], [], [((0, 0, 0, 0, 0), [], []), ((0, 1, 1, 0, 0), [], [])], [(241, 49), (241, 50), (241, 51)], 2)
set_option maxRecDepth 100000 in
theorem mjC_fitsm_14 : mjCtr (mjSW 240 290 mjWd_fitsm) 225 mjSm_fitsm_14 := aiOk_ctr mjUW_ok (env := [(191, mjSm_fitsm_8), (226, mjSm_fitsm_9), (223, mjSm_fitsm_6)]) (mjEnvC mjC_fitsm_8 (mjEnvC mjC_fitsm_9 (mjEnvC mjC_fitsm_6 (fun e he => (by cases he))))) (pr := []) (cuts := []) (n := 52) (by decide +kernel)
def mjSm_fitsm_15 : MjSm := ([(3, 240, 240, 0, 0), (0, 0, 3, 0, 0), (0, 0, 2, 0, 0), (0, 1, 1, 0, 0)], [], [((7, 0, 0, 0, 0), [], [])], [(241, 57), (241, 58), (275, 255)], 3)
set_option maxRecDepth 100000 in
theorem mjC_fitsm_15 : mjCtr (mjSW 240 290 mjWd_fitsm) 241 mjSm_fitsm_15 := aiOk_ctr mjUW_ok (env := [(222, mjSm_fitsm_4), (219, mjSm_fitsm_11), (223, mjSm_fitsm_13), (224, mjSm_fitsm_12), (223, mjSm_fitsm_6)]) (mjEnvC mjC_fitsm_4 (mjEnvC mjC_fitsm_11 (mjEnvC mjC_fitsm_13 (mjEnvC mjC_fitsm_12 (mjEnvC mjC_fitsm_6 (fun e he => (by cases he))))))) (pr := []) (cuts := [(37, ([(3, 240, 240, 0, 0), (0, 0, 3, 0, 0), (0, 0, 2, 0, 0), (0, 1, 1, 0, 0), (0, 1, 3, 0, 0), (9, 0, 0, 0, 0)], [], []), [(0, 0, 49963), (1, 4, 2147483647), (0, 0, 60000), (0, 0, 0), (0, 0, 0), (0, 0, 0), (0, 0, 0), (0, 0, 0)])]) (n := 59) (by decide +kernel)
def mjSm_fitsm_16 : MjSm := ([(3, 240, 240, 0, 0), (0, 0, 3, 0, 0), (0, 0, 2, 0, 0), (0, 0, 0, 0, 0)], [], [((7, 0, 0, 0, 0), [], [])], [(241, 49), (241, 50), (241, 51), (241, 56), (241, 57), (241, 58), (275, 255), (277, 255)], 4)
set_option maxRecDepth 100000 in
theorem mjC_fitsm_16 : mjCtr (mjSW 240 290 mjWd_fitsm) 250 mjSm_fitsm_16 := aiOk_ctr mjUW_ok (env := [(179, mjSm_fitsm_1), (241, mjSm_fitsm_15), (225, mjSm_fitsm_14)]) (mjEnvC mjC_fitsm_1 (mjEnvC mjC_fitsm_15 (mjEnvC mjC_fitsm_14 (fun e he => (by cases he))))) (pr := []) (cuts := [(55, ([(3, 240, 240, 0, 0), (0, 0, 3, 0, 0), (0, 0, 2, 0, 0), (0, 0, 0, 0, 0), (0, 0, 0, 0, 0)], [], []), [(0, 0, 49945), (1, 4, 2147483647), (0, 0, 60000), (0, 0, 0), (0, 0, 0), (0, 0, 0), (0, 0, 0), (0, 0, 0)])]) (n := 35) (by decide +kernel)
def mjSm_fitsm_17 : MjSm := ([(3, 240, 240, 0, 0)], [], [((0, 0, 0, 0, 0), [], [])], [], 2)
set_option maxRecDepth 100000 in
theorem mjC_fitsm_17 : mjCtr (mjSW 240 290 mjWd_fitsm) 251 mjSm_fitsm_17 := aiOk_ctr mjUW_ok (env := [(179, mjSm_fitsm_1)]) (mjEnvC mjC_fitsm_1 (fun e he => (by cases he))) (pr := []) (cuts := [(4, ([(3, 240, 240, 0, 0), (0, 0, 0, 0, 0), (0, 0, 0, 0, 0)], [], []), [(0, 0, 49996), (1, 2, 2147483647), (0, 0, 60000), (0, 0, 0), (0, 0, 0), (0, 0, 0), (0, 0, 0), (0, 0, 0)])]) (n := 9) (by decide +kernel)
def mjSm_fitsm_18 : MjSm := ([(3, 240, 240, 0, 0), (0, 0, 0, 0, 0)], [], [((7, 0, 0, 0, 0), [], [])], [(241, 49), (241, 50), (241, 51), (241, 56), (241, 57), (241, 58), (275, 255), (277, 255)], 5)
set_option maxRecDepth 100000 in
theorem mjC_fitsm_18 : mjCtr (mjSW 240 290 mjWd_fitsm) 247 mjSm_fitsm_18 := aiOk_ctr mjUW_ok (env := [(220, mjSm_fitsm_3), (251, mjSm_fitsm_17), (222, mjSm_fitsm_4), (250, mjSm_fitsm_16), (248, mjSm_fitsm_7)]) (mjEnvC mjC_fitsm_3 (mjEnvC mjC_fitsm_17 (mjEnvC mjC_fitsm_4 (mjEnvC mjC_fitsm_16 (mjEnvC mjC_fitsm_7 (fun e he => (by cases he))))))) (pr := []) (cuts := [(7, ([(3, 240, 240, 0, 0), (0, 0, 0, 0, 0), (0, 0, 6, 0, 0), (9, 0, 0, 0, 0)], [], [(240, 56, (0, 0, 0, 0, 0))]), [(0, 0, 49993), (1, 2, 2147483647), (0, 0, 60000), (0, 0, 0), (0, 0, 0), (0, 0, 0), (0, 0, 0), (0, 0, 0)]), (52, ([(3, 240, 240, 0, 0), (0, 0, 0, 0, 0), (0, 1, 1, 0, 0), (0, 0, 12, 0, 0)], [], [(240, 56, (0, 0, 0, 0, 0))]), [(0, 0, 49948), (1, 3, 2147483647), (0, 0, 60000), (0, 0, 0), (0, 0, 0), (0, 0, 0), (0, 0, 0), (0, 0, 0)]), (159, ([(3, 240, 240, 0, 0), (0, 0, 0, 0, 0), (0, 1, 1, 0, 0), (0, 0, 12, 0, 0)], [], []), [(0, 0, 49841), (1, 3, 2147483647), (0, 0, 60000), (0, 0, 0), (0, 0, 0), (0, 0, 0), (0, 0, 0), (0, 0, 0)])]) (n := 28) (by decide +kernel)
def mjSm_fitsm_19 : MjSm := ([(3, 240, 240, 0, 0)], [], [((7, 0, 0, 0, 0), [], [])], [(275, 255)], 1)
set_option maxRecDepth 100000 in
theorem mjC_fitsm_19 : mjCtr (mjSW 240 290 mjWd_fitsm) 267 mjSm_fitsm_19 := aiOk_ctr mjUW_ok (env := []) (fun e he => (by cases he)) (pr := []) (cuts := []) (n := 919) (by decide +kernel)
def mjSm_fitsm_20 : MjSm := ([(3, 240, 240, 0, 0)], [(240, 57, (0, 0, 0, 0, 0))], [((7, 0, 0, 0, 0), [], [])], [(241, 49), (241, 50), (241, 51), (241, 56), (241, 57), (241, 58), (275, 255), (276, 255), (277, 255), (282, 255)], 6)
set_option maxRecDepth 100000 in
theorem mjC_fitsm_20 : mjCtr (mjSW 240 290 mjWd_fitsm) 302 mjSm_fitsm_20 := aiOk_ctr mjUW_ok (env := [(267, mjSm_fitsm_19), (266, mjSm_fitsm_0), (220, mjSm_fitsm_3), (247, mjSm_fitsm_18), (178, mjSm_fitsm_2)]) (mjEnvC mjC_fitsm_19 (mjEnvC mjC_fitsm_0 (mjEnvC mjC_fitsm_3 (mjEnvC mjC_fitsm_18 (mjEnvC mjC_fitsm_2 (fun e he => (by cases he))))))) (pr := []) (cuts := [(6, ([(3, 240, 240, 0, 0), (0, 0, 31, 0, 0), (9, 0, 0, 0, 0)], [], []), [(0, 0, 49994), (1, 1, 2147483647), (0, 0, 60000), (0, 0, 0), (0, 0, 0), (0, 0, 0), (0, 0, 0), (0, 0, 0)]), (34, ([(3, 240, 240, 0, 0), (0, 0, 30, 0, 0), (0, 0, 25, 0, 0)], [], []), [(0, 0, 49994), (1, 1, 2147483647), (0, 0, 49966), (1, 2, 2147483647), (0, 0, 60000), (0, 0, 0), (0, 0, 0), (0, 0, 0)])]) (n := 23) (by decide +kernel)
def mjSm_fitsm_21 : MjSm := ([(3, 240, 240, 0, 0), (0, 0, 0, 0, 0), (0, -2147483648, 2147483647, 0, 0)], [], [((0, 1, 1, 0, 0), [], [])], [], 1)
set_option maxRecDepth 100000 in
theorem mjC_fitsm_21 : mjCtr (mjSW 240 290 mjWd_fitsm) 303 mjSm_fitsm_21 := aiOk_ctr mjUW_ok (env := []) (fun e he => (by cases he)) (pr := []) (cuts := []) (n := 11) (by decide +kernel)
def mjSm_fitsm_22 : MjSm := ([(3, 240, 240, 0, 0), (0, 1, 1, 0, 0), (0, -2147483648, 2147483647, 0, 0)], [], [((0, 1, 1, 0, 0), [], [])], [], 1)
set_option maxRecDepth 100000 in
theorem mjC_fitsm_22 : mjCtr (mjSW 240 290 mjWd_fitsm) 303 mjSm_fitsm_22 := aiOk_ctr mjUW_ok (env := []) (fun e he => (by cases he)) (pr := []) (cuts := []) (n := 11) (by decide +kernel)
def mjSm_fitsm_23 : MjSm := ([(3, 240, 240, 0, 0), (0, 2, 2, 0, 0), (0, -2147483648, 2147483647, 0, 0)], [], [((0, 1, 1, 0, 0), [], [])], [], 1)
set_option maxRecDepth 100000 in
theorem mjC_fitsm_23 : mjCtr (mjSW 240 290 mjWd_fitsm) 303 mjSm_fitsm_23 := aiOk_ctr mjUW_ok (env := []) (fun e he => (by cases he)) (pr := []) (cuts := []) (n := 11) (by decide +kernel)
def mjSm_fitsm_24 : MjSm := ([(3, 240, 240, 0, 0), (0, 3, 3, 0, 0), (0, -2147483648, 2147483647, 0, 0)], [], [((0, 1, 1, 0, 0), [], [])], [], 1)
set_option maxRecDepth 100000 in
theorem mjC_fitsm_24 : mjCtr (mjSW 240 290 mjWd_fitsm) 303 mjSm_fitsm_24 := aiOk_ctr mjUW_ok (env := []) (fun e he => (by cases he)) (pr := []) (cuts := []) (n := 11) (by decide +kernel)
def mjSm_fitsm_25 : MjSm := ([(3, 240, 240, 0, 0), (0, 4, 4, 0, 0), (0, -2147483648, 2147483647, 0, 0)], [], [((0, 1, 1, 0, 0), [], [])], [], 1)
set_option maxRecDepth 100000 in
theorem mjC_fitsm_25 : mjCtr (mjSW 240 290 mjWd_fitsm) 303 mjSm_fitsm_25 := aiOk_ctr mjUW_ok (env := []) (fun e he => (by cases he)) (pr := []) (cuts := []) (n := 11) (by decide +kernel)
def mjSm_fitsm_26 : MjSm := ([(3, 240, 240, 0, 0), (0, 5, 5, 0, 0), (0, -2147483648, 2147483647, 0, 0)], [], [((0, 1, 1, 0, 0), [], [])], [], 1)
set_option maxRecDepth 100000 in
theorem mjC_fitsm_26 : mjCtr (mjSW 240 290 mjWd_fitsm) 303 mjSm_fitsm_26 := aiOk_ctr mjUW_ok (env := []) (fun e he => (by cases he)) (pr := []) (cuts := []) (n := 11) (by decide +kernel)
def mjSm_fitsm_27 : MjSm := ([(3, 240, 240, 0, 0), (0, 6, 6, 0, 0), (0, -2147483648, 2147483647, 0, 0)], [], [((0, 1, 1, 0, 0), [], [])], [], 1)
set_option maxRecDepth 100000 in
theorem mjC_fitsm_27 : mjCtr (mjSW 240 290 mjWd_fitsm) 303 mjSm_fitsm_27 := aiOk_ctr mjUW_ok (env := []) (fun e he => (by cases he)) (pr := []) (cuts := []) (n := 11) (by decide +kernel)
def mjSm_fitsm_28 : MjSm := ([(3, 240, 240, 0, 0), (0, 7, 7, 0, 0), (0, -2147483648, 2147483647, 0, 0)], [], [((0, 1, 1, 0, 0), [], [])], [], 1)
set_option maxRecDepth 100000 in
theorem mjC_fitsm_28 : mjCtr (mjSW 240 290 mjWd_fitsm) 303 mjSm_fitsm_28 := aiOk_ctr mjUW_ok (env := []) (fun e he => (by cases he)) (pr := []) (cuts := []) (n := 11) (by decide +kernel)
def mjSm_fitsm_29 : MjSm := ([(3, 240, 240, 0, 0), (0, 8, 8, 0, 0), (0, -2147483648, 2147483647, 0, 0)], [], [((0, 1, 1, 0, 0), [], [])], [], 1)
set_option maxRecDepth 100000 in
theorem mjC_fitsm_29 : mjCtr (mjSW 240 290 mjWd_fitsm) 303 mjSm_fitsm_29 := aiOk_ctr mjUW_ok (env := []) (fun e he => (by cases he)) (pr := []) (cuts := []) (n := 11) (by decide +kernel)
def mjSm_fitsm_30 : MjSm := ([(3, 240, 240, 0, 0), (0, 9, 9, 0, 0), (0, -2147483648, 2147483647, 0, 0)], [], [((0, 1, 1, 0, 0), [], [])], [], 1)
set_option maxRecDepth 100000 in
theorem mjC_fitsm_30 : mjCtr (mjSW 240 290 mjWd_fitsm) 303 mjSm_fitsm_30 := aiOk_ctr mjUW_ok (env := []) (fun e he => (by cases he)) (pr := []) (cuts := []) (n := 11) (by decide +kernel)
def mjSm_fitsm_31 : MjSm := ([(3, 240, 240, 0, 0), (0, 10, 10, 0, 0), (0, -2147483648, 2147483647, 0, 0)], [], [((0, 1, 1, 0, 0), [], [])], [], 1)
set_option maxRecDepth 100000 in
theorem mjC_fitsm_31 : mjCtr (mjSW 240 290 mjWd_fitsm) 303 mjSm_fitsm_31 := aiOk_ctr mjUW_ok (env := []) (fun e he => (by cases he)) (pr := []) (cuts := []) (n := 11) (by decide +kernel)
def mjSm_fitsm_32 : MjSm := ([(3, 240, 240, 0, 0), (0, 11, 11, 0, 0), (0, -2147483648, 2147483647, 0, 0)], [], [((0, 1, 1, 0, 0), [], [])], [], 1)
set_option maxRecDepth 100000 in
theorem mjC_fitsm_32 : mjCtr (mjSW 240 290 mjWd_fitsm) 303 mjSm_fitsm_32 := aiOk_ctr mjUW_ok (env := []) (fun e he => (by cases he)) (pr := []) (cuts := []) (n := 11) (by decide +kernel)
def mjSm_fitsm_33 : MjSm := ([(3, 240, 240, 0, 0), (0, 12, 12, 0, 0), (0, -2147483648, 2147483647, 0, 0)], [], [((0, 1, 1, 0, 0), [], [])], [], 1)
set_option maxRecDepth 100000 in
theorem mjC_fitsm_33 : mjCtr (mjSW 240 290 mjWd_fitsm) 303 mjSm_fitsm_33 := aiOk_ctr mjUW_ok (env := []) (fun e he => (by cases he)) (pr := []) (cuts := []) (n := 11) (by decide +kernel)
def mjSm_fitsm_34 : MjSm := ([(3, 240, 240, 0, 0), (0, 13, 13, 0, 0), (0, -2147483648, 2147483647, 0, 0)], [], [((0, 1, 1, 0, 0), [], [])], [], 1)
set_option maxRecDepth 100000 in
theorem mjC_fitsm_34 : mjCtr (mjSW 240 290 mjWd_fitsm) 303 mjSm_fitsm_34 := aiOk_ctr mjUW_ok (env := []) (fun e he => (by cases he)) (pr := []) (cuts := []) (n := 11) (by decide +kernel)
def mjSm_fitsm_35 : MjSm := ([(3, 240, 240, 0, 0), (0, 14, 14, 0, 0), (0, -2147483648, 2147483647, 0, 0)], [], [((0, 1, 1, 0, 0), [], [])], [], 1)
set_option maxRecDepth 100000 in
theorem mjC_fitsm_35 : mjCtr (mjSW 240 290 mjWd_fitsm) 303 mjSm_fitsm_35 := aiOk_ctr mjUW_ok (env := []) (fun e he => (by cases he)) (pr := []) (cuts := []) (n := 11) (by decide +kernel)
def mjSm_fitsm_36 : MjSm := ([(3, 240, 240, 0, 0), (0, 15, 15, 0, 0), (0, -2147483648, 2147483647, 0, 0)], [], [((0, 1, 1, 0, 0), [], [])], [], 1)
set_option maxRecDepth 100000 in
theorem mjC_fitsm_36 : mjCtr (mjSW 240 290 mjWd_fitsm) 303 mjSm_fitsm_36 := aiOk_ctr mjUW_ok (env := []) (fun e he => (by cases he)) (pr := []) (cuts := []) (n := 11) (by decide +kernel)
def mjSm_fitsm_37 : MjSm := ([(3, 240, 240, 0, 0), (0, 16, 16, 0, 0), (0, -2147483648, 2147483647, 0, 0)], [], [((0, 1, 1, 0, 0), [], [])], [], 1)
set_option maxRecDepth 100000 in
theorem mjC_fitsm_37 : mjCtr (mjSW 240 290 mjWd_fitsm) 303 mjSm_fitsm_37 := aiOk_ctr mjUW_ok (env := []) (fun e he => (by cases he)) (pr := []) (cuts := []) (n := 11) (by decide +kernel)
def mjSm_fitsm_38 : MjSm := ([(3, 240, 240, 0, 0), (0, 17, 17, 0, 0), (0, -2147483648, 2147483647, 0, 0)], [], [((0, 1, 1, 0, 0), [], [])], [], 1)
set_option maxRecDepth 100000 in
theorem mjC_fitsm_38 : mjCtr (mjSW 240 290 mjWd_fitsm) 303 mjSm_fitsm_38 := aiOk_ctr mjUW_ok (env := []) (fun e he => (by cases he)) (pr := []) (cuts := []) (n := 11) (by decide +kernel)
def mjSm_fitsm_39 : MjSm := ([(3, 240, 240, 0, 0), (0, 18, 18, 0, 0), (0, -2147483648, 2147483647, 0, 0)], [], [((0, 1, 1, 0, 0), [], [])], [], 1)
set_option maxRecDepth 100000 in
theorem mjC_fitsm_39 : mjCtr (mjSW 240 290 mjWd_fitsm) 303 mjSm_fitsm_39 := aiOk_ctr mjUW_ok (env := []) (fun e he => (by cases he)) (pr := []) (cuts := []) (n := 11) (by decide +kernel)
def mjSm_fitsm_40 : MjSm := ([(3, 240, 240, 0, 0), (0, 19, 19, 0, 0), (0, -2147483648, 2147483647, 0, 0)], [], [((0, 1, 1, 0, 0), [], [])], [], 1)
set_option maxRecDepth 100000 in
theorem mjC_fitsm_40 : mjCtr (mjSW 240 290 mjWd_fitsm) 303 mjSm_fitsm_40 := aiOk_ctr mjUW_ok (env := []) (fun e he => (by cases he)) (pr := []) (cuts := []) (n := 11) (by decide +kernel)
def mjSm_fitsm_41 : MjSm := ([(3, 240, 240, 0, 0), (0, 20, 20, 0, 0), (0, -2147483648, 2147483647, 0, 0)], [], [((0, 1, 1, 0, 0), [], [])], [], 1)
set_option maxRecDepth 100000 in
theorem mjC_fitsm_41 : mjCtr (mjSW 240 290 mjWd_fitsm) 303 mjSm_fitsm_41 := aiOk_ctr mjUW_ok (env := []) (fun e he => (by cases he)) (pr := []) (cuts := []) (n := 11) (by decide +kernel)
def mjSm_fitsm_42 : MjSm := ([(3, 240, 240, 0, 0), (0, 21, 21, 0, 0), (0, -2147483648, 2147483647, 0, 0)], [], [((0, 1, 1, 0, 0), [], [])], [], 1)
set_option maxRecDepth 100000 in
theorem mjC_fitsm_42 : mjCtr (mjSW 240 290 mjWd_fitsm) 303 mjSm_fitsm_42 := aiOk_ctr mjUW_ok (env := []) (fun e he => (by cases he)) (pr := []) (cuts := []) (n := 11) (by decide +kernel)
def mjSm_fitsm_43 : MjSm := ([(3, 240, 240, 0, 0), (0, 22, 22, 0, 0), (0, -2147483648, 2147483647, 0, 0)], [], [((0, 1, 1, 0, 0), [], [])], [], 1)
set_option maxRecDepth 100000 in
theorem mjC_fitsm_43 : mjCtr (mjSW 240 290 mjWd_fitsm) 303 mjSm_fitsm_43 := aiOk_ctr mjUW_ok (env := []) (fun e he => (by cases he)) (pr := []) (cuts := []) (n := 11) (by decide +kernel)
def mjSm_fitsm_44 : MjSm := ([(3, 240, 240, 0, 0), (0, 23, 23, 0, 0), (0, -2147483648, 2147483647, 0, 0)], [], [((0, 1, 1, 0, 0), [], [])], [], 1)
set_option maxRecDepth 100000 in
theorem mjC_fitsm_44 : mjCtr (mjSW 240 290 mjWd_fitsm) 303 mjSm_fitsm_44 := aiOk_ctr mjUW_ok (env := []) (fun e he => (by cases he)) (pr := []) (cuts := []) (n := 11) (by decide +kernel)
def mjSm_fitsm_45 : MjSm := ([(3, 240, 240, 0, 0), (0, 24, 24, 0, 0), (0, -2147483648, 2147483647, 0, 0)], [], [((0, 1, 1, 0, 0), [], [])], [], 1)
set_option maxRecDepth 100000 in
theorem mjC_fitsm_45 : mjCtr (mjSW 240 290 mjWd_fitsm) 303 mjSm_fitsm_45 := aiOk_ctr mjUW_ok (env := []) (fun e he => (by cases he)) (pr := []) (cuts := []) (n := 11) (by decide +kernel)
def mjSm_fitsm_46 : MjSm := ([(3, 240, 240, 0, 0), (0, 25, 25, 0, 0), (0, -2147483648, 2147483647, 0, 0)], [], [((0, 1, 1, 0, 0), [], [])], [], 1)
set_option maxRecDepth 100000 in
theorem mjC_fitsm_46 : mjCtr (mjSW 240 290 mjWd_fitsm) 303 mjSm_fitsm_46 := aiOk_ctr mjUW_ok (env := []) (fun e he => (by cases he)) (pr := []) (cuts := []) (n := 11) (by decide +kernel)
def mjSm_fitsm_47 : MjSm := ([(3, 240, 240, 0, 0), (0, 26, 26, 0, 0), (0, -2147483648, 2147483647, 0, 0)], [], [((0, 1, 1, 0, 0), [], [])], [], 1)
set_option maxRecDepth 100000 in
theorem mjC_fitsm_47 : mjCtr (mjSW 240 290 mjWd_fitsm) 303 mjSm_fitsm_47 := aiOk_ctr mjUW_ok (env := []) (fun e he => (by cases he)) (pr := []) (cuts := []) (n := 11) (by decide +kernel)
def mjSm_fitsm_48 : MjSm := ([(3, 240, 240, 0, 0), (0, 27, 27, 0, 0), (0, -2147483648, 2147483647, 0, 0)], [], [((0, 1, 1, 0, 0), [], [])], [], 1)
set_option maxRecDepth 100000 in
theorem mjC_fitsm_48 : mjCtr (mjSW 240 290 mjWd_fitsm) 303 mjSm_fitsm_48 := aiOk_ctr mjUW_ok (env := []) (fun e he => (by cases he)) (pr := []) (cuts := []) (n := 11) (by decide +kernel)
def mjSm_fitsm_49 : MjSm := ([(3, 240, 240, 0, 0), (0, 28, 28, 0, 0), (0, -2147483648, 2147483647, 0, 0)], [], [((0, 1, 1, 0, 0), [], [])], [], 1)
set_option maxRecDepth 100000 in
theorem mjC_fitsm_49 : mjCtr (mjSW 240 290 mjWd_fitsm) 303 mjSm_fitsm_49 := aiOk_ctr mjUW_ok (env := []) (fun e he => (by cases he)) (pr := []) (cuts := []) (n := 11) (by decide +kernel)
def mjSm_fitsm_50 : MjSm := ([(3, 240, 240, 0, 0), (0, 29, 29, 0, 0), (0, -2147483648, 2147483647, 0, 0)], [], [((0, 1, 1, 0, 0), [], [])], [], 1)
set_option maxRecDepth 100000 in
theorem mjC_fitsm_50 : mjCtr (mjSW 240 290 mjWd_fitsm) 303 mjSm_fitsm_50 := aiOk_ctr mjUW_ok (env := []) (fun e he => (by cases he)) (pr := []) (cuts := []) (n := 11) (by decide +kernel)
def mjSm_fitsm_51 : MjSm := ([(3, 240, 240, 0, 0), (0, 30, 30, 0, 0), (0, -2147483648, 2147483647, 0, 0)], [], [((0, 1, 1, 0, 0), [], [])], [], 1)
set_option maxRecDepth 100000 in
theorem mjC_fitsm_51 : mjCtr (mjSW 240 290 mjWd_fitsm) 303 mjSm_fitsm_51 := aiOk_ctr mjUW_ok (env := []) (fun e he => (by cases he)) (pr := []) (cuts := []) (n := 11) (by decide +kernel)
def mjSm_fitsm_52 : MjSm := ([(3, 240, 240, 0, 0), (0, -2147483648, 2147483647, 0, 0)], [(240, 57, (0, 0, 0, 0, 0))], [((0, 31, 31, 0, 0), [], [])], [(241, 49), (241, 50), (241, 51), (241, 56), (241, 57), (241, 58), (275, 255), (276, 255), (277, 255), (282, 255)], 7)
set_option maxRecDepth 100000 in
theorem mjC_fitsm_52 : mjCtr (mjSW 240 290 mjWd_fitsm) 301 mjSm_fitsm_52 := aiOk_ctr mjUW_ok (env := [(302, mjSm_fitsm_20), (303, mjSm_fitsm_40), (303, mjSm_fitsm_22), (303, mjSm_fitsm_41), (303, mjSm_fitsm_46), (303, mjSm_fitsm_38), (303, mjSm_fitsm_33), (303, mjSm_fitsm_24), (303, mjSm_fitsm_50), (303, mjSm_fitsm_47), (303, mjSm_fitsm_51), (303, mjSm_fitsm_30), (303, mjSm_fitsm_45), (303, mjSm_fitsm_35), (303, mjSm_fitsm_49), (303, mjSm_fitsm_25), (303, mjSm_fitsm_29), (303, mjSm_fitsm_44), (303, mjSm_fitsm_32), (303, mjSm_fitsm_21), (303, mjSm_fitsm_28), (303, mjSm_fitsm_23), (303, mjSm_fitsm_34), (303, mjSm_fitsm_31), (303, mjSm_fitsm_42), (303, mjSm_fitsm_39), (303, mjSm_fitsm_48), (303, mjSm_fitsm_37), (303, mjSm_fitsm_43), (303, mjSm_fitsm_27), (303, mjSm_fitsm_26), (303, mjSm_fitsm_36)]) (mjEnvC mjC_fitsm_20 (mjEnvC mjC_fitsm_40 (mjEnvC mjC_fitsm_22 (mjEnvC mjC_fitsm_41 (mjEnvC mjC_fitsm_46 (mjEnvC mjC_fitsm_38 (mjEnvC mjC_fitsm_33 (mjEnvC mjC_fitsm_24 (mjEnvC mjC_fitsm_50 (mjEnvC mjC_fitsm_47 (mjEnvC mjC_fitsm_51 (mjEnvC mjC_fitsm_30 (mjEnvC mjC_fitsm_45 (mjEnvC mjC_fitsm_35 (mjEnvC mjC_fitsm_49 (mjEnvC mjC_fitsm_25 (mjEnvC mjC_fitsm_29 (mjEnvC mjC_fitsm_44 (mjEnvC mjC_fitsm_32 (mjEnvC mjC_fitsm_21 (mjEnvC mjC_fitsm_28 (mjEnvC mjC_fitsm_23 (mjEnvC mjC_fitsm_34 (mjEnvC mjC_fitsm_31 (mjEnvC mjC_fitsm_42 (mjEnvC mjC_fitsm_39 (mjEnvC mjC_fitsm_48 (mjEnvC mjC_fitsm_37 (mjEnvC mjC_fitsm_43 (mjEnvC mjC_fitsm_27 (mjEnvC mjC_fitsm_26 (mjEnvC mjC_fitsm_36 (fun e he => (by cases he)))))))))))))))))))))))))))))))))) (pr := []) (cuts := []) (n := 479) (by decide +kernel)
set_option maxRecDepth 100000 in
theorem mjPair_fits (sc : List Int32) (s1 : Int32)  : ∃ (v : Int32) (n1 : Nat) (w1 : MjW) (n2 : Nat) (w2 : MjW), mjEx mjTb mjMt sc n1 7 163 0 (mjEntry mjM_163.2.2.1 (.ref 0 :: [.int s1])) [] mjW0 = some (some (.int v), w1) ∧ mjEx mjTb mjMt sc n2 7 301 0 (mjEntry mjM_301.2.2.1 (.ref 240 :: [.int s1])) [] w1 = some (some (.int v), w2) ∧ mjShp w1 = mjShp mjW0 ∧ mjShp w2 = mjShp mjW0 := mj_pair (smx := mjSm_fitsx_61) (smm := mjSm_fitsm_52) mjC_fitsx_61 mjC_fitsm_52 mjWd_fitsx_ok mjWd_fitsm_ok (by decide +kernel) (by decide +kernel) (by decide +kernel) (by decide +kernel) (by decide +kernel) ⟨⟨0, rfl, rfl⟩, ⟨⟨s1, rfl, mjB.all s1⟩, trivial⟩⟩ ⟨⟨240, rfl, rfl⟩, ⟨⟨s1, rfl, mjB.all s1⟩, trivial⟩⟩ rfl rfl
