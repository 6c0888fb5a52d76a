def mjWd_placesx : MjWd := [(209, 7, (0, -2147483648, 2147483647)), (209, 8, (0, 0, 3)), (209, 9, (0, -2147483648, 2147483647)), (210, 6, (0, -2147483648, 2147483647)), (210, 7, (0, 0, 999)), (211, 255, (0, 0, 99)), (214, 255, (0, -2147483648, 2147483647)), (216, 255, (0, -2147483648, 2147483647)), (217, 255, (0, 0, 2147483647)), (224, 2, (6, 0, 0)), (224, 9, (0, -1, 0))]
theorem mjWd_placesx_ok : mjWdB mjWd_placesx = true := by decide +kernel
def mjSm_placesx_0 : MjSm := ([(3, 18, 18, 0, 0)], [], [((3, 20, 20, 0, 0), [], [])], [], 1)
set_option maxRecDepth 100000 in
theorem mjC_placesx_0 : mjCtr (mjSW 0 240 mjWd_placesx) 70 mjSm_placesx_0 := aiOk_ctr mjUW_ok (env := []) (fun e he => (by cases he)) (pr := []) (cuts := []) (n := 9) (by decide +kernel)
def mjSm_placesx_1 : MjSm := ([(3, 210, 210, 0, 0), (3, 20, 20, 0, 0)], [], [((7, 0, 0, 0, 0), [], [])], [(211, 3), (211, 4), (211, 5), (211, 6), (211, 7), (212, 255), (213, 255), (214, 255)], 1)
set_option maxRecDepth 100000 in
theorem mjC_placesx_1 : mjCtr (mjSW 0 240 mjWd_placesx) 64 mjSm_placesx_1 := aiOk_ctr mjUW_ok (env := []) (fun e he => (by cases he)) (pr := []) (cuts := []) (n := 48) (by decide +kernel)
def mjSm_placesx_2 : MjSm := ([(3, 216, 216, 0, 0), (0, 0, 0, 0, 0)], [], [((7, 0, 0, 0, 0), [], [])], [(217, 255)], 1)
set_option maxRecDepth 100000 in
theorem mjC_placesx_2 : mjCtr (mjSW 0 240 mjWd_placesx) 6 mjSm_placesx_2 := aiOk_ctr mjUW_ok (env := []) (fun e he => (by cases he)) (pr := []) (cuts := [(5, ([(3, 216, 216, 0, 0), (0, 0, 0, 0, 0), (0, 0, 6, 0, 0), (0, 6, 6, 0, 0)], [], []), [(0, 0, 49995), (1, 2, 2147483647), (0, 0, 60000), (0, 0, 0), (0, 0, 0), (0, 0, 0), (0, 0, 0), (0, 0, 0)])]) (n := 12) (by decide +kernel)
def mjSm_placesx_3 : MjSm := ([(3, 217, 217, 0, 0), (0, 0, 0, 0, 0)], [], [((7, 0, 0, 0, 0), [], [])], [(218, 255)], 1)
set_option maxRecDepth 100000 in
theorem mjC_placesx_3 : mjCtr (mjSW 0 240 mjWd_placesx) 6 mjSm_placesx_3 := aiOk_ctr mjUW_ok (env := []) (fun e he => (by cases he)) (pr := []) (cuts := [(5, ([(3, 217, 217, 0, 0), (0, 0, 0, 0, 0), (0, 0, 6, 0, 0), (0, 6, 6, 0, 0)], [], []), [(0, 0, 49995), (1, 2, 2147483647), (0, 0, 60000), (0, 0, 0), (0, 0, 0), (0, 0, 0), (0, 0, 0), (0, 0, 0)])]) (n := 12) (by decide +kernel)
def mjSm_placesx_4 : MjSm := ([(3, 215, 215, 0, 0), (0, 0, 0, 0, 0)], [], [((7, 0, 0, 0, 0), [], [])], [(216, 255)], 1)
set_option maxRecDepth 100000 in
theorem mjC_placesx_4 : mjCtr (mjSW 0 240 mjWd_placesx) 6 mjSm_placesx_4 := aiOk_ctr mjUW_ok (env := []) (fun e he => (by cases he)) (pr := []) (cuts := [(5, ([(3, 215, 215, 0, 0), (0, 0, 0, 0, 0), (0, 0, 6, 0, 0), (0, 6, 6, 0, 0)], [], []), [(0, 0, 49995), (1, 2, 2147483647), (0, 0, 60000), (0, 0, 0), (0, 0, 0), (0, 0, 0), (0, 0, 0), (0, 0, 0)])]) (n := 12) (by decide +kernel)
def mjSm_placesx_5 : MjSm := ([(3, 193, 193, 0, 0), (3, 210, 210, 0, 0), (0, -2147483648, 2147483647, 0, 0)], [], [((0, 0, 0, 0, 0), [], [])], [], 1)
set_option maxRecDepth 100000 in
theorem mjC_placesx_5 : mjCtr (mjSW 0 240 mjWd_placesx) 75 mjSm_placesx_5 := aiOk_ctr mjUW_ok (env := []) (fun e he => (by cases he)) (pr := []) (cuts := [(5, ([(3, 193, 193, 0, 0), (3, 210, 210, 0, 0), (0, -2147483648, 2147483647, 0, 0), (0, 0, 0, 0, 0), (0, 0, 0, 0, 0), (9, 0, 0, 0, 0)], [], []), [(0, 0, 49995), (1, 4, 2147483647), (0, 0, 60000), (0, 0, 0), (0, 0, 0), (0, 0, 0), (0, 0, 0), (0, 0, 0)])]) (n := 9) (by decide +kernel)
def mjSm_placesx_6 : MjSm := ([(3, 209, 209, 0, 0)], [], [((7, 0, 0, 0, 0), [], [])], [(216, 255)], 2)
set_option maxRecDepth 100000 in
theorem mjC_placesx_6 : mjCtr (mjSW 0 240 mjWd_placesx) 74 mjSm_placesx_6 := aiOk_ctr mjUW_ok (env := [(6, mjSm_placesx_4), (75, mjSm_placesx_5)]) (mjEnvC mjC_placesx_4 (mjEnvC mjC_placesx_5 (fun e he => (by cases he)))) (pr := []) (cuts := [(32, ([(3, 209, 209, 0, 0), (0, 0, 0, 0, 0), (0, 0, 0, 0, 0)], [], []), [(0, 0, 49968), (1, 2, 2147483647), (0, 0, 60000), (0, 0, 0), (0, 0, 0), (0, 0, 0), (0, 0, 0), (0, 0, 0)])]) (n := 20) (by decide +kernel)
def mjSm_placesx_7 : MjSm := ([(3, 209, 209, 0, 0), (3, 193, 193, 0, 0), (3, 210, 210, 0, 0)], [], [((7, 0, 0, 0, 0), [], [])], [(210, 2), (210, 3), (210, 7), (216, 255), (217, 255), (218, 255)], 3)
set_option maxRecDepth 100000 in
theorem mjC_placesx_7 : mjCtr (mjSW 0 240 mjWd_placesx) 73 mjSm_placesx_7 := aiOk_ctr mjUW_ok (env := [(6, mjSm_placesx_3), (6, mjSm_placesx_2), (74, mjSm_placesx_6)]) (mjEnvC mjC_placesx_3 (mjEnvC mjC_placesx_2 (mjEnvC mjC_placesx_6 (fun e he => (by cases he))))) (pr := []) (cuts := []) (n := 23) (by decide +kernel)
def mjSm_placesx_8 : MjSm := ([(3, 209, 209, 0, 0), (3, 193, 193, 0, 0), (3, 20, 20, 0, 0)], [], [((7, 0, 0, 0, 0), [], [])], [(210, 2), (210, 3), (210, 7), (211, 3), (211, 4), (211, 5), (211, 6), (211, 7), (212, 255), (213, 255), (214, 255), (216, 255), (217, 255), (218, 255)], 4)
set_option maxRecDepth 100000 in
theorem mjC_placesx_8 : mjCtr (mjSW 0 240 mjWd_placesx) 72 mjSm_placesx_8 := aiOk_ctr mjUW_ok (env := [(73, mjSm_placesx_7), (64, mjSm_placesx_1)]) (mjEnvC mjC_placesx_7 (mjEnvC mjC_placesx_1 (fun e he => (by cases he)))) (pr := []) (cuts := []) (n := 13) (by decide +kernel)
def mjSm_placesx_9 : MjSm := ([(3, 224, 224, 0, 0), (3, 193, 193, 0, 0), (3, 20, 20, 0, 0)], [], [((7, 0, 0, 0, 0), [], [(224, 2, (3, 20, 20, 0, 0))])], [(210, 2), (210, 3), (210, 7), (211, 3), (211, 4), (211, 5), (211, 6), (211, 7), (212, 255), (213, 255), (214, 255), (216, 255), (217, 255), (218, 255), (225, 1), (225, 2)], 5)
set_option maxRecDepth 100000 in
theorem mjC_placesx_9 : mjCtr (mjSW 0 240 mjWd_placesx) 123 mjSm_placesx_9 := aiOk_ctr mjUW_ok (env := [(72, mjSm_placesx_8)]) (mjEnvC mjC_placesx_8 (fun e he => (by cases he))) (pr := []) (cuts := []) (n := 15) (by decide +kernel)
def mjSm_placesx_10 : MjSm := ([(3, 224, 224, 0, 0)], [(224, 2, (3, 20, 20, 0, 0))], [((0, 0, 0, 0, 0), [], [])], [], 1)
set_option maxRecDepth 100000 in
theorem mjC_placesx_10 : mjCtr (mjSW 0 240 mjWd_placesx) 124 mjSm_placesx_10 := aiOk_ctr mjUW_ok (env := []) (fun e he => (by cases he)) (pr := []) (cuts := []) (n := 14) (by decide +kernel)
def mjSm_placesx_11 : MjSm := ([(3, 209, 209, 0, 0), (0, 0, 0, 0, 0)], [], [((0, 0, 0, 0, 0), [], [])], [], 1)
set_option maxRecDepth 100000 in
theorem mjC_placesx_11 : mjCtr (mjSW 0 240 mjWd_placesx) 94 mjSm_placesx_11 := aiOk_ctr mjUW_ok (env := []) (fun e he => (by cases he)) (pr := []) (cuts := [(4, ([(3, 209, 209, 0, 0), (0, 0, 0, 0, 0), (0, 0, 0, 0, 0), (0, 0, 0, 0, 0)], [], []), [(0, 0, 49996), (1, 3, 2147483647), (0, 0, 60000), (0, 0, 0), (0, 0, 0), (0, 0, 0), (0, 0, 0), (0, 0, 0)])]) (n := 10) (by decide +kernel)
def mjSm_placesx_12 : MjSm := ([(3, 224, 224, 0, 0), (0, 0, 0, 0, 0)], [], [((7, 0, 0, 0, 0), [], [])], [], 1)
set_option maxRecDepth 100000 in
theorem mjC_placesx_12 : mjCtr (mjSW 0 240 mjWd_placesx) 125 mjSm_placesx_12 := aiOk_ctr mjUW_ok (env := []) (fun e he => (by cases he)) (pr := []) (cuts := []) (n := 11) (by decide +kernel)
def mjSm_placesx_13 : MjSm := ([(3, 209, 209, 0, 0), (0, -1, -1, 0, 0)], [], [((0, 0, 0, 0, 0), [], [])], [], 1)
set_option maxRecDepth 100000 in
theorem mjC_placesx_13 : mjCtr (mjSW 0 240 mjWd_placesx) 94 mjSm_placesx_13 := aiOk_ctr mjUW_ok (env := []) (fun e he => (by cases he)) (pr := []) (cuts := [(4, ([(3, 209, 209, 0, 0), (0, -1, -1, 0, 0), (0, 0, 0, 0, 0), (0, 0, 0, 0, 0)], [], []), [(0, 0, 49996), (1, 3, 2147483647), (0, 0, 60000), (0, 0, 0), (0, 0, 0), (0, 0, 0), (0, 0, 0), (0, 0, 0)])]) (n := 10) (by decide +kernel)
def mjSm_placesx_14 : MjSm := ([(3, 209, 209, 0, 0)], [], [((0, 0, 0, 0, 0), [], [])], [], 2)
set_option maxRecDepth 100000 in
theorem mjC_placesx_14 : mjCtr (mjSW 0 240 mjWd_placesx) 93 mjSm_placesx_14 := aiOk_ctr mjUW_ok (env := [(94, mjSm_placesx_13)]) (mjEnvC mjC_placesx_13 (fun e he => (by cases he))) (pr := []) (cuts := []) (n := 11) (by decide +kernel)
def mjSm_placesx_15 : MjSm := ([(0, 0, 3, 0, 0), (0, 0, 2, 0, 0)], [], [((0, 0, 17, 0, 0), [], [])], [], 1)
set_option maxRecDepth 100000 in
theorem mjC_placesx_15 : mjCtr (mjSW 0 240 mjWd_placesx) 48 mjSm_placesx_15 := aiOk_ctr mjUW_ok (env := []) (fun e he => (by cases he)) (pr := []) (cuts := []) (n := 9) (by decide +kernel)
def mjSm_placesx_16 : MjSm := ([(3, 209, 209, 0, 0), (0, 0, 17, 0, 0), (0, 1, 1, 0, 0)], [], [((7, 0, 0, 0, 0), [], [])], [(212, 255)], 1)
set_option maxRecDepth 100000 in
theorem mjC_placesx_16 : mjCtr (mjSW 0 240 mjWd_placesx) 89 mjSm_placesx_16 := aiOk_ctr mjUW_ok (env := []) (fun e he => (by cases he)) (pr := []) (cuts := []) (n := 18) (by decide +kernel)
def mjSm_placesx_17 : MjSm := ([(3, 201, 201, 0, 0), (3, 214, 214, 0, 0)], [], [((0, -2147483648, 2147483647, 0, 0), [], [])], [], 1)
set_option maxRecDepth 100000 in
theorem mjC_placesx_17 : mjCtr (mjSW 0 240 mjWd_placesx) 77 mjSm_placesx_17 := aiOk_ctr mjUW_ok (env := []) (fun e he => (by cases he)) (pr := []) (cuts := []) (n := 20) (by decide +kernel)
def mjSm_placesx_18 : MjSm := ([(3, 193, 193, 0, 0), (0, 0, 3, 0, 0)], [], [((0, 1, 1, 0, 0), [], [])], [], 1)
set_option maxRecDepth 100000 in
theorem mjC_placesx_18 : mjCtr (mjSW 0 240 mjWd_placesx) 69 mjSm_placesx_18 := aiOk_ctr mjUW_ok (env := []) (fun e he => (by cases he)) (pr := []) (cuts := []) (n := 15) (by decide +kernel)
def mjSm_placesx_19 : MjSm := ([(0, 0, 3, 0, 0), (0, 1, 2, 0, 0)], [], [((0, 1, 17, 0, 0), [], [])], [], 1)
set_option maxRecDepth 100000 in
theorem mjC_placesx_19 : mjCtr (mjSW 0 240 mjWd_placesx) 48 mjSm_placesx_19 := aiOk_ctr mjUW_ok (env := []) (fun e he => (by cases he)) (pr := []) (cuts := []) (n := 9) (by decide +kernel)
def mjSm_placesx_20 : MjSm := ([(3, 209, 209, 0, 0), (0, 1, 17, 0, 0), (0, 1, 1, 0, 0)], [], [((7, 0, 0, 0, 0), [], [])], [(210, 9), (212, 255)], 1)
set_option maxRecDepth 100000 in
theorem mjC_placesx_20 : mjCtr (mjSW 0 240 mjWd_placesx) 92 mjSm_placesx_20 := aiOk_ctr mjUW_ok (env := []) (fun e he => (by cases he)) (pr := []) (cuts := []) (n := 22) (by decide +kernel)
def mjSm_placesx_21 : MjSm := ([(0, 0, 3, 0, 0), (0, 0, 1, 0, 0)], [], [((0, 0, 16, 0, 0), [], [])], [], 1)
set_option maxRecDepth 100000 in
theorem mjC_placesx_21 : mjCtr (mjSW 0 240 mjWd_placesx) 48 mjSm_placesx_21 := aiOk_ctr mjUW_ok (env := []) (fun e he => (by cases he)) (pr := []) (cuts := []) (n := 9) (by decide +kernel)
def mjSm_placesx_22 : MjSm := ([(3, 209, 209, 0, 0), (0, 0, 16, 0, 0), (0, 1, 1, 0, 0)], [], [((7, 0, 0, 0, 0), [], [])], [(210, 9), (212, 255)], 1)
set_option maxRecDepth 100000 in
theorem mjC_placesx_22 : mjCtr (mjSW 0 240 mjWd_placesx) 92 mjSm_placesx_22 := aiOk_ctr mjUW_ok (env := []) (fun e he => (by cases he)) (pr := []) (cuts := []) (n := 22) (by decide +kernel)
def mjSm_placesx_23 : MjSm := ([(3, 209, 209, 0, 0), (0, 0, 3, 0, 0), (0, 0, 1, 0, 0), (0, 1, 1, 0, 0)], [], [((7, 0, 0, 0, 0), [], [])], [(210, 8), (210, 9), (212, 255)], 2)
set_option maxRecDepth 100000 in
theorem mjC_placesx_23 : mjCtr (mjSW 0 240 mjWd_placesx) 91 mjSm_placesx_23 := aiOk_ctr mjUW_ok (env := [(69, mjSm_placesx_18), (48, mjSm_placesx_21), (48, mjSm_placesx_19), (92, mjSm_placesx_22), (92, mjSm_placesx_20)]) (mjEnvC mjC_placesx_18 (mjEnvC mjC_placesx_21 (mjEnvC mjC_placesx_19 (mjEnvC mjC_placesx_22 (mjEnvC mjC_placesx_20 (fun e he => (by cases he))))))) (pr := []) (cuts := [(25, ([(3, 209, 209, 0, 0), (0, 0, 3, 0, 0), (0, 0, 1, 0, 0), (0, 1, 1, 0, 0), (0, 1, 3, 0, 0), (9, 0, 0, 0, 0)], [], []), [(0, 0, 49975), (1, 4, 2147483647), (0, 0, 60000), (0, 0, 0), (0, 0, 0), (0, 0, 0), (0, 0, 0), (0, 0, 0)])]) (n := 43) (by decide +kernel)
def mjSm_placesx_24 : MjSm := ([(3, 209, 209, 0, 0), (0, 0, 3, 0, 0), (0, 0, 1, 0, 0)], [], [((7, 0, 0, 0, 0), [], [])], [(210, 7), (210, 8), (210, 9), (212, 255), (217, 255), (218, 255)], 3)
set_option maxRecDepth 100000 in
theorem mjC_placesx_24 : mjCtr (mjSW 0 240 mjWd_placesx) 90 mjSm_placesx_24 := aiOk_ctr mjUW_ok (env := [(91, mjSm_placesx_23)]) (mjEnvC mjC_placesx_23 (fun e he => (by cases he))) (pr := []) (cuts := [(78, ([(3, 209, 209, 0, 0), (0, 0, 3, 0, 0), (0, 0, 1, 0, 0), (0, 0, 0, 0, 0), (0, 0, 0, 0, 0)], [], []), [(0, 0, 49922), (1, 4, 2147483647), (0, 0, 60000), (0, 0, 0), (0, 0, 0), (0, 0, 0), (0, 0, 0), (0, 0, 0)])]) (n := 47) (by decide +kernel)
def mjSm_placesx_25 : MjSm := ([(3, 209, 209, 0, 0), (0, 0, 3, 0, 0), (0, 0, 2, 0, 0), (0, 0, 0, 0, 0)], [], [((0, 0, 0, 0, 0), [], []), ((0, 1, 1, 0, 0), [(2, 0, 1)], []), ((0, 0, 0, 0, 0), [(2, 0, 1)], []), ((0, 1, 1, 0, 0), [(2, 2, 2)], []), ((0, 0, 0, 0, 0), [(2, 2, 2)], [])], [(215, 255)], 2)
set_option maxRecDepth 100000 in
theorem mjC_placesx_25 : mjCtr (mjSW 0 240 mjWd_placesx) 76 mjSm_placesx_25 := aiOk_ctr mjUW_ok (env := [(77, mjSm_placesx_17), (48, mjSm_placesx_15)]) (mjEnvC mjC_placesx_17 (mjEnvC mjC_placesx_15 (fun e he => (by cases he)))) (pr := [2]) (cuts := []) (n := 80) (by decide +kernel)
def mjSm_placesx_26 : MjSm := ([(0, 0, 3, 0, 0), (0, 2, 2, 0, 0)], [], [((0, 2, 17, 0, 0), [], [])], [], 1)
set_option maxRecDepth 100000 in
theorem mjC_placesx_26 : mjCtr (mjSW 0 240 mjWd_placesx) 48 mjSm_placesx_26 := aiOk_ctr mjUW_ok (env := []) (fun e he => (by cases he)) (pr := []) (cuts := []) (n := 9) (by decide +kernel)
def mjSm_placesx_27 : MjSm := ([(3, 209, 209, 0, 0), (0, 2, 17, 0, 0), (0, 1, 1, 0, 0)], [], [((7, 0, 0, 0, 0), [], [])], [(210, 9), (212, 255)], 1)
set_option maxRecDepth 100000 in
theorem mjC_placesx_27 : mjCtr (mjSW 0 240 mjWd_placesx) 92 mjSm_placesx_27 := aiOk_ctr mjUW_ok (env := []) (fun e he => (by cases he)) (pr := []) (cuts := []) (n := 22) (by decide +kernel)
def mjSm_placesx_28 : MjSm := ([(3, 209, 209, 0, 0), (0, 0, 3, 0, 0), (0, 2, 2, 0, 0), (0, 1, 1, 0, 0)], [], [((7, 0, 0, 0, 0), [], [])], [(210, 8), (210, 9), (212, 255)], 2)
set_option maxRecDepth 100000 in
theorem mjC_placesx_28 : mjCtr (mjSW 0 240 mjWd_placesx) 91 mjSm_placesx_28 := aiOk_ctr mjUW_ok (env := [(48, mjSm_placesx_26), (92, mjSm_placesx_27)]) (mjEnvC mjC_placesx_26 (mjEnvC mjC_placesx_27 (fun e he => (by cases he)))) (pr := []) (cuts := [(25, ([(3, 209, 209, 0, 0), (0, 0, 3, 0, 0), (0, 2, 2, 0, 0), (0, 1, 1, 0, 0), (0, 3, 3, 0, 0), (9, 0, 0, 0, 0)], [], []), [(0, 0, 49975), (1, 4, 2147483647), (0, 0, 60000), (0, 0, 0), (0, 0, 0), (0, 0, 0), (0, 0, 0), (0, 0, 0)])]) (n := 19) (by decide +kernel)
def mjSm_placesx_29 : MjSm := ([(3, 209, 209, 0, 0), (0, 0, 3, 0, 0), (0, 2, 2, 0, 0)], [], [((7, 0, 0, 0, 0), [], [])], [(210, 7), (210, 8), (210, 9), (212, 255), (217, 255), (218, 255)], 3)
set_option maxRecDepth 100000 in
theorem mjC_placesx_29 : mjCtr (mjSW 0 240 mjWd_placesx) 90 mjSm_placesx_29 := aiOk_ctr mjUW_ok (env := [(91, mjSm_placesx_28)]) (mjEnvC mjC_placesx_28 (fun e he => (by cases he))) (pr := []) (cuts := [(78, ([(3, 209, 209, 0, 0), (0, 0, 3, 0, 0), (0, 2, 2, 0, 0), (0, 0, 0, 0, 0), (0, 0, 0, 0, 0)], [], []), [(0, 0, 49922), (1, 4, 2147483647), (0, 0, 60000), (0, 0, 0), (0, 0, 0), (0, 0, 0), (0, 0, 0), (0, 0, 0)])]) (n := 47) (by decide +kernel)
def mjSm_placesx_30 : MjSm := ([(3, 209, 209, 0, 0), (0, 1, 1, 0, 0), (0, 0, 0, 0, 0)], [], [((7, 0, 0, 0, 0), [], [])], [(210, 7), (210, 8), (210, 9), (211, 5), (211, 6), (211, 7), (212, 255), (215, 255), (216, 255), (217, 255), (218, 255)], 4)
set_option maxRecDepth 100000 in
theorem mjC_placesx_30 : mjCtr (mjSW 0 240 mjWd_placesx) 88 mjSm_placesx_30 := aiOk_ctr mjUW_ok (env := [(74, mjSm_placesx_6), (93, mjSm_placesx_14), (90, mjSm_placesx_29), (90, mjSm_placesx_24), (48, mjSm_placesx_15), (76, mjSm_placesx_25), (89, mjSm_placesx_16)]) (mjEnvC mjC_placesx_6 (mjEnvC mjC_placesx_14 (mjEnvC mjC_placesx_29 (mjEnvC mjC_placesx_24 (mjEnvC mjC_placesx_15 (mjEnvC mjC_placesx_25 (mjEnvC mjC_placesx_16 (fun e he => (by cases he))))))))) (pr := []) (cuts := [(2, ([(3, 209, 209, 0, 0), (0, 1, 1, 0, 0), (0, 0, 0, 0, 0), (0, 0, 4, 0, 0), (9, 0, 0, 0, 0)], [], []), [(0, 0, 49998), (1, 3, 2147483647), (0, 0, 60000), (0, 0, 0), (0, 0, 0), (0, 0, 0), (0, 0, 0), (0, 0, 0)]), (16, ([(3, 209, 209, 0, 0), (0, 1, 1, 0, 0), (0, 0, 0, 0, 0), (0, 0, 3, 0, 0), (0, 0, 3, 0, 0)], [], []), [(0, 0, 49998), (1, 3, 2147483647), (0, 0, 49984), (1, 4, 2147483647), (0, 0, 60000), (0, 0, 0), (0, 0, 0), (0, 0, 0)]), (140, ([(3, 209, 209, 0, 0), (0, 1, 1, 0, 0), (0, 0, 0, 0, 0), (0, 0, 3, 0, 0), (9, 0, 0, 0, 0)], [], []), [(0, 0, 49860), (1, 3, 2147483647), (0, 0, 60000), (0, 0, 0), (0, 0, 0), (0, 0, 0), (0, 0, 0), (0, 0, 0)]), (154, ([(3, 209, 209, 0, 0), (0, 1, 1, 0, 0), (0, 0, 0, 0, 0), (0, 0, 2, 0, 0), (0, 0, 4, 0, 0)], [], []), [(0, 0, 49860), (1, 3, 2147483647), (0, 0, 49846), (1, 4, 2147483647), (0, 0, 60000), (0, 0, 0), (0, 0, 0), (0, 0, 0)])]) (n := 26) (by decide +kernel)
def mjSm_placesx_31 : MjSm := ([(3, 224, 224, 0, 0), (0, 0, 0, 0, 0), (0, 0, 0, 0, 0), (0, 0, 24, 0, 0)], [(209, 8, (0, 0, 0, 0, 0)), (224, 2, (3, 20, 20, 0, 0)), (224, 9, (0, -1, -1, 0, 0))], [((0, 0, 0, 0, 0), [], [])], [(210, 2), (210, 3), (210, 7), (210, 8), (210, 9), (211, 3), (211, 4), (211, 5), (211, 6), (211, 7), (212, 255), (213, 255), (214, 255), (215, 255), (216, 255), (217, 255), (218, 255)], 5)
set_option maxRecDepth 100000 in
theorem mjC_placesx_31 : mjCtr (mjSW 0 240 mjWd_placesx) 126 mjSm_placesx_31 := aiOk_ctr mjUW_ok (env := [(72, mjSm_placesx_8), (94, mjSm_placesx_11), (88, mjSm_placesx_30), (93, mjSm_placesx_14)]) (mjEnvC mjC_placesx_8 (mjEnvC mjC_placesx_11 (mjEnvC mjC_placesx_30 (mjEnvC mjC_placesx_14 (fun e he => (by cases he)))))) (pr := []) (cuts := [(64, ([(3, 224, 224, 0, 0), (0, 0, 0, 0, 0), (0, 0, 0, 0, 0), (0, 0, 24, 0, 0), (0, 0, 0, 0, 0), (0, 0, 24, 0, 0), (9, 0, 0, 0, 0)], [], [(224, 2, (3, 20, 20, 0, 0)), (224, 9, (0, -1, -1, 0, 0))]), [(0, 0, 49936), (1, 5, 2147483647), (0, 0, 60000), (0, 0, 0), (0, 0, 0), (0, 0, 0), (0, 0, 0), (0, 0, 0)]), (153, ([(3, 224, 224, 0, 0), (0, 0, 0, 0, 0), (0, 0, 0, 0, 0), (0, 0, 24, 0, 0), (0, 0, 0, 0, 0), (0, 0, 0, 0, 0), (0, 0, 0, 0, 0)], [], [(224, 2, (3, 20, 20, 0, 0)), (224, 9, (0, -1, -1, 0, 0))]), [(0, 0, 49847), (1, 6, 2147483647), (0, 0, 60000), (0, 0, 0), (0, 0, 0), (0, 0, 0), (0, 0, 0), (0, 0, 0)])]) (n := 35) (by decide +kernel)
def mjSm_placesx_32 : MjSm := ([(3, 224, 224, 0, 0), (0, 0, 0, 0, 0)], [], [((0, 1, 1, 0, 0), [], [])], [], 1)
set_option maxRecDepth 100000 in
theorem mjC_placesx_32 : mjCtr (mjSW 0 240 mjWd_placesx) 129 mjSm_placesx_32 := aiOk_ctr mjUW_ok (env := []) (fun e he => (by cases he)) (pr := []) (cuts := []) (n := 12) (by decide +kernel)
def mjSm_placesx_33 : MjSm := ([(3, 224, 224, 0, 0), (3, 193, 193, 0, 0), (3, 20, 20, 0, 0), (0, 0, 24, 0, 0)], [(209, 8, (0, 0, 0, 0, 0)), (224, 2, (3, 205, 205, 0, 0)), (224, 9, (0, 0, 0, 0, 0))], [((0, 0, 0, 0, 0), [], [(224, 2, (3, 20, 20, 0, 0)), (224, 9, (0, 0, 0, 0, 0))])], [(210, 2), (210, 3), (210, 7), (210, 8), (210, 9), (211, 3), (211, 4), (211, 5), (211, 6), (211, 7), (212, 255), (213, 255), (214, 255), (215, 255), (216, 255), (217, 255), (218, 255), (225, 1), (225, 2), (225, 9), (226, 255), (227, 255)], 6)
set_option maxRecDepth 100000 in
theorem mjC_placesx_33 : mjCtr (mjSW 0 240 mjWd_placesx) 122 mjSm_placesx_33 := aiOk_ctr mjUW_ok (env := [(126, mjSm_placesx_31), (124, mjSm_placesx_10), (125, mjSm_placesx_12), (129, mjSm_placesx_32), (123, mjSm_placesx_9), (94, mjSm_placesx_11)]) (mjEnvC mjC_placesx_31 (mjEnvC mjC_placesx_10 (mjEnvC mjC_placesx_12 (mjEnvC mjC_placesx_32 (mjEnvC mjC_placesx_9 (mjEnvC mjC_placesx_11 (fun e he => (by cases he)))))))) (pr := []) (cuts := []) (n := 101) (by decide +kernel)
def mjSm_placesx_34 : MjSm := ([(3, 0, 0, 0, 0), (0, -2147483648, 2147483647, 0, 0)], [(209, 8, (0, 0, 0, 0, 0)), (224, 2, (3, 205, 205, 0, 0)), (224, 9, (0, 0, 0, 0, 0))], [((0, -1, -1, 0, 0), [(1, 25, 2147483647)], [(209, 8, (0, 0, 0, 0, 0)), (224, 2, (3, 205, 205, 0, 0)), (224, 9, (0, 0, 0, 0, 0))]), ((0, 0, 0, 0, 0), [(1, 0, 24)], [(224, 2, (3, 20, 20, 0, 0)), (224, 9, (0, 0, 0, 0, 0))]), ((0, -1, -1, 0, 0), [(1, -2147483648, -1)], [(209, 8, (0, 0, 0, 0, 0)), (224, 2, (3, 205, 205, 0, 0)), (224, 9, (0, 0, 0, 0, 0))])], [(1, 12), (210, 2), (210, 3), (210, 7), (210, 8), (210, 9), (211, 3), (211, 4), (211, 5), (211, 6), (211, 7), (212, 255), (213, 255), (214, 255), (215, 255), (216, 255), (217, 255), (218, 255), (225, 1), (225, 2), (225, 9), (226, 255), (227, 255)], 7)
set_option maxRecDepth 100000 in
theorem mjC_placesx_34 : mjCtr (mjSW 0 240 mjWd_placesx) 121 mjSm_placesx_34 := aiOk_ctr mjUW_ok (env := [(122, mjSm_placesx_33), (70, mjSm_placesx_0)]) (mjEnvC mjC_placesx_33 (mjEnvC mjC_placesx_0 (fun e he => (by cases he)))) (pr := [1]) (cuts := []) (n := 30) (by decide +kernel)
def mjWd_placesm : MjWd := [(240, 49, (0, 0, 3)), (240, 50, (0, 0, 2)), (240, 56, (0, -2147483648, 2147483647)), (240, 57, (0, 0, 3)), (240, 58, (0, -2147483648, 2147483647)), (274, 0, (0, 0, 99)), (274, 1, (0, 0, 99)), (274, 2, (0, 0, 99)), (274, 3, (0, 0, 99)), (274, 4, (0, 0, 99)), (274, 5, (0, 0, 99)), (274, 6, (0, 0, 99)), (274, 7, (0, 0, 99)), (274, 8, (0, 0, 99)), (274, 9, (0, 0, 99)), (274, 10, (0, 0, 99)), (274, 11, (0, 0, 99)), (274, 12, (0, 0, 99)), (274, 13, (0, 0, 99)), (274, 14, (0, 0, 99)), (274, 15, (0, 0, 99)), (274, 16, (0, 0, 99)), (274, 17, (0, 0, 99)), (274, 68, (0, -2147483648, 2147483647)), (275, 0, (0, 0, 99)), (275, 1, (0, 0, 99)), (275, 2, (0, 0, 99)), (275, 3, (0, 0, 99)), (275, 4, (0, 0, 99)), (275, 5, (0, 0, 99)), (275, 6, (0, 0, 99)), (275, 7, (0, 0, 99)), (275, 8, (0, 0, 99)), (275, 9, (0, 0, 99)), (275, 10, (0, 0, 99)), (275, 11, (0, 0, 99)), (275, 12, (0, 0, 99)), (275, 13, (0, 0, 99)), (275, 14, (0, 0, 99)), (275, 15, (0, 0, 99)), (275, 16, (0, 0, 99)), (275, 17, (0, 0, 99)), (275, 68, (0, -2147483648, 2147483647)), (276, 255, (0, -2147483648, 2147483647))]
theorem mjWd_placesm_ok : mjWdB mjWd_placesm = true := by decide +kernel
def mjSm_placesm_0 : MjSm := ([(0, -2147483648, 2147483647, 0, 0), (0, 0, 0, 0, 0), (0, 24, 24, 0, 0)], [], [((0, 1, 1, 0, 0), [(0, 0, 24)], []), ((0, 0, 0, 0, 0), [(0, 25, 2147483647)], []), ((0, 0, 0, 0, 0), [(0, -2147483648, -1)], [])], [], 1)
set_option maxRecDepth 100000 in
theorem mjC_placesm_0 : mjCtr (mjSW 240 290 mjWd_placesm) 221 mjSm_placesm_0 := aiOk_ctr mjUW_ok (env := []) (fun e he => (by cases he)) (pr := [0]) (cuts := []) (n := 12) (by decide +kernel)
def mjSm_placesm_1 : MjSm := ([(3, 240, 240, 0, 0)], [], [((7, 0, 0, 0, 0), [], [])], [(276, 255)], 1)
set_option maxRecDepth 100000 in
theorem mjC_placesm_1 : mjCtr (mjSW 240 290 mjWd_placesm) 266 mjSm_placesm_1 := aiOk_ctr mjUW_ok (env := []) (fun e he => (by cases he)) (pr := []) (cuts := []) (n := 919) (by decide +kernel)
def mjSm_placesm_2 : MjSm := ([(3, 240, 240, 0, 0)], [], [((0, 4, 4, 0, 0), [], [])], [], 1)
set_option maxRecDepth 100000 in
theorem mjC_placesm_2 : mjCtr (mjSW 240 290 mjWd_placesm) 220 mjSm_placesm_2 := aiOk_ctr mjUW_ok (env := []) (fun e he => (by cases he)) (pr := []) (cuts := []) (n := 9) (by decide +kernel)
def mjSm_placesm_3 : MjSm := ([(3, 240, 240, 0, 0)], [], [((0, 0, 0, 0, 0), [], [])], [], 1)
set_option maxRecDepth 100000 in
theorem mjC_placesm_3 : mjCtr (mjSW 240 290 mjWd_placesm) 179 mjSm_placesm_3 := aiOk_ctr mjUW_ok (env := []) (fun e he => (by cases he)) (pr := []) (cuts := []) (n := 9) (by decide +kernel)
def mjSm_placesm_4 : MjSm := ([(0, 4, 4, 0, 0), (0, 0, 0, 0, 0)], [], [((0, 1, 1, 0, 0), [], [])], [], 1)
set_option maxRecDepth 100000 in
theorem mjC_placesm_4 : mjCtr (mjSW 240 290 mjWd_placesm) 286 mjSm_placesm_4 := aiOk_ctr mjUW_ok (env := []) (fun e he => (by cases he)) (pr := []) (cuts := []) (n := 12) (by decide +kernel)
def mjSm_placesm_5 : MjSm := ([(3, 240, 240, 0, 0), (0, 0, 0, 0, 0)], [], [((0, 1, 1, 0, 0), [], [])], [], 2)
set_option maxRecDepth 100000 in
theorem mjC_placesm_5 : mjCtr (mjSW 240 290 mjWd_placesm) 287 mjSm_placesm_5 := aiOk_ctr mjUW_ok (env := [(179, mjSm_placesm_3)]) (mjEnvC mjC_placesm_3 (fun e he => (by cases he))) (pr := []) (cuts := []) (n := 11) (by decide +kernel)
def mjSm_placesm_6 : MjSm := ([(3, 240, 240, 0, 0)], [], [((0, 3, 3, 0, 0), [], [])], [], 1)
set_option maxRecDepth 100000 in
theorem mjC_placesm_6 : mjCtr (mjSW 240 290 mjWd_placesm) 222 mjSm_placesm_6 := aiOk_ctr mjUW_ok (env := []) (fun e he => (by cases he)) (pr := []) (cuts := []) (n := 9) (by decide +kernel)
def mjSm_placesm_7 : MjSm := ([(0, 1, 100, 0, 0), (0, 0, 0, 0, 0), (0, 99, 99, 0, 0)], [], [((0, 99, 99, 0, 0), [(0, 100, 100)], []), ((0, 1, 99, 0, 0), [(0, 1, 99)], [])], [], 1)
set_option maxRecDepth 100000 in
theorem mjC_placesm_7 : mjCtr (mjSW 240 290 mjWd_placesm) 249 mjSm_placesm_7 := aiOk_ctr mjUW_ok (env := []) (fun e he => (by cases he)) (pr := [0]) (cuts := []) (n := 12) (by decide +kernel)
def mjSm_placesm_8 : MjSm := ([(3, 240, 240, 0, 0), (0, 0, 3, 0, 0), (0, 0, 2, 0, 0)], [], [((0, 0, 99, 0, 0), [], [])], [], 1)
set_option maxRecDepth 100000 in
theorem mjC_placesm_8 : mjCtr (mjSW 240 290 mjWd_placesm) 223 mjSm_placesm_8 := aiOk_ctr mjUW_ok (env := []) (fun e he => (by cases he)) (pr := []) (cuts := []) (n := 14) (by decide +kernel)
def mjSm_placesm_9 : MjSm := ([(3, 240, 240, 0, 0), (0, 0, 3, 0, 0), (0, 0, 2, 0, 0), (0, 1, 1, 0, 0)], [], [((7, 0, 0, 0, 0), [], [])], [(275, 255)], 2)
set_option maxRecDepth 100000 in
theorem mjC_placesm_9 : mjCtr (mjSW 240 290 mjWd_placesm) 248 mjSm_placesm_9 := aiOk_ctr mjUW_ok (env := [(223, mjSm_placesm_8), (249, mjSm_placesm_7)]) (mjEnvC mjC_placesm_8 (mjEnvC mjC_placesm_7 (fun e he => (by cases he)))) (pr := []) (cuts := []) (n := 23) (by decide +kernel)
def mjSm_placesm_10 : MjSm := ([(0, 0, 0, 0, 0), (0, 2, 2, 0, 0)], [], [((0, 0, 0, 0, 0), [], [])], [], 1)
set_option maxRecDepth 100000 in
theorem mjC_placesm_10 : mjCtr (mjSW 240 290 mjWd_placesm) 191 mjSm_placesm_10 := aiOk_ctr mjUW_ok (env := []) (fun e he => (by cases he)) (pr := []) (cuts := []) (n := 12) (by decide +kernel)
def mjSm_placesm_11 : MjSm := ([(3, 240, 240, 0, 0), (0, 0, 3, 0, 0)], [], [((0, 0, 0, 0, 0), [], [])], [], 1)
set_option maxRecDepth 100000 in
theorem mjC_placesm_11 : mjCtr (mjSW 240 290 mjWd_placesm) 226 mjSm_placesm_11 := aiOk_ctr mjUW_ok (env := []) (fun e he => (by cases he)) (pr := []) (cuts := [(4, ([(3, 240, 240, 0, 0), (0, 0, 3, 0, 0), (0, 0, 0, 0, 0), (0, 0, 0, 0, 0)], [], []), [(0, 0, 49996), (1, 3, 2147483647), (0, 0, 60000), (0, 0, 0), (0, 0, 0), (0, 0, 0), (0, 0, 0), (0, 0, 0)])]) (n := 12) (by decide +kernel)
def mjSm_placesm_12 : MjSm := ([(0, 0, 3, 0, 0), (0, 0, 0, 0, 0), (0, 3, 3, 0, 0)], [], [((0, 1, 1, 0, 0), [], [])], [], 1)
set_option maxRecDepth 100000 in
theorem mjC_placesm_12 : mjCtr (mjSW 240 290 mjWd_placesm) 221 mjSm_placesm_12 := aiOk_ctr mjUW_ok (env := []) (fun e he => (by cases he)) (pr := []) (cuts := []) (n := 12) (by decide +kernel)
def mjSm_placesm_13 : MjSm := ([(3, 240, 240, 0, 0), (0, 0, 3, 0, 0)], [], [((0, 1, 1, 0, 0), [], [])], [], 2)
set_option maxRecDepth 100000 in
theorem mjC_placesm_13 : mjCtr (mjSW 240 290 mjWd_placesm) 219 mjSm_placesm_13 := aiOk_ctr mjUW_ok (env := [(220, mjSm_placesm_2), (221, mjSm_placesm_12)]) (mjEnvC mjC_placesm_2 (mjEnvC mjC_placesm_12 (fun e he => (by cases he)))) (pr := []) (cuts := []) (n := 11) (by decide +kernel)
def mjSm_placesm_14 : MjSm := ([(3, 240, 240, 0, 0), (0, 0, 3, 0, 0), (0, 1, 2, 0, 0)], [], [((0, 0, 0, 0, 0), [], [])], [], 1)
set_option maxRecDepth 100000 in
theorem mjC_placesm_14 : mjCtr (mjSW 240 290 mjWd_placesm) 224 mjSm_placesm_14 := aiOk_ctr mjUW_ok (env := []) (fun e he => (by cases he)) (pr := []) (cuts := []) (n := 14) (by decide +kernel)
def mjSm_placesm_15 : MjSm := ([(3, 240, 240, 0, 0), (0, 0, 3, 0, 0), (0, 1, 2, 0, 0)], [], [((0, 0, 99, 0, 0), [], [])], [], 1)
set_option maxRecDepth 100000 in
theorem mjC_placesm_15 : mjCtr (mjSW 240 290 mjWd_placesm) 223 mjSm_placesm_15 := aiOk_ctr mjUW_ok (env := []) (fun e he => (by cases he)) (pr := []) (cuts := []) (n := 14) (by decide +kernel)
def mjSm_placesm_16 : MjSm := ([(3, 240, 240, 0, 0), (0, 0, 3, 0, 0), (0, 0, 2, 0, 0), (0, 0, 0, 0, 0)], [], [((0, 0, 0, 0, 0), [], []), ((0, 1, 1, 0, 0), [], [])], [(241, 49), (241, 50), (241, 51)], 2)
set_option maxRecDepth 100000 in
theorem mjC_placesm_16 : mjCtr (mjSW 240 290 mjWd_placesm) 225 mjSm_placesm_16 := aiOk_ctr mjUW_ok (env := [(191, mjSm_placesm_10), (226, mjSm_placesm_11), (223, mjSm_placesm_8)]) (mjEnvC mjC_placesm_10 (mjEnvC mjC_placesm_11 (mjEnvC mjC_placesm_8 (fun e he => (by cases he))))) (pr := []) (cuts := []) (n := 52) (by decide +kernel)
def mjSm_placesm_17 : MjSm := ([(3, 240, 240, 0, 0), (0, 0, 3, 0, 0), (0, 0, 2, 0, 0), (0, 1, 1, 0, 0)], [], [((7, 0, 0, 0, 0), [], [])], [(241, 57), (241, 58), (275, 255)], 3)
set_option maxRecDepth 100000 in
theorem mjC_placesm_17 : mjCtr (mjSW 240 290 mjWd_placesm) 241 mjSm_placesm_17 := aiOk_ctr mjUW_ok (env := [(222, mjSm_placesm_6), (219, mjSm_placesm_13), (223, mjSm_placesm_15), (224, mjSm_placesm_14), (223, mjSm_placesm_8)]) (mjEnvC mjC_placesm_6 (mjEnvC mjC_placesm_13 (mjEnvC mjC_placesm_15 (mjEnvC mjC_placesm_14 (mjEnvC mjC_placesm_8 (fun e he => (by cases he))))))) (pr := []) (cuts := [(37, ([(3, 240, 240, 0, 0), (0, 0, 3, 0, 0), (0, 0, 2, 0, 0), (0, 1, 1, 0, 0), (0, 1, 3, 0, 0), (9, 0, 0, 0, 0)], [], []), [(0, 0, 49963), (1, 4, 2147483647), (0, 0, 60000), (0, 0, 0), (0, 0, 0), (0, 0, 0), (0, 0, 0), (0, 0, 0)])]) (n := 59) (by decide +kernel)
def mjSm_placesm_18 : MjSm := ([(3, 240, 240, 0, 0), (0, 0, 3, 0, 0), (0, 0, 2, 0, 0), (0, 0, 0, 0, 0)], [], [((7, 0, 0, 0, 0), [], [])], [(241, 49), (241, 50), (241, 51), (241, 56), (241, 57), (241, 58), (275, 255), (277, 255)], 4)
set_option maxRecDepth 100000 in
theorem mjC_placesm_18 : mjCtr (mjSW 240 290 mjWd_placesm) 250 mjSm_placesm_18 := aiOk_ctr mjUW_ok (env := [(179, mjSm_placesm_3), (241, mjSm_placesm_17), (225, mjSm_placesm_16)]) (mjEnvC mjC_placesm_3 (mjEnvC mjC_placesm_17 (mjEnvC mjC_placesm_16 (fun e he => (by cases he))))) (pr := []) (cuts := [(55, ([(3, 240, 240, 0, 0), (0, 0, 3, 0, 0), (0, 0, 2, 0, 0), (0, 0, 0, 0, 0), (0, 0, 0, 0, 0)], [], []), [(0, 0, 49945), (1, 4, 2147483647), (0, 0, 60000), (0, 0, 0), (0, 0, 0), (0, 0, 0), (0, 0, 0), (0, 0, 0)])]) (n := 35) (by decide +kernel)
def mjSm_placesm_19 : MjSm := ([(3, 240, 240, 0, 0)], [], [((0, 0, 0, 0, 0), [], [])], [], 2)
set_option maxRecDepth 100000 in
theorem mjC_placesm_19 : mjCtr (mjSW 240 290 mjWd_placesm) 251 mjSm_placesm_19 := aiOk_ctr mjUW_ok (env := [(179, mjSm_placesm_3)]) (mjEnvC mjC_placesm_3 (fun e he => (by cases he))) (pr := []) (cuts := [(4, ([(3, 240, 240, 0, 0), (0, 0, 0, 0, 0), (0, 0, 0, 0, 0)], [], []), [(0, 0, 49996), (1, 2, 2147483647), (0, 0, 60000), (0, 0, 0), (0, 0, 0), (0, 0, 0), (0, 0, 0), (0, 0, 0)])]) (n := 9) (by decide +kernel)
def mjSm_placesm_20 : MjSm := ([(3, 240, 240, 0, 0), (0, 0, 0, 0, 0)], [], [((7, 0, 0, 0, 0), [], [])], [(241, 49), (241, 50), (241, 51), (241, 56), (241, 57), (241, 58), (275, 255), (277, 255)], 5)
set_option maxRecDepth 100000 in
theorem mjC_placesm_20 : mjCtr (mjSW 240 290 mjWd_placesm) 247 mjSm_placesm_20 := aiOk_ctr mjUW_ok (env := [(220, mjSm_placesm_2), (251, mjSm_placesm_19), (222, mjSm_placesm_6), (250, mjSm_placesm_18), (248, mjSm_placesm_9)]) (mjEnvC mjC_placesm_2 (mjEnvC mjC_placesm_19 (mjEnvC mjC_placesm_6 (mjEnvC mjC_placesm_18 (mjEnvC mjC_placesm_9 (fun e he => (by cases he))))))) (pr := []) (cuts := [(7, ([(3, 240, 240, 0, 0), (0, 0, 0, 0, 0), (0, 0, 6, 0, 0), (9, 0, 0, 0, 0)], [], [(240, 56, (0, 0, 0, 0, 0))]), [(0, 0, 49993), (1, 2, 2147483647), (0, 0, 60000), (0, 0, 0), (0, 0, 0), (0, 0, 0), (0, 0, 0), (0, 0, 0)]), (52, ([(3, 240, 240, 0, 0), (0, 0, 0, 0, 0), (0, 1, 1, 0, 0), (0, 0, 12, 0, 0)], [], [(240, 56, (0, 0, 0, 0, 0))]), [(0, 0, 49948), (1, 3, 2147483647), (0, 0, 60000), (0, 0, 0), (0, 0, 0), (0, 0, 0), (0, 0, 0), (0, 0, 0)]), (159, ([(3, 240, 240, 0, 0), (0, 0, 0, 0, 0), (0, 1, 1, 0, 0), (0, 0, 12, 0, 0)], [], []), [(0, 0, 49841), (1, 3, 2147483647), (0, 0, 60000), (0, 0, 0), (0, 0, 0), (0, 0, 0), (0, 0, 0), (0, 0, 0)])]) (n := 28) (by decide +kernel)
def mjSm_placesm_21 : MjSm := ([(3, 240, 240, 0, 0), (0, 0, 24, 0, 0)], [(240, 57, (0, 0, 0, 0, 0))], [((7, 0, 0, 0, 0), [], [])], [(241, 49), (241, 50), (241, 51), (241, 56), (241, 57), (241, 58), (275, 255), (277, 255)], 6)
set_option maxRecDepth 100000 in
theorem mjC_placesm_21 : mjCtr (mjSW 240 290 mjWd_placesm) 269 mjSm_placesm_21 := aiOk_ctr mjUW_ok (env := [(247, mjSm_placesm_20)]) (mjEnvC mjC_placesm_20 (fun e he => (by cases he))) (pr := []) (cuts := [(2, ([(3, 240, 240, 0, 0), (0, 0, 24, 0, 0), (0, 0, 24, 0, 0)], [], []), [(0, 0, 49998), (1, 2, 2147483647), (0, 0, 60000), (0, 0, 0), (0, 0, 0), (0, 0, 0), (0, 0, 0), (0, 0, 0)])]) (n := 11) (by decide +kernel)
def mjSm_placesm_22 : MjSm := ([(3, 240, 240, 0, 0), (0, 0, 24, 0, 0)], [(240, 57, (0, 0, 0, 0, 0))], [((0, 0, 0, 0, 0), [], [])], [(241, 49), (241, 50), (241, 51), (241, 56), (241, 57), (241, 58), (275, 255), (277, 255)], 7)
set_option maxRecDepth 100000 in
theorem mjC_placesm_22 : mjCtr (mjSW 240 290 mjWd_placesm) 272 mjSm_placesm_22 := aiOk_ctr mjUW_ok (env := [(269, mjSm_placesm_21), (251, mjSm_placesm_19)]) (mjEnvC mjC_placesm_21 (mjEnvC mjC_placesm_19 (fun e he => (by cases he)))) (pr := []) (cuts := []) (n := 9) (by decide +kernel)
def mjSm_placesm_23 : MjSm := ([(3, 240, 240, 0, 0)], [], [((7, 0, 0, 0, 0), [], [])], [(275, 255)], 1)
set_option maxRecDepth 100000 in
theorem mjC_placesm_23 : mjCtr (mjSW 240 290 mjWd_placesm) 267 mjSm_placesm_23 := aiOk_ctr mjUW_ok (env := []) (fun e he => (by cases he)) (pr := []) (cuts := []) (n := 919) (by decide +kernel)
def mjSm_placesm_24 : MjSm := ([(3, 240, 240, 0, 0), (0, -2147483648, 2147483647, 0, 0)], [(240, 57, (0, 0, 0, 0, 0))], [((0, -1, -1, 0, 0), [(1, -2147483648, -1)], [(240, 57, (0, 0, 0, 0, 0))]), ((0, -1, -1, 0, 0), [(1, 25, 2147483647)], [(240, 57, (0, 0, 0, 0, 0))]), ((0, 0, 0, 0, 0), [(1, 0, 24)], [])], [(241, 49), (241, 50), (241, 51), (241, 56), (241, 57), (241, 58), (241, 63), (275, 255), (276, 255), (277, 255)], 8)
set_option maxRecDepth 100000 in
theorem mjC_placesm_24 : mjCtr (mjSW 240 290 mjWd_placesm) 285 mjSm_placesm_24 := aiOk_ctr mjUW_ok (env := [(272, mjSm_placesm_22), (287, mjSm_placesm_5), (266, mjSm_placesm_1), (267, mjSm_placesm_23), (179, mjSm_placesm_3), (220, mjSm_placesm_2), (286, mjSm_placesm_4), (221, mjSm_placesm_0)]) (mjEnvC mjC_placesm_22 (mjEnvC mjC_placesm_5 (mjEnvC mjC_placesm_1 (mjEnvC mjC_placesm_23 (mjEnvC mjC_placesm_3 (mjEnvC mjC_placesm_2 (mjEnvC mjC_placesm_4 (mjEnvC mjC_placesm_0 (fun e he => (by cases he)))))))))) (pr := [1]) (cuts := []) (n := 70) (by decide +kernel)
set_option maxRecDepth 100000 in
theorem mjPair_places (sc : List Int32) (s1 : Int32)  : ∃ (v : Int32) (n1 : Nat) (w1 : MjW) (n2 : Nat) (w2 : MjW), mjEx mjTb mjMt sc n1 7 121 0 (mjEntry mjM_121.2.2.1 (.ref 0 :: [.int s1])) [] mjW0 = some (some (.int v), w1) ∧ mjEx mjTb mjMt sc n2 8 285 0 (mjEntry mjM_285.2.2.1 (.ref 240 :: [.int s1])) [] w1 = some (some (.int v), w2) ∧ mjShp w1 = mjShp mjW0 ∧ mjShp w2 = mjShp mjW0 := mj_pair (smx := mjSm_placesx_34) (smm := mjSm_placesm_24) mjC_placesx_34 mjC_placesm_24 mjWd_placesx_ok mjWd_placesm_ok (by decide +kernel) (by decide +kernel) (by decide +kernel) (by decide +kernel) (by decide +kernel) ⟨⟨0, rfl, rfl⟩, ⟨⟨s1, rfl, mjB.all s1⟩, trivial⟩⟩ ⟨⟨240, rfl, rfl⟩, ⟨⟨s1, rfl, mjB.all s1⟩, trivial⟩⟩ rfl rfl
