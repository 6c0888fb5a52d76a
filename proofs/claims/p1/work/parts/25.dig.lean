def mjWd_digx : MjWd := [(209, 7, (0, -2147483648, 2147483647)), (209, 8, (0, 0, 3)), (209, 9, (0, -2147483648, 2147483647)), (210, 6, (0, -2147483648, 2147483647)), (210, 7, (0, 0, 999)), (211, 255, (0, 0, 99)), (214, 255, (0, -2147483648, 2147483647)), (216, 255, (0, -2147483648, 2147483647)), (217, 255, (0, 0, 2147483647)), (224, 2, (6, 0, 0)), (224, 9, (0, -1, 0))]
theorem mjWd_digx_ok : mjWdB mjWd_digx = true := by decide +kernel
def mjSm_digx_0 : MjSm := ([(3, 18, 18, 0, 0)], [], [((3, 20, 20, 0, 0), [], [])], [], 1)
set_option maxRecDepth 100000 in
theorem mjC_digx_0 : mjCtr (mjSW 0 240 mjWd_digx) 70 mjSm_digx_0 := aiOk_ctr mjUW_ok (env := []) (fun e he => (by cases he)) (pr := []) (cuts := []) (n := 9) (by decide +kernel)
def mjSm_digx_1 : MjSm := ([(3, 210, 210, 0, 0), (3, 20, 20, 0, 0)], [], [((7, 0, 0, 0, 0), [], [])], [(211, 3), (211, 4), (211, 5), (211, 6), (211, 7), (212, 255), (213, 255), (214, 255)], 1)
set_option maxRecDepth 100000 in
theorem mjC_digx_1 : mjCtr (mjSW 0 240 mjWd_digx) 64 mjSm_digx_1 := aiOk_ctr mjUW_ok (env := []) (fun e he => (by cases he)) (pr := []) (cuts := []) (n := 48) (by decide +kernel)
def mjSm_digx_2 : MjSm := ([(3, 216, 216, 0, 0), (0, 0, 0, 0, 0)], [], [((7, 0, 0, 0, 0), [], [])], [(217, 255)], 1)
set_option maxRecDepth 100000 in
theorem mjC_digx_2 : mjCtr (mjSW 0 240 mjWd_digx) 6 mjSm_digx_2 := aiOk_ctr mjUW_ok (env := []) (fun e he => (by cases he)) (pr := []) (cuts := [(5, ([(3, 216, 216, 0, 0), (0, 0, 0, 0, 0), (0, 0, 6, 0, 0), (0, 6, 6, 0, 0)], [], []), [(0, 0, 49995), (1, 2, 2147483647), (0, 0, 60000), (0, 0, 0), (0, 0, 0), (0, 0, 0), (0, 0, 0), (0, 0, 0)])]) (n := 12) (by decide +kernel)
def mjSm_digx_3 : MjSm := ([(3, 217, 217, 0, 0), (0, 0, 0, 0, 0)], [], [((7, 0, 0, 0, 0), [], [])], [(218, 255)], 1)
set_option maxRecDepth 100000 in
theorem mjC_digx_3 : mjCtr (mjSW 0 240 mjWd_digx) 6 mjSm_digx_3 := aiOk_ctr mjUW_ok (env := []) (fun e he => (by cases he)) (pr := []) (cuts := [(5, ([(3, 217, 217, 0, 0), (0, 0, 0, 0, 0), (0, 0, 6, 0, 0), (0, 6, 6, 0, 0)], [], []), [(0, 0, 49995), (1, 2, 2147483647), (0, 0, 60000), (0, 0, 0), (0, 0, 0), (0, 0, 0), (0, 0, 0), (0, 0, 0)])]) (n := 12) (by decide +kernel)
def mjSm_digx_4 : MjSm := ([(3, 215, 215, 0, 0), (0, 0, 0, 0, 0)], [], [((7, 0, 0, 0, 0), [], [])], [(216, 255)], 1)
set_option maxRecDepth 100000 in
theorem mjC_digx_4 : mjCtr (mjSW 0 240 mjWd_digx) 6 mjSm_digx_4 := aiOk_ctr mjUW_ok (env := []) (fun e he => (by cases he)) (pr := []) (cuts := [(5, ([(3, 215, 215, 0, 0), (0, 0, 0, 0, 0), (0, 0, 6, 0, 0), (0, 6, 6, 0, 0)], [], []), [(0, 0, 49995), (1, 2, 2147483647), (0, 0, 60000), (0, 0, 0), (0, 0, 0), (0, 0, 0), (0, 0, 0), (0, 0, 0)])]) (n := 12) (by decide +kernel)
def mjSm_digx_5 : MjSm := ([(3, 193, 193, 0, 0), (3, 210, 210, 0, 0), (0, -2147483648, 2147483647, 0, 0)], [], [((0, 0, 0, 0, 0), [], [])], [], 1)
set_option maxRecDepth 100000 in
theorem mjC_digx_5 : mjCtr (mjSW 0 240 mjWd_digx) 75 mjSm_digx_5 := aiOk_ctr mjUW_ok (env := []) (fun e he => (by cases he)) (pr := []) (cuts := [(5, ([(3, 193, 193, 0, 0), (3, 210, 210, 0, 0), (0, -2147483648, 2147483647, 0, 0), (0, 0, 0, 0, 0), (0, 0, 0, 0, 0), (9, 0, 0, 0, 0)], [], []), [(0, 0, 49995), (1, 4, 2147483647), (0, 0, 60000), (0, 0, 0), (0, 0, 0), (0, 0, 0), (0, 0, 0), (0, 0, 0)])]) (n := 9) (by decide +kernel)
def mjSm_digx_6 : MjSm := ([(3, 209, 209, 0, 0)], [], [((7, 0, 0, 0, 0), [], [])], [(216, 255)], 2)
set_option maxRecDepth 100000 in
theorem mjC_digx_6 : mjCtr (mjSW 0 240 mjWd_digx) 74 mjSm_digx_6 := aiOk_ctr mjUW_ok (env := [(6, mjSm_digx_4), (75, mjSm_digx_5)]) (mjEnvC mjC_digx_4 (mjEnvC mjC_digx_5 (fun e he => (by cases he)))) (pr := []) (cuts := [(32, ([(3, 209, 209, 0, 0), (0, 0, 0, 0, 0), (0, 0, 0, 0, 0)], [], []), [(0, 0, 49968), (1, 2, 2147483647), (0, 0, 60000), (0, 0, 0), (0, 0, 0), (0, 0, 0), (0, 0, 0), (0, 0, 0)])]) (n := 20) (by decide +kernel)
def mjSm_digx_7 : MjSm := ([(3, 209, 209, 0, 0), (3, 193, 193, 0, 0), (3, 210, 210, 0, 0)], [], [((7, 0, 0, 0, 0), [], [])], [(210, 2), (210, 3), (210, 7), (216, 255), (217, 255), (218, 255)], 3)
set_option maxRecDepth 100000 in
theorem mjC_digx_7 : mjCtr (mjSW 0 240 mjWd_digx) 73 mjSm_digx_7 := aiOk_ctr mjUW_ok (env := [(6, mjSm_digx_3), (6, mjSm_digx_2), (74, mjSm_digx_6)]) (mjEnvC mjC_digx_3 (mjEnvC mjC_digx_2 (mjEnvC mjC_digx_6 (fun e he => (by cases he))))) (pr := []) (cuts := []) (n := 23) (by decide +kernel)
def mjSm_digx_8 : MjSm := ([(3, 209, 209, 0, 0), (3, 193, 193, 0, 0), (3, 20, 20, 0, 0)], [], [((7, 0, 0, 0, 0), [], [])], [(210, 2), (210, 3), (210, 7), (211, 3), (211, 4), (211, 5), (211, 6), (211, 7), (212, 255), (213, 255), (214, 255), (216, 255), (217, 255), (218, 255)], 4)
set_option maxRecDepth 100000 in
theorem mjC_digx_8 : mjCtr (mjSW 0 240 mjWd_digx) 72 mjSm_digx_8 := aiOk_ctr mjUW_ok (env := [(73, mjSm_digx_7), (64, mjSm_digx_1)]) (mjEnvC mjC_digx_7 (mjEnvC mjC_digx_1 (fun e he => (by cases he)))) (pr := []) (cuts := []) (n := 13) (by decide +kernel)
def mjSm_digx_9 : MjSm := ([(3, 224, 224, 0, 0), (3, 193, 193, 0, 0), (3, 20, 20, 0, 0)], [], [((7, 0, 0, 0, 0), [], [(224, 2, (3, 20, 20, 0, 0))])], [(210, 2), (210, 3), (210, 7), (211, 3), (211, 4), (211, 5), (211, 6), (211, 7), (212, 255), (213, 255), (214, 255), (216, 255), (217, 255), (218, 255), (225, 1), (225, 2)], 5)
set_option maxRecDepth 100000 in
theorem mjC_digx_9 : mjCtr (mjSW 0 240 mjWd_digx) 123 mjSm_digx_9 := aiOk_ctr mjUW_ok (env := [(72, mjSm_digx_8)]) (mjEnvC mjC_digx_8 (fun e he => (by cases he))) (pr := []) (cuts := []) (n := 15) (by decide +kernel)
def mjSm_digx_10 : MjSm := ([(3, 209, 209, 0, 0), (0, -1, -1, 0, 0)], [], [((0, 0, 0, 0, 0), [], [])], [], 1)
set_option maxRecDepth 100000 in
theorem mjC_digx_10 : mjCtr (mjSW 0 240 mjWd_digx) 94 mjSm_digx_10 := aiOk_ctr mjUW_ok (env := []) (fun e he => (by cases he)) (pr := []) (cuts := [(4, ([(3, 209, 209, 0, 0), (0, -1, -1, 0, 0), (0, 0, 0, 0, 0), (0, 0, 0, 0, 0)], [], []), [(0, 0, 49996), (1, 3, 2147483647), (0, 0, 60000), (0, 0, 0), (0, 0, 0), (0, 0, 0), (0, 0, 0), (0, 0, 0)])]) (n := 10) (by decide +kernel)
def mjSm_digx_11 : MjSm := ([(3, 209, 209, 0, 0)], [], [((0, 0, 0, 0, 0), [], [])], [], 2)
set_option maxRecDepth 100000 in
theorem mjC_digx_11 : mjCtr (mjSW 0 240 mjWd_digx) 93 mjSm_digx_11 := aiOk_ctr mjUW_ok (env := [(94, mjSm_digx_10)]) (mjEnvC mjC_digx_10 (fun e he => (by cases he))) (pr := []) (cuts := []) (n := 11) (by decide +kernel)
def mjSm_digx_12 : MjSm := ([(0, 0, 0, 0, 0), (0, 0, 0, 0, 0)], [], [((0, 0, 0, 0, 0), [], [])], [], 1)
set_option maxRecDepth 100000 in
theorem mjC_digx_12 : mjCtr (mjSW 0 240 mjWd_digx) 48 mjSm_digx_12 := aiOk_ctr mjUW_ok (env := []) (fun e he => (by cases he)) (pr := []) (cuts := []) (n := 9) (by decide +kernel)
def mjSm_digx_13 : MjSm := ([(0, 0, 3, 0, 0), (0, 0, 2, 0, 0)], [], [((0, 0, 17, 0, 0), [], [])], [], 1)
set_option maxRecDepth 100000 in
theorem mjC_digx_13 : mjCtr (mjSW 0 240 mjWd_digx) 48 mjSm_digx_13 := aiOk_ctr mjUW_ok (env := []) (fun e he => (by cases he)) (pr := []) (cuts := []) (n := 9) (by decide +kernel)
def mjSm_digx_14 : MjSm := ([(3, 209, 209, 0, 0), (0, 0, 17, 0, 0), (0, 1, 1, 0, 0)], [], [((7, 0, 0, 0, 0), [], [])], [(212, 255)], 1)
set_option maxRecDepth 100000 in
theorem mjC_digx_14 : mjCtr (mjSW 0 240 mjWd_digx) 89 mjSm_digx_14 := aiOk_ctr mjUW_ok (env := []) (fun e he => (by cases he)) (pr := []) (cuts := []) (n := 18) (by decide +kernel)
def mjSm_digx_15 : MjSm := ([(3, 201, 201, 0, 0), (3, 214, 214, 0, 0)], [], [((0, -2147483648, 2147483647, 0, 0), [], [])], [], 1)
set_option maxRecDepth 100000 in
theorem mjC_digx_15 : mjCtr (mjSW 0 240 mjWd_digx) 77 mjSm_digx_15 := aiOk_ctr mjUW_ok (env := []) (fun e he => (by cases he)) (pr := []) (cuts := []) (n := 20) (by decide +kernel)
def mjSm_digx_16 : MjSm := ([(3, 193, 193, 0, 0), (0, 0, 3, 0, 0)], [], [((0, 1, 1, 0, 0), [], [])], [], 1)
set_option maxRecDepth 100000 in
theorem mjC_digx_16 : mjCtr (mjSW 0 240 mjWd_digx) 69 mjSm_digx_16 := aiOk_ctr mjUW_ok (env := []) (fun e he => (by cases he)) (pr := []) (cuts := []) (n := 15) (by decide +kernel)
def mjSm_digx_17 : MjSm := ([(0, 0, 3, 0, 0), (0, 1, 2, 0, 0)], [], [((0, 1, 17, 0, 0), [], [])], [], 1)
set_option maxRecDepth 100000 in
theorem mjC_digx_17 : mjCtr (mjSW 0 240 mjWd_digx) 48 mjSm_digx_17 := aiOk_ctr mjUW_ok (env := []) (fun e he => (by cases he)) (pr := []) (cuts := []) (n := 9) (by decide +kernel)
def mjSm_digx_18 : MjSm := ([(3, 209, 209, 0, 0), (0, 1, 17, 0, 0), (0, 1, 1, 0, 0)], [], [((7, 0, 0, 0, 0), [], [])], [(210, 9), (212, 255)], 1)
set_option maxRecDepth 100000 in
theorem mjC_digx_18 : mjCtr (mjSW 0 240 mjWd_digx) 92 mjSm_digx_18 := aiOk_ctr mjUW_ok (env := []) (fun e he => (by cases he)) (pr := []) (cuts := []) (n := 22) (by decide +kernel)
def mjSm_digx_19 : MjSm := ([(0, 0, 3, 0, 0), (0, 0, 1, 0, 0)], [], [((0, 0, 16, 0, 0), [], [])], [], 1)
set_option maxRecDepth 100000 in
theorem mjC_digx_19 : mjCtr (mjSW 0 240 mjWd_digx) 48 mjSm_digx_19 := aiOk_ctr mjUW_ok (env := []) (fun e he => (by cases he)) (pr := []) (cuts := []) (n := 9) (by decide +kernel)
def mjSm_digx_20 : MjSm := ([(3, 209, 209, 0, 0), (0, 0, 16, 0, 0), (0, 1, 1, 0, 0)], [], [((7, 0, 0, 0, 0), [], [])], [(210, 9), (212, 255)], 1)
set_option maxRecDepth 100000 in
theorem mjC_digx_20 : mjCtr (mjSW 0 240 mjWd_digx) 92 mjSm_digx_20 := aiOk_ctr mjUW_ok (env := []) (fun e he => (by cases he)) (pr := []) (cuts := []) (n := 22) (by decide +kernel)
def mjSm_digx_21 : MjSm := ([(3, 209, 209, 0, 0), (0, 0, 3, 0, 0), (0, 0, 1, 0, 0), (0, 1, 1, 0, 0)], [], [((7, 0, 0, 0, 0), [], [])], [(210, 8), (210, 9), (212, 255)], 2)
set_option maxRecDepth 100000 in
theorem mjC_digx_21 : mjCtr (mjSW 0 240 mjWd_digx) 91 mjSm_digx_21 := aiOk_ctr mjUW_ok (env := [(69, mjSm_digx_16), (48, mjSm_digx_19), (48, mjSm_digx_17), (92, mjSm_digx_20), (92, mjSm_digx_18)]) (mjEnvC mjC_digx_16 (mjEnvC mjC_digx_19 (mjEnvC mjC_digx_17 (mjEnvC mjC_digx_20 (mjEnvC mjC_digx_18 (fun e he => (by cases he))))))) (pr := []) (cuts := [(25, ([(3, 209, 209, 0, 0), (0, 0, 3, 0, 0), (0, 0, 1, 0, 0), (0, 1, 1, 0, 0), (0, 1, 3, 0, 0), (9, 0, 0, 0, 0)], [], []), [(0, 0, 49975), (1, 4, 2147483647), (0, 0, 60000), (0, 0, 0), (0, 0, 0), (0, 0, 0), (0, 0, 0), (0, 0, 0)])]) (n := 43) (by decide +kernel)
def mjSm_digx_22 : MjSm := ([(3, 209, 209, 0, 0), (0, 0, 3, 0, 0), (0, 0, 1, 0, 0)], [], [((7, 0, 0, 0, 0), [], [])], [(210, 7), (210, 8), (210, 9), (212, 255), (217, 255), (218, 255)], 3)
set_option maxRecDepth 100000 in
theorem mjC_digx_22 : mjCtr (mjSW 0 240 mjWd_digx) 90 mjSm_digx_22 := aiOk_ctr mjUW_ok (env := [(91, mjSm_digx_21)]) (mjEnvC mjC_digx_21 (fun e he => (by cases he))) (pr := []) (cuts := [(78, ([(3, 209, 209, 0, 0), (0, 0, 3, 0, 0), (0, 0, 1, 0, 0), (0, 0, 0, 0, 0), (0, 0, 0, 0, 0)], [], []), [(0, 0, 49922), (1, 4, 2147483647), (0, 0, 60000), (0, 0, 0), (0, 0, 0), (0, 0, 0), (0, 0, 0), (0, 0, 0)])]) (n := 47) (by decide +kernel)
def mjSm_digx_23 : MjSm := ([(3, 209, 209, 0, 0), (0, 0, 3, 0, 0), (0, 0, 2, 0, 0), (0, 0, 0, 0, 0)], [], [((0, 0, 0, 0, 0), [], []), ((0, 1, 1, 0, 0), [(2, 0, 1)], []), ((0, 0, 0, 0, 0), [(2, 0, 1)], []), ((0, 1, 1, 0, 0), [(2, 2, 2)], []), ((0, 0, 0, 0, 0), [(2, 2, 2)], [])], [(215, 255)], 2)
set_option maxRecDepth 100000 in
theorem mjC_digx_23 : mjCtr (mjSW 0 240 mjWd_digx) 76 mjSm_digx_23 := aiOk_ctr mjUW_ok (env := [(77, mjSm_digx_15), (48, mjSm_digx_13)]) (mjEnvC mjC_digx_15 (mjEnvC mjC_digx_13 (fun e he => (by cases he)))) (pr := [2]) (cuts := []) (n := 80) (by decide +kernel)
def mjSm_digx_24 : MjSm := ([(0, 0, 3, 0, 0), (0, 2, 2, 0, 0)], [], [((0, 2, 17, 0, 0), [], [])], [], 1)
set_option maxRecDepth 100000 in
theorem mjC_digx_24 : mjCtr (mjSW 0 240 mjWd_digx) 48 mjSm_digx_24 := aiOk_ctr mjUW_ok (env := []) (fun e he => (by cases he)) (pr := []) (cuts := []) (n := 9) (by decide +kernel)
def mjSm_digx_25 : MjSm := ([(3, 209, 209, 0, 0), (0, 2, 17, 0, 0), (0, 1, 1, 0, 0)], [], [((7, 0, 0, 0, 0), [], [])], [(210, 9), (212, 255)], 1)
set_option maxRecDepth 100000 in
theorem mjC_digx_25 : mjCtr (mjSW 0 240 mjWd_digx) 92 mjSm_digx_25 := aiOk_ctr mjUW_ok (env := []) (fun e he => (by cases he)) (pr := []) (cuts := []) (n := 22) (by decide +kernel)
def mjSm_digx_26 : MjSm := ([(3, 209, 209, 0, 0), (0, 0, 3, 0, 0), (0, 2, 2, 0, 0), (0, 1, 1, 0, 0)], [], [((7, 0, 0, 0, 0), [], [])], [(210, 8), (210, 9), (212, 255)], 2)
set_option maxRecDepth 100000 in
theorem mjC_digx_26 : mjCtr (mjSW 0 240 mjWd_digx) 91 mjSm_digx_26 := aiOk_ctr mjUW_ok (env := [(48, mjSm_digx_24), (92, mjSm_digx_25)]) (mjEnvC mjC_digx_24 (mjEnvC mjC_digx_25 (fun e he => (by cases he)))) (pr := []) (cuts := [(25, ([(3, 209, 209, 0, 0), (0, 0, 3, 0, 0), (0, 2, 2, 0, 0), (0, 1, 1, 0, 0), (0, 3, 3, 0, 0), (9, 0, 0, 0, 0)], [], []), [(0, 0, 49975), (1, 4, 2147483647), (0, 0, 60000), (0, 0, 0), (0, 0, 0), (0, 0, 0), (0, 0, 0), (0, 0, 0)])]) (n := 19) (by decide +kernel)
def mjSm_digx_27 : MjSm := ([(3, 209, 209, 0, 0), (0, 0, 3, 0, 0), (0, 2, 2, 0, 0)], [], [((7, 0, 0, 0, 0), [], [])], [(210, 7), (210, 8), (210, 9), (212, 255), (217, 255), (218, 255)], 3)
set_option maxRecDepth 100000 in
theorem mjC_digx_27 : mjCtr (mjSW 0 240 mjWd_digx) 90 mjSm_digx_27 := aiOk_ctr mjUW_ok (env := [(91, mjSm_digx_26)]) (mjEnvC mjC_digx_26 (fun e he => (by cases he))) (pr := []) (cuts := [(78, ([(3, 209, 209, 0, 0), (0, 0, 3, 0, 0), (0, 2, 2, 0, 0), (0, 0, 0, 0, 0), (0, 0, 0, 0, 0)], [], []), [(0, 0, 49922), (1, 4, 2147483647), (0, 0, 60000), (0, 0, 0), (0, 0, 0), (0, 0, 0), (0, 0, 0), (0, 0, 0)])]) (n := 47) (by decide +kernel)
def mjSm_digx_28 : MjSm := ([(3, 209, 209, 0, 0), (0, 1, 1, 0, 0), (0, 0, 0, 0, 0)], [(209, 8, (0, 0, 0, 0, 0))], [((7, 0, 0, 0, 0), [], [])], [(210, 7), (210, 8), (210, 9), (211, 5), (211, 6), (211, 7), (212, 255), (215, 255), (216, 255), (217, 255), (218, 255)], 4)
set_option maxRecDepth 100000 in
theorem mjC_digx_28 : mjCtr (mjSW 0 240 mjWd_digx) 88 mjSm_digx_28 := aiOk_ctr mjUW_ok (env := [(74, mjSm_digx_6), (93, mjSm_digx_11), (90, mjSm_digx_27), (90, mjSm_digx_22), (48, mjSm_digx_13), (76, mjSm_digx_23), (89, mjSm_digx_14)]) (mjEnvC mjC_digx_6 (mjEnvC mjC_digx_11 (mjEnvC mjC_digx_27 (mjEnvC mjC_digx_22 (mjEnvC mjC_digx_13 (mjEnvC mjC_digx_23 (mjEnvC mjC_digx_14 (fun e he => (by cases he))))))))) (pr := []) (cuts := [(2, ([(3, 209, 209, 0, 0), (0, 1, 1, 0, 0), (0, 0, 0, 0, 0), (0, 0, 4, 0, 0), (9, 0, 0, 0, 0)], [], [(209, 8, (0, 0, 0, 0, 0))]), [(0, 0, 49998), (1, 3, 2147483647), (0, 0, 60000), (0, 0, 0), (0, 0, 0), (0, 0, 0), (0, 0, 0), (0, 0, 0)]), (16, ([(3, 209, 209, 0, 0), (0, 1, 1, 0, 0), (0, 0, 0, 0, 0), (0, 0, 3, 0, 0), (0, 0, 3, 0, 0)], [], [(209, 8, (0, 0, 0, 0, 0))]), [(0, 0, 49998), (1, 3, 2147483647), (0, 0, 49984), (1, 4, 2147483647), (0, 0, 60000), (0, 0, 0), (0, 0, 0), (0, 0, 0)]), (140, ([(3, 209, 209, 0, 0), (0, 1, 1, 0, 0), (0, 0, 0, 0, 0), (0, 0, 3, 0, 0), (9, 0, 0, 0, 0)], [], []), [(0, 0, 49860), (1, 3, 2147483647), (0, 0, 60000), (0, 0, 0), (0, 0, 0), (0, 0, 0), (0, 0, 0), (0, 0, 0)]), (154, ([(3, 209, 209, 0, 0), (0, 1, 1, 0, 0), (0, 0, 0, 0, 0), (0, 0, 2, 0, 0), (0, 0, 4, 0, 0)], [], []), [(0, 0, 49860), (1, 3, 2147483647), (0, 0, 49846), (1, 4, 2147483647), (0, 0, 60000), (0, 0, 0), (0, 0, 0), (0, 0, 0)])]) (n := 26) (by decide +kernel)
def mjSm_digx_29 : MjSm := ([(3, 209, 209, 0, 0), (0, 1, 1, 0, 0), (0, 0, 0, 0, 0)], [], [((7, 0, 0, 0, 0), [], [])], [(210, 7), (210, 8), (210, 9), (211, 5), (211, 6), (211, 7), (212, 255), (215, 255), (216, 255), (217, 255), (218, 255)], 4)
set_option maxRecDepth 100000 in
theorem mjC_digx_29 : mjCtr (mjSW 0 240 mjWd_digx) 88 mjSm_digx_29 := aiOk_ctr mjUW_ok (env := [(74, mjSm_digx_6), (93, mjSm_digx_11), (90, mjSm_digx_27), (90, mjSm_digx_22), (48, mjSm_digx_13), (76, mjSm_digx_23), (89, mjSm_digx_14)]) (mjEnvC mjC_digx_6 (mjEnvC mjC_digx_11 (mjEnvC mjC_digx_27 (mjEnvC mjC_digx_22 (mjEnvC mjC_digx_13 (mjEnvC mjC_digx_23 (mjEnvC mjC_digx_14 (fun e he => (by cases he))))))))) (pr := []) (cuts := [(2, ([(3, 209, 209, 0, 0), (0, 1, 1, 0, 0), (0, 0, 0, 0, 0), (0, 0, 4, 0, 0), (9, 0, 0, 0, 0)], [], []), [(0, 0, 49998), (1, 3, 2147483647), (0, 0, 60000), (0, 0, 0), (0, 0, 0), (0, 0, 0), (0, 0, 0), (0, 0, 0)]), (16, ([(3, 209, 209, 0, 0), (0, 1, 1, 0, 0), (0, 0, 0, 0, 0), (0, 0, 3, 0, 0), (0, 0, 3, 0, 0)], [], []), [(0, 0, 49998), (1, 3, 2147483647), (0, 0, 49984), (1, 4, 2147483647), (0, 0, 60000), (0, 0, 0), (0, 0, 0), (0, 0, 0)]), (140, ([(3, 209, 209, 0, 0), (0, 1, 1, 0, 0), (0, 0, 0, 0, 0), (0, 0, 3, 0, 0), (9, 0, 0, 0, 0)], [], []), [(0, 0, 49860), (1, 3, 2147483647), (0, 0, 60000), (0, 0, 0), (0, 0, 0), (0, 0, 0), (0, 0, 0), (0, 0, 0)]), (154, ([(3, 209, 209, 0, 0), (0, 1, 1, 0, 0), (0, 0, 0, 0, 0), (0, 0, 2, 0, 0), (0, 0, 4, 0, 0)], [], []), [(0, 0, 49860), (1, 3, 2147483647), (0, 0, 49846), (1, 4, 2147483647), (0, 0, 60000), (0, 0, 0), (0, 0, 0), (0, 0, 0)])]) (n := 26) (by decide +kernel)
def mjSm_digx_30 : MjSm := ([(3, 224, 224, 0, 0), (0, 0, 24, 0, 0)], [(209, 8, (0, 0, 0, 0, 0))], [((0, 0, 0, 0, 0), [(1, 0, 24)], [])], [(210, 7), (210, 8), (210, 9), (211, 5), (211, 6), (211, 7), (212, 255), (215, 255), (216, 255), (217, 255), (218, 255)], 5)
set_option maxRecDepth 100000 in
theorem mjC_digx_30 : mjCtr (mjSW 0 240 mjWd_digx) 137 mjSm_digx_30 := aiOk_ctr mjUW_ok (env := [(88, mjSm_digx_28), (88, mjSm_digx_29), (93, mjSm_digx_11)]) (mjEnvC mjC_digx_28 (mjEnvC mjC_digx_29 (mjEnvC mjC_digx_11 (fun e he => (by cases he))))) (pr := [1]) (cuts := []) (n := 300) (by decide +kernel)
def mjSm_digx_31 : MjSm := ([(3, 224, 224, 0, 0), (0, 0, 0, 0, 0), (0, 0, 0, 0, 0), (0, 0, 0, 0, 0)], [(224, 9, (0, -1, -1, 0, 0))], [((0, 1, 1, 0, 0), [], [(224, 9, (0, 0, 0, 0, 0))])], [(225, 6), (225, 7), (225, 9)], 1)
set_option maxRecDepth 100000 in
theorem mjC_digx_31 : mjCtr (mjSW 0 240 mjWd_digx) 139 mjSm_digx_31 := aiOk_ctr mjUW_ok (env := []) (fun e he => (by cases he)) (pr := []) (cuts := []) (n := 18) (by decide +kernel)
def mjSm_digx_32 : MjSm := ([(3, 224, 224, 0, 0), (3, 193, 193, 0, 0), (3, 20, 20, 0, 0), (0, 0, 24, 0, 0)], [(209, 8, (0, 0, 0, 0, 0)), (224, 2, (3, 205, 205, 0, 0)), (224, 9, (0, 0, 0, 0, 0))], [((7, 0, 0, 0, 0), [], [(224, 2, (3, 20, 20, 0, 0)), (224, 9, (0, 0, 0, 0, 0))])], [(210, 2), (210, 3), (210, 7), (210, 8), (210, 9), (211, 3), (211, 4), (211, 5), (211, 6), (211, 7), (212, 255), (213, 255), (214, 255), (215, 255), (216, 255), (217, 255), (218, 255), (225, 1), (225, 2), (225, 6), (225, 7), (225, 9)], 6)
set_option maxRecDepth 100000 in
theorem mjC_digx_32 : mjCtr (mjSW 0 240 mjWd_digx) 143 mjSm_digx_32 := aiOk_ctr mjUW_ok (env := [(139, mjSm_digx_31), (137, mjSm_digx_30), (48, mjSm_digx_12), (72, mjSm_digx_8), (123, mjSm_digx_9), (93, mjSm_digx_11)]) (mjEnvC mjC_digx_31 (mjEnvC mjC_digx_30 (mjEnvC mjC_digx_12 (mjEnvC mjC_digx_8 (mjEnvC mjC_digx_9 (mjEnvC mjC_digx_11 (fun e he => (by cases he)))))))) (pr := []) (cuts := []) (n := 129) (by decide +kernel)
def mjSm_digx_33 : MjSm := ([(3, 0, 0, 0, 0), (0, -2147483648, 2147483647, 0, 0), (0, -2147483648, 2147483647, 0, 0)], [(209, 8, (0, 0, 0, 0, 0)), (224, 2, (3, 205, 205, 0, 0)), (224, 9, (0, 0, 0, 0, 0))], [((0, -1, -1, 0, 0), [(1, 0, 24), (2, 3, 2147483647)], [(209, 8, (0, 0, 0, 0, 0)), (224, 2, (3, 205, 205, 0, 0)), (224, 9, (0, 0, 0, 0, 0))]), ((0, 0, 0, 0, 0), [(1, 0, 24), (2, 2, 2)], [(224, 2, (3, 20, 20, 0, 0)), (224, 9, (0, 0, 0, 0, 0))]), ((0, 0, 0, 0, 0), [(1, 0, 24), (2, 1, 1)], [(224, 2, (3, 20, 20, 0, 0)), (224, 9, (0, 0, 0, 0, 0))]), ((0, 0, 0, 0, 0), [(1, 0, 24), (2, 0, 0)], [(224, 2, (3, 20, 20, 0, 0)), (224, 9, (0, 0, 0, 0, 0))]), ((0, -1, -1, 0, 0), [(1, 0, 24), (2, -2147483648, -1)], [(209, 8, (0, 0, 0, 0, 0)), (224, 2, (3, 205, 205, 0, 0)), (224, 9, (0, 0, 0, 0, 0))]), ((0, -1, -1, 0, 0), [(1, 25, 2147483647)], [(209, 8, (0, 0, 0, 0, 0)), (224, 2, (3, 205, 205, 0, 0)), (224, 9, (0, 0, 0, 0, 0))]), ((0, -1, -1, 0, 0), [(1, -2147483648, -1)], [(209, 8, (0, 0, 0, 0, 0)), (224, 2, (3, 205, 205, 0, 0)), (224, 9, (0, 0, 0, 0, 0))])], [(210, 2), (210, 3), (210, 7), (210, 8), (210, 9), (211, 3), (211, 4), (211, 5), (211, 6), (211, 7), (212, 255), (213, 255), (214, 255), (215, 255), (216, 255), (217, 255), (218, 255), (225, 1), (225, 2), (225, 6), (225, 7), (225, 9)], 7)
set_option maxRecDepth 100000 in
theorem mjC_digx_33 : mjCtr (mjSW 0 240 mjWd_digx) 142 mjSm_digx_33 := aiOk_ctr mjUW_ok (env := [(143, mjSm_digx_32), (70, mjSm_digx_0)]) (mjEnvC mjC_digx_32 (mjEnvC mjC_digx_0 (fun e he => (by cases he)))) (pr := [1, 2]) (cuts := []) (n := 29) (by decide +kernel)
def mjWd_digm : MjWd := [(240, 49, (0, 0, 3)), (240, 50, (0, 0, 2)), (240, 56, (0, -2147483648, 2147483647)), (240, 57, (0, 0, 3)), (240, 58, (0, -2147483648, 2147483647)), (274, 0, (0, 0, 99)), (274, 1, (0, 0, 99)), (274, 2, (0, 0, 99)), (274, 3, (0, 0, 99)), (274, 4, (0, 0, 99)), (274, 5, (0, 0, 99)), (274, 6, (0, 0, 99)), (274, 7, (0, 0, 99)), (274, 8, (0, 0, 99)), (274, 9, (0, 0, 99)), (274, 10, (0, 0, 99)), (274, 11, (0, 0, 99)), (274, 12, (0, 0, 99)), (274, 13, (0, 0, 99)), (274, 14, (0, 0, 99)), (274, 15, (0, 0, 99)), (274, 16, (0, 0, 99)), (274, 17, (0, 0, 99)), (274, 68, (0, -2147483648, 2147483647)), (275, 0, (0, 0, 99)), (275, 1, (0, 0, 99)), (275, 2, (0, 0, 99)), (275, 3, (0, 0, 99)), (275, 4, (0, 0, 99)), (275, 5, (0, 0, 99)), (275, 6, (0, 0, 99)), (275, 7, (0, 0, 99)), (275, 8, (0, 0, 99)), (275, 9, (0, 0, 99)), (275, 10, (0, 0, 99)), (275, 11, (0, 0, 99)), (275, 12, (0, 0, 99)), (275, 13, (0, 0, 99)), (275, 14, (0, 0, 99)), (275, 15, (0, 0, 99)), (275, 16, (0, 0, 99)), (275, 17, (0, 0, 99)), (275, 68, (0, -2147483648, 2147483647)), (276, 255, (0, -2147483648, 2147483647))]
theorem mjWd_digm_ok : mjWdB mjWd_digm = true := by decide +kernel
def mjSm_digm_0 : MjSm := ([(0, -2147483648, 2147483647, 0, 0), (0, 0, 0, 0, 0), (0, 24, 24, 0, 0)], [], [((0, 1, 1, 0, 0), [(0, 0, 24)], []), ((0, 0, 0, 0, 0), [(0, 25, 2147483647)], []), ((0, 0, 0, 0, 0), [(0, -2147483648, -1)], [])], [], 1)
set_option maxRecDepth 100000 in
theorem mjC_digm_0 : mjCtr (mjSW 240 290 mjWd_digm) 221 mjSm_digm_0 := aiOk_ctr mjUW_ok (env := []) (fun e he => (by cases he)) (pr := [0]) (cuts := []) (n := 12) (by decide +kernel)
def mjSm_digm_1 : MjSm := ([(0, -2147483648, 2147483647, 0, 0), (0, 0, 0, 0, 0), (0, 2, 2, 0, 0)], [], [((0, 1, 1, 0, 0), [(0, 0, 2)], []), ((0, 0, 0, 0, 0), [(0, 3, 2147483647)], []), ((0, 0, 0, 0, 0), [(0, -2147483648, -1)], [])], [], 1)
set_option maxRecDepth 100000 in
theorem mjC_digm_1 : mjCtr (mjSW 240 290 mjWd_digm) 221 mjSm_digm_1 := aiOk_ctr mjUW_ok (env := []) (fun e he => (by cases he)) (pr := [0]) (cuts := []) (n := 12) (by decide +kernel)
def mjSm_digm_2 : MjSm := ([(3, 240, 240, 0, 0)], [], [((7, 0, 0, 0, 0), [], [])], [(276, 255)], 1)
set_option maxRecDepth 100000 in
theorem mjC_digm_2 : mjCtr (mjSW 240 290 mjWd_digm) 266 mjSm_digm_2 := aiOk_ctr mjUW_ok (env := []) (fun e he => (by cases he)) (pr := []) (cuts := []) (n := 919) (by decide +kernel)
def mjSm_digm_3 : MjSm := ([(3, 240, 240, 0, 0)], [], [((0, 4, 4, 0, 0), [], [])], [], 1)
set_option maxRecDepth 100000 in
theorem mjC_digm_3 : mjCtr (mjSW 240 290 mjWd_digm) 220 mjSm_digm_3 := aiOk_ctr mjUW_ok (env := []) (fun e he => (by cases he)) (pr := []) (cuts := []) (n := 9) (by decide +kernel)
def mjSm_digm_4 : MjSm := ([(3, 240, 240, 0, 0)], [], [((0, 3, 3, 0, 0), [], [])], [], 1)
set_option maxRecDepth 100000 in
theorem mjC_digm_4 : mjCtr (mjSW 240 290 mjWd_digm) 222 mjSm_digm_4 := aiOk_ctr mjUW_ok (env := []) (fun e he => (by cases he)) (pr := []) (cuts := []) (n := 9) (by decide +kernel)
def mjSm_digm_5 : MjSm := ([(0, 1, 100, 0, 0), (0, 0, 0, 0, 0), (0, 99, 99, 0, 0)], [], [((0, 99, 99, 0, 0), [(0, 100, 100)], []), ((0, 1, 99, 0, 0), [(0, 1, 99)], [])], [], 1)
set_option maxRecDepth 100000 in
theorem mjC_digm_5 : mjCtr (mjSW 240 290 mjWd_digm) 249 mjSm_digm_5 := aiOk_ctr mjUW_ok (env := []) (fun e he => (by cases he)) (pr := [0]) (cuts := []) (n := 12) (by decide +kernel)
def mjSm_digm_6 : MjSm := ([(3, 240, 240, 0, 0), (0, 0, 3, 0, 0), (0, 0, 2, 0, 0)], [], [((0, 0, 99, 0, 0), [], [])], [], 1)
set_option maxRecDepth 100000 in
theorem mjC_digm_6 : mjCtr (mjSW 240 290 mjWd_digm) 223 mjSm_digm_6 := aiOk_ctr mjUW_ok (env := []) (fun e he => (by cases he)) (pr := []) (cuts := []) (n := 14) (by decide +kernel)
def mjSm_digm_7 : MjSm := ([(3, 240, 240, 0, 0), (0, 0, 3, 0, 0), (0, 0, 2, 0, 0), (0, 1, 1, 0, 0)], [], [((7, 0, 0, 0, 0), [], [])], [(275, 255)], 2)
set_option maxRecDepth 100000 in
theorem mjC_digm_7 : mjCtr (mjSW 240 290 mjWd_digm) 248 mjSm_digm_7 := aiOk_ctr mjUW_ok (env := [(223, mjSm_digm_6), (249, mjSm_digm_5)]) (mjEnvC mjC_digm_6 (mjEnvC mjC_digm_5 (fun e he => (by cases he)))) (pr := []) (cuts := []) (n := 23) (by decide +kernel)
def mjSm_digm_8 : MjSm := ([(0, 0, 0, 0, 0), (0, 2, 2, 0, 0)], [], [((0, 0, 0, 0, 0), [], [])], [], 1)
set_option maxRecDepth 100000 in
theorem mjC_digm_8 : mjCtr (mjSW 240 290 mjWd_digm) 191 mjSm_digm_8 := aiOk_ctr mjUW_ok (env := []) (fun e he => (by cases he)) (pr := []) (cuts := []) (n := 12) (by decide +kernel)
def mjSm_digm_9 : MjSm := ([(3, 240, 240, 0, 0)], [], [((0, 0, 0, 0, 0), [], [])], [], 1)
set_option maxRecDepth 100000 in
theorem mjC_digm_9 : mjCtr (mjSW 240 290 mjWd_digm) 179 mjSm_digm_9 := aiOk_ctr mjUW_ok (env := []) (fun e he => (by cases he)) (pr := []) (cuts := []) (n := 9) (by decide +kernel)
def mjSm_digm_10 : MjSm := ([(3, 240, 240, 0, 0), (0, 0, 3, 0, 0)], [], [((0, 0, 0, 0, 0), [], [])], [], 1)
set_option maxRecDepth 100000 in
theorem mjC_digm_10 : mjCtr (mjSW 240 290 mjWd_digm) 226 mjSm_digm_10 := aiOk_ctr mjUW_ok (env := []) (fun e he => (by cases he)) (pr := []) (cuts := [(4, ([(3, 240, 240, 0, 0), (0, 0, 3, 0, 0), (0, 0, 0, 0, 0), (0, 0, 0, 0, 0)], [], []), [(0, 0, 49996), (1, 3, 2147483647), (0, 0, 60000), (0, 0, 0), (0, 0, 0), (0, 0, 0), (0, 0, 0), (0, 0, 0)])]) (n := 12) (by decide +kernel)
def mjSm_digm_11 : MjSm := ([(0, 0, 3, 0, 0), (0, 0, 0, 0, 0), (0, 3, 3, 0, 0)], [], [((0, 1, 1, 0, 0), [], [])], [], 1)
set_option maxRecDepth 100000 in
theorem mjC_digm_11 : mjCtr (mjSW 240 290 mjWd_digm) 221 mjSm_digm_11 := aiOk_ctr mjUW_ok (env := []) (fun e he => (by cases he)) (pr := []) (cuts := []) (n := 12) (by decide +kernel)
def mjSm_digm_12 : MjSm := ([(3, 240, 240, 0, 0), (0, 0, 3, 0, 0)], [], [((0, 1, 1, 0, 0), [], [])], [], 2)
set_option maxRecDepth 100000 in
theorem mjC_digm_12 : mjCtr (mjSW 240 290 mjWd_digm) 219 mjSm_digm_12 := aiOk_ctr mjUW_ok (env := [(220, mjSm_digm_3), (221, mjSm_digm_11)]) (mjEnvC mjC_digm_3 (mjEnvC mjC_digm_11 (fun e he => (by cases he)))) (pr := []) (cuts := []) (n := 11) (by decide +kernel)
def mjSm_digm_13 : MjSm := ([(3, 240, 240, 0, 0), (0, 0, 3, 0, 0), (0, 1, 2, 0, 0)], [], [((0, 0, 0, 0, 0), [], [])], [], 1)
set_option maxRecDepth 100000 in
theorem mjC_digm_13 : mjCtr (mjSW 240 290 mjWd_digm) 224 mjSm_digm_13 := aiOk_ctr mjUW_ok (env := []) (fun e he => (by cases he)) (pr := []) (cuts := []) (n := 14) (by decide +kernel)
def mjSm_digm_14 : MjSm := ([(3, 240, 240, 0, 0), (0, 0, 3, 0, 0), (0, 1, 2, 0, 0)], [], [((0, 0, 99, 0, 0), [], [])], [], 1)
set_option maxRecDepth 100000 in
theorem mjC_digm_14 : mjCtr (mjSW 240 290 mjWd_digm) 223 mjSm_digm_14 := aiOk_ctr mjUW_ok (env := []) (fun e he => (by cases he)) (pr := []) (cuts := []) (n := 14) (by decide +kernel)
def mjSm_digm_15 : MjSm := ([(3, 240, 240, 0, 0), (0, 0, 3, 0, 0), (0, 0, 2, 0, 0), (0, 0, 0, 0, 0)], [], [((0, 0, 0, 0, 0), [], []), ((0, 1, 1, 0, 0), [], [])], [(241, 49), (241, 50), (241, 51)], 2)
set_option maxRecDepth 100000 in
theorem mjC_digm_15 : mjCtr (mjSW 240 290 mjWd_digm) 225 mjSm_digm_15 := aiOk_ctr mjUW_ok (env := [(191, mjSm_digm_8), (226, mjSm_digm_10), (223, mjSm_digm_6)]) (mjEnvC mjC_digm_8 (mjEnvC mjC_digm_10 (mjEnvC mjC_digm_6 (fun e he => (by cases he))))) (pr := []) (cuts := []) (n := 52) (by decide +kernel)
def mjSm_digm_16 : MjSm := ([(3, 240, 240, 0, 0), (0, 0, 3, 0, 0), (0, 0, 2, 0, 0), (0, 1, 1, 0, 0)], [], [((7, 0, 0, 0, 0), [], [])], [(241, 57), (241, 58), (275, 255)], 3)
set_option maxRecDepth 100000 in
theorem mjC_digm_16 : mjCtr (mjSW 240 290 mjWd_digm) 241 mjSm_digm_16 := aiOk_ctr mjUW_ok (env := [(222, mjSm_digm_4), (219, mjSm_digm_12), (223, mjSm_digm_14), (224, mjSm_digm_13), (223, mjSm_digm_6)]) (mjEnvC mjC_digm_4 (mjEnvC mjC_digm_12 (mjEnvC mjC_digm_14 (mjEnvC mjC_digm_13 (mjEnvC mjC_digm_6 (fun e he => (by cases he))))))) (pr := []) (cuts := [(37, ([(3, 240, 240, 0, 0), (0, 0, 3, 0, 0), (0, 0, 2, 0, 0), (0, 1, 1, 0, 0), (0, 1, 3, 0, 0), (9, 0, 0, 0, 0)], [], []), [(0, 0, 49963), (1, 4, 2147483647), (0, 0, 60000), (0, 0, 0), (0, 0, 0), (0, 0, 0), (0, 0, 0), (0, 0, 0)])]) (n := 59) (by decide +kernel)
def mjSm_digm_17 : MjSm := ([(3, 240, 240, 0, 0), (0, 0, 3, 0, 0), (0, 0, 2, 0, 0), (0, 0, 0, 0, 0)], [], [((7, 0, 0, 0, 0), [], [])], [(241, 49), (241, 50), (241, 51), (241, 56), (241, 57), (241, 58), (275, 255), (277, 255)], 4)
set_option maxRecDepth 100000 in
theorem mjC_digm_17 : mjCtr (mjSW 240 290 mjWd_digm) 250 mjSm_digm_17 := aiOk_ctr mjUW_ok (env := [(179, mjSm_digm_9), (241, mjSm_digm_16), (225, mjSm_digm_15)]) (mjEnvC mjC_digm_9 (mjEnvC mjC_digm_16 (mjEnvC mjC_digm_15 (fun e he => (by cases he))))) (pr := []) (cuts := [(55, ([(3, 240, 240, 0, 0), (0, 0, 3, 0, 0), (0, 0, 2, 0, 0), (0, 0, 0, 0, 0), (0, 0, 0, 0, 0)], [], []), [(0, 0, 49945), (1, 4, 2147483647), (0, 0, 60000), (0, 0, 0), (0, 0, 0), (0, 0, 0), (0, 0, 0), (0, 0, 0)])]) (n := 35) (by decide +kernel)
def mjSm_digm_18 : MjSm := ([(3, 240, 240, 0, 0)], [], [((0, 0, 0, 0, 0), [], [])], [], 2)
set_option maxRecDepth 100000 in
theorem mjC_digm_18 : mjCtr (mjSW 240 290 mjWd_digm) 251 mjSm_digm_18 := aiOk_ctr mjUW_ok (env := [(179, mjSm_digm_9)]) (mjEnvC mjC_digm_9 (fun e he => (by cases he))) (pr := []) (cuts := [(4, ([(3, 240, 240, 0, 0), (0, 0, 0, 0, 0), (0, 0, 0, 0, 0)], [], []), [(0, 0, 49996), (1, 2, 2147483647), (0, 0, 60000), (0, 0, 0), (0, 0, 0), (0, 0, 0), (0, 0, 0), (0, 0, 0)])]) (n := 9) (by decide +kernel)
def mjSm_digm_19 : MjSm := ([(3, 240, 240, 0, 0), (0, 0, 0, 0, 0)], [], [((7, 0, 0, 0, 0), [], [])], [(241, 49), (241, 50), (241, 51), (241, 56), (241, 57), (241, 58), (275, 255), (277, 255)], 5)
set_option maxRecDepth 100000 in
theorem mjC_digm_19 : mjCtr (mjSW 240 290 mjWd_digm) 247 mjSm_digm_19 := aiOk_ctr mjUW_ok (env := [(220, mjSm_digm_3), (251, mjSm_digm_18), (222, mjSm_digm_4), (250, mjSm_digm_17), (248, mjSm_digm_7)]) (mjEnvC mjC_digm_3 (mjEnvC mjC_digm_18 (mjEnvC mjC_digm_4 (mjEnvC mjC_digm_17 (mjEnvC mjC_digm_7 (fun e he => (by cases he))))))) (pr := []) (cuts := [(7, ([(3, 240, 240, 0, 0), (0, 0, 0, 0, 0), (0, 0, 6, 0, 0), (9, 0, 0, 0, 0)], [], [(240, 56, (0, 0, 0, 0, 0))]), [(0, 0, 49993), (1, 2, 2147483647), (0, 0, 60000), (0, 0, 0), (0, 0, 0), (0, 0, 0), (0, 0, 0), (0, 0, 0)]), (52, ([(3, 240, 240, 0, 0), (0, 0, 0, 0, 0), (0, 1, 1, 0, 0), (0, 0, 12, 0, 0)], [], [(240, 56, (0, 0, 0, 0, 0))]), [(0, 0, 49948), (1, 3, 2147483647), (0, 0, 60000), (0, 0, 0), (0, 0, 0), (0, 0, 0), (0, 0, 0), (0, 0, 0)]), (159, ([(3, 240, 240, 0, 0), (0, 0, 0, 0, 0), (0, 1, 1, 0, 0), (0, 0, 12, 0, 0)], [], []), [(0, 0, 49841), (1, 3, 2147483647), (0, 0, 60000), (0, 0, 0), (0, 0, 0), (0, 0, 0), (0, 0, 0), (0, 0, 0)])]) (n := 28) (by decide +kernel)
def mjSm_digm_20 : MjSm := ([(3, 240, 240, 0, 0), (0, 0, 24, 0, 0)], [(240, 57, (0, 0, 0, 0, 0))], [((7, 0, 0, 0, 0), [], [])], [(241, 49), (241, 50), (241, 51), (241, 56), (241, 57), (241, 58), (275, 255), (277, 255)], 6)
set_option maxRecDepth 100000 in
theorem mjC_digm_20 : mjCtr (mjSW 240 290 mjWd_digm) 269 mjSm_digm_20 := aiOk_ctr mjUW_ok (env := [(247, mjSm_digm_19)]) (mjEnvC mjC_digm_19 (fun e he => (by cases he))) (pr := []) (cuts := [(2, ([(3, 240, 240, 0, 0), (0, 0, 24, 0, 0), (0, 0, 24, 0, 0)], [], []), [(0, 0, 49998), (1, 2, 2147483647), (0, 0, 60000), (0, 0, 0), (0, 0, 0), (0, 0, 0), (0, 0, 0), (0, 0, 0)])]) (n := 11) (by decide +kernel)
def mjSm_digm_21 : MjSm := ([(3, 240, 240, 0, 0), (0, 0, 24, 0, 0)], [(240, 57, (0, 0, 0, 0, 0))], [((0, 0, 0, 0, 0), [], [])], [(241, 49), (241, 50), (241, 51), (241, 56), (241, 57), (241, 58), (275, 255), (277, 255)], 7)
set_option maxRecDepth 100000 in
theorem mjC_digm_21 : mjCtr (mjSW 240 290 mjWd_digm) 272 mjSm_digm_21 := aiOk_ctr mjUW_ok (env := [(269, mjSm_digm_20), (251, mjSm_digm_18)]) (mjEnvC mjC_digm_20 (mjEnvC mjC_digm_18 (fun e he => (by cases he)))) (pr := []) (cuts := []) (n := 9) (by decide +kernel)
def mjSm_digm_22 : MjSm := ([(3, 240, 240, 0, 0)], [], [((7, 0, 0, 0, 0), [], [])], [(275, 255)], 1)
set_option maxRecDepth 100000 in
theorem mjC_digm_22 : mjCtr (mjSW 240 290 mjWd_digm) 267 mjSm_digm_22 := aiOk_ctr mjUW_ok (env := []) (fun e he => (by cases he)) (pr := []) (cuts := []) (n := 919) (by decide +kernel)
def mjSm_digm_23 : MjSm := ([(3, 240, 240, 0, 0), (0, 0, 24, 0, 0)], [], [((7, 0, 0, 0, 0), [], [])], [(241, 49), (241, 50), (241, 51), (241, 56), (241, 57), (241, 58), (275, 255), (277, 255)], 6)
set_option maxRecDepth 100000 in
theorem mjC_digm_23 : mjCtr (mjSW 240 290 mjWd_digm) 269 mjSm_digm_23 := aiOk_ctr mjUW_ok (env := [(247, mjSm_digm_19)]) (mjEnvC mjC_digm_19 (fun e he => (by cases he))) (pr := []) (cuts := [(2, ([(3, 240, 240, 0, 0), (0, 0, 24, 0, 0), (0, 0, 24, 0, 0)], [], []), [(0, 0, 49998), (1, 2, 2147483647), (0, 0, 60000), (0, 0, 0), (0, 0, 0), (0, 0, 0), (0, 0, 0), (0, 0, 0)])]) (n := 11) (by decide +kernel)
def mjSm_digm_24 : MjSm := ([(3, 240, 240, 0, 0), (0, 0, 24, 0, 0)], [], [((0, 0, 0, 0, 0), [], [])], [(241, 49), (241, 50), (241, 51), (241, 56), (241, 57), (241, 58), (275, 255), (277, 255)], 7)
set_option maxRecDepth 100000 in
theorem mjC_digm_24 : mjCtr (mjSW 240 290 mjWd_digm) 272 mjSm_digm_24 := aiOk_ctr mjUW_ok (env := [(251, mjSm_digm_18), (269, mjSm_digm_23)]) (mjEnvC mjC_digm_18 (mjEnvC mjC_digm_23 (fun e he => (by cases he)))) (pr := []) (cuts := []) (n := 9) (by decide +kernel)
def mjSm_digm_25 : MjSm := ([(3, 240, 240, 0, 0), (0, -2147483648, 2147483647, 0, 0), (0, -2147483648, 2147483647, 0, 0)], [(240, 57, (0, 0, 0, 0, 0))], [((0, -1, -1, 0, 0), [(1, -2147483648, -1)], [(240, 57, (0, 0, 0, 0, 0))]), ((0, -1, -1, 0, 0), [(1, 25, 2147483647)], [(240, 57, (0, 0, 0, 0, 0))]), ((0, -1, -1, 0, 0), [(1, 0, 24), (2, -2147483648, -1)], [(240, 57, (0, 0, 0, 0, 0))]), ((0, -1, -1, 0, 0), [(1, 0, 24), (2, 3, 2147483647)], [(240, 57, (0, 0, 0, 0, 0))]), ((0, 0, 0, 0, 0), [(1, 0, 24), (2, 0, 0)], []), ((0, 0, 0, 0, 0), [(1, 0, 24), (2, 1, 1)], []), ((0, 0, 0, 0, 0), [(1, 0, 24), (2, 2, 2)], [])], [(241, 49), (241, 50), (241, 51), (241, 56), (241, 57), (241, 58), (275, 255), (276, 255), (277, 255)], 8)
set_option maxRecDepth 100000 in
theorem mjC_digm_25 : mjCtr (mjSW 240 290 mjWd_digm) 291 mjSm_digm_25 := aiOk_ctr mjUW_ok (env := [(272, mjSm_digm_21), (266, mjSm_digm_2), (222, mjSm_digm_4), (267, mjSm_digm_22), (220, mjSm_digm_3), (272, mjSm_digm_24), (221, mjSm_digm_1), (221, mjSm_digm_0)]) (mjEnvC mjC_digm_21 (mjEnvC mjC_digm_2 (mjEnvC mjC_digm_4 (mjEnvC mjC_digm_22 (mjEnvC mjC_digm_3 (mjEnvC mjC_digm_24 (mjEnvC mjC_digm_1 (mjEnvC mjC_digm_0 (fun e he => (by cases he)))))))))) (pr := [1, 2]) (cuts := []) (n := 474) (by decide +kernel)
set_option maxRecDepth 100000 in
theorem mjPair_dig (sc : List Int32) (s1 s2 : Int32)  : ∃ (v : Int32) (n1 : Nat) (w1 : MjW) (n2 : Nat) (w2 : MjW), mjEx mjTb mjMt sc n1 7 142 0 (mjEntry mjM_142.2.2.1 (.ref 0 :: [.int s1, .int s2])) [] mjW0 = some (some (.int v), w1) ∧ mjEx mjTb mjMt sc n2 8 291 0 (mjEntry mjM_291.2.2.1 (.ref 240 :: [.int s1, .int s2])) [] w1 = some (some (.int v), w2) ∧ mjShp w1 = mjShp mjW0 ∧ mjShp w2 = mjShp mjW0 := mj_pair (smx := mjSm_digx_33) (smm := mjSm_digm_25) mjC_digx_33 mjC_digm_25 mjWd_digx_ok mjWd_digm_ok (by decide +kernel) (by decide +kernel) (by decide +kernel) (by decide +kernel) (by decide +kernel) ⟨⟨0, rfl, rfl⟩, ⟨⟨s1, rfl, mjB.all s1⟩, ⟨⟨s2, rfl, mjB.all s2⟩, trivial⟩⟩⟩ ⟨⟨240, rfl, rfl⟩, ⟨⟨s1, rfl, mjB.all s1⟩, ⟨⟨s2, rfl, mjB.all s2⟩, trivial⟩⟩⟩ rfl rfl
