def mjWd_bornex : MjWd := []
theorem mjWd_bornex_ok : mjWdB mjWd_bornex = true := by decide +kernel
def mjSm_bornex_0 : MjSm := ([(3, 193, 193, 0, 0), (0, -2147483648, 2147483647, 0, 0)], [], [((0, 1, 1, 0, 0), [(1, 0, 3)], []), ((0, 0, 0, 0, 0), [(1, 4, 2147483647)], []), ((0, 0, 0, 0, 0), [(1, -2147483648, -1)], [])], [], 1)
set_option maxRecDepth 100000 in
theorem mjC_bornex_0 : mjCtr (mjSW 0 240 mjWd_bornex) 69 mjSm_bornex_0 := aiOk_ctr mjUW_ok (env := []) (fun e he => (by cases he)) (pr := [1]) (cuts := []) (n := 15) (by decide +kernel)
def mjSm_bornex_1 : MjSm := ([(3, 18, 18, 0, 0)], [], [((3, 20, 20, 0, 0), [], [])], [], 1)
set_option maxRecDepth 100000 in
theorem mjC_bornex_1 : mjCtr (mjSW 0 240 mjWd_bornex) 70 mjSm_bornex_1 := aiOk_ctr mjUW_ok (env := []) (fun e he => (by cases he)) (pr := []) (cuts := []) (n := 9) (by decide +kernel)
def mjSm_bornex_2 : MjSm := ([(3, 210, 210, 0, 0), (3, 20, 20, 0, 0)], [], [((7, 0, 0, 0, 0), [], [])], [(211, 3), (211, 4), (211, 5), (211, 6), (211, 7), (212, 255), (213, 255), (214, 255)], 1)
set_option maxRecDepth 100000 in
theorem mjC_bornex_2 : mjCtr (mjSW 0 240 mjWd_bornex) 64 mjSm_bornex_2 := aiOk_ctr mjUW_ok (env := []) (fun e he => (by cases he)) (pr := []) (cuts := []) (n := 48) (by decide +kernel)
def mjSm_bornex_3 : MjSm := ([(3, 216, 216, 0, 0), (0, 0, 0, 0, 0)], [], [((7, 0, 0, 0, 0), [], [])], [(217, 255)], 1)
set_option maxRecDepth 100000 in
theorem mjC_bornex_3 : mjCtr (mjSW 0 240 mjWd_bornex) 6 mjSm_bornex_3 := aiOk_ctr mjUW_ok (env := []) (fun e he => (by cases he)) (pr := []) (cuts := [(5, ([(3, 216, 216, 0, 0), (0, 0, 0, 0, 0), (0, 0, 6, 0, 0), (0, 6, 6, 0, 0)], [], []), [(0, 0, 49995), (1, 2, 2147483647), (0, 0, 60000), (0, 0, 0), (0, 0, 0), (0, 0, 0), (0, 0, 0), (0, 0, 0)])]) (n := 12) (by decide +kernel)
def mjSm_bornex_4 : MjSm := ([(3, 217, 217, 0, 0), (0, 0, 0, 0, 0)], [], [((7, 0, 0, 0, 0), [], [])], [(218, 255)], 1)
set_option maxRecDepth 100000 in
theorem mjC_bornex_4 : mjCtr (mjSW 0 240 mjWd_bornex) 6 mjSm_bornex_4 := aiOk_ctr mjUW_ok (env := []) (fun e he => (by cases he)) (pr := []) (cuts := [(5, ([(3, 217, 217, 0, 0), (0, 0, 0, 0, 0), (0, 0, 6, 0, 0), (0, 6, 6, 0, 0)], [], []), [(0, 0, 49995), (1, 2, 2147483647), (0, 0, 60000), (0, 0, 0), (0, 0, 0), (0, 0, 0), (0, 0, 0), (0, 0, 0)])]) (n := 12) (by decide +kernel)
def mjSm_bornex_5 : MjSm := ([(3, 215, 215, 0, 0), (0, 0, 0, 0, 0)], [], [((7, 0, 0, 0, 0), [], [])], [(216, 255)], 1)
set_option maxRecDepth 100000 in
theorem mjC_bornex_5 : mjCtr (mjSW 0 240 mjWd_bornex) 6 mjSm_bornex_5 := aiOk_ctr mjUW_ok (env := []) (fun e he => (by cases he)) (pr := []) (cuts := [(5, ([(3, 215, 215, 0, 0), (0, 0, 0, 0, 0), (0, 0, 6, 0, 0), (0, 6, 6, 0, 0)], [], []), [(0, 0, 49995), (1, 2, 2147483647), (0, 0, 60000), (0, 0, 0), (0, 0, 0), (0, 0, 0), (0, 0, 0), (0, 0, 0)])]) (n := 12) (by decide +kernel)
def mjSm_bornex_6 : MjSm := ([(3, 193, 193, 0, 0), (3, 210, 210, 0, 0), (0, 0, 0, 0, 0)], [], [((0, 0, 0, 0, 0), [], [])], [], 1)
set_option maxRecDepth 100000 in
theorem mjC_bornex_6 : mjCtr (mjSW 0 240 mjWd_bornex) 75 mjSm_bornex_6 := aiOk_ctr mjUW_ok (env := []) (fun e he => (by cases he)) (pr := []) (cuts := [(5, ([(3, 193, 193, 0, 0), (3, 210, 210, 0, 0), (0, 0, 0, 0, 0), (0, 0, 0, 0, 0), (0, 0, 0, 0, 0), (9, 0, 0, 0, 0)], [], []), [(0, 0, 49995), (1, 4, 2147483647), (0, 0, 60000), (0, 0, 0), (0, 0, 0), (0, 0, 0), (0, 0, 0), (0, 0, 0)])]) (n := 9) (by decide +kernel)
def mjSm_bornex_7 : MjSm := ([(3, 209, 209, 0, 0)], [], [((7, 0, 0, 0, 0), [], [])], [(216, 255)], 2)
set_option maxRecDepth 100000 in
theorem mjC_bornex_7 : mjCtr (mjSW 0 240 mjWd_bornex) 74 mjSm_bornex_7 := aiOk_ctr mjUW_ok (env := [(6, mjSm_bornex_5), (75, mjSm_bornex_6)]) (mjEnvC mjC_bornex_5 (mjEnvC mjC_bornex_6 (fun e he => (by cases he)))) (pr := []) (cuts := [(32, ([(3, 209, 209, 0, 0), (0, 0, 0, 0, 0), (0, 0, 0, 0, 0)], [], []), [(0, 0, 49968), (1, 2, 2147483647), (0, 0, 60000), (0, 0, 0), (0, 0, 0), (0, 0, 0), (0, 0, 0), (0, 0, 0)])]) (n := 20) (by decide +kernel)
def mjSm_bornex_8 : MjSm := ([(3, 209, 209, 0, 0), (3, 193, 193, 0, 0), (3, 210, 210, 0, 0)], [], [((7, 0, 0, 0, 0), [], [])], [(210, 2), (210, 3), (210, 7), (216, 255), (217, 255), (218, 255)], 3)
set_option maxRecDepth 100000 in
theorem mjC_bornex_8 : mjCtr (mjSW 0 240 mjWd_bornex) 73 mjSm_bornex_8 := aiOk_ctr mjUW_ok (env := [(6, mjSm_bornex_4), (6, mjSm_bornex_3), (74, mjSm_bornex_7)]) (mjEnvC mjC_bornex_4 (mjEnvC mjC_bornex_3 (mjEnvC mjC_bornex_7 (fun e he => (by cases he))))) (pr := []) (cuts := []) (n := 23) (by decide +kernel)
def mjSm_bornex_9 : MjSm := ([(3, 209, 209, 0, 0), (3, 193, 193, 0, 0), (3, 20, 20, 0, 0)], [], [((7, 0, 0, 0, 0), [], [])], [(210, 2), (210, 3), (210, 7), (211, 3), (211, 4), (211, 5), (211, 6), (211, 7), (212, 255), (213, 255), (214, 255), (216, 255), (217, 255), (218, 255)], 4)
set_option maxRecDepth 100000 in
theorem mjC_bornex_9 : mjCtr (mjSW 0 240 mjWd_bornex) 72 mjSm_bornex_9 := aiOk_ctr mjUW_ok (env := [(73, mjSm_bornex_8), (64, mjSm_bornex_2)]) (mjEnvC mjC_bornex_8 (mjEnvC mjC_bornex_2 (fun e he => (by cases he)))) (pr := []) (cuts := []) (n := 13) (by decide +kernel)
def mjSm_bornex_10 : MjSm := ([(0, 0, 3, 0, 0), (0, 0, 0, 0, 0)], [], [((0, 0, 15, 0, 0), [], [])], [], 1)
set_option maxRecDepth 100000 in
theorem mjC_bornex_10 : mjCtr (mjSW 0 240 mjWd_bornex) 48 mjSm_bornex_10 := aiOk_ctr mjUW_ok (env := []) (fun e he => (by cases he)) (pr := []) (cuts := []) (n := 9) (by decide +kernel)
def mjSm_bornex_11 : MjSm := ([(3, 209, 209, 0, 0), (0, 0, 3, 0, 0), (0, 0, 0, 0, 0), (0, 99, 99, 0, 0)], [], [((0, 0, 0, 0, 0), [], [])], [], 2)
set_option maxRecDepth 100000 in
theorem mjC_bornex_11 : mjCtr (mjSW 0 240 mjWd_bornex) 76 mjSm_bornex_11 := aiOk_ctr mjUW_ok (env := [(48, mjSm_bornex_10)]) (mjEnvC mjC_bornex_10 (fun e he => (by cases he))) (pr := []) (cuts := []) (n := 17) (by decide +kernel)
def mjSm_bornex_12 : MjSm := ([(0, 0, 3, 0, 0), (0, 1, 1, 0, 0)], [], [((0, 1, 16, 0, 0), [], [])], [], 1)
set_option maxRecDepth 100000 in
theorem mjC_bornex_12 : mjCtr (mjSW 0 240 mjWd_bornex) 48 mjSm_bornex_12 := aiOk_ctr mjUW_ok (env := []) (fun e he => (by cases he)) (pr := []) (cuts := []) (n := 9) (by decide +kernel)
def mjSm_bornex_13 : MjSm := ([(3, 209, 209, 0, 0), (0, 0, 3, 0, 0), (0, 1, 1, 0, 0), (0, 99, 99, 0, 0)], [], [((0, 0, 0, 0, 0), [], [])], [], 2)
set_option maxRecDepth 100000 in
theorem mjC_bornex_13 : mjCtr (mjSW 0 240 mjWd_bornex) 76 mjSm_bornex_13 := aiOk_ctr mjUW_ok (env := [(48, mjSm_bornex_12)]) (mjEnvC mjC_bornex_12 (fun e he => (by cases he))) (pr := []) (cuts := []) (n := 17) (by decide +kernel)
def mjSm_bornex_14 : MjSm := ([(0, 0, 3, 0, 0), (0, 2, 2, 0, 0)], [], [((0, 2, 17, 0, 0), [], [])], [], 1)
set_option maxRecDepth 100000 in
theorem mjC_bornex_14 : mjCtr (mjSW 0 240 mjWd_bornex) 48 mjSm_bornex_14 := aiOk_ctr mjUW_ok (env := []) (fun e he => (by cases he)) (pr := []) (cuts := []) (n := 9) (by decide +kernel)
def mjSm_bornex_15 : MjSm := ([(3, 209, 209, 0, 0), (0, 0, 3, 0, 0), (0, 2, 2, 0, 0), (0, 99, 99, 0, 0)], [], [((0, 0, 0, 0, 0), [], [])], [], 2)
set_option maxRecDepth 100000 in
theorem mjC_bornex_15 : mjCtr (mjSW 0 240 mjWd_bornex) 76 mjSm_bornex_15 := aiOk_ctr mjUW_ok (env := [(48, mjSm_bornex_14)]) (mjEnvC mjC_bornex_14 (fun e he => (by cases he))) (pr := []) (cuts := []) (n := 17) (by decide +kernel)
def mjSm_bornex_16 : MjSm := ([(3, 209, 209, 0, 0), (0, 0, 3, 0, 0), (0, 99, 99, 0, 0)], [], [((7, 0, 0, 0, 0), [], [])], [], 3)
set_option maxRecDepth 100000 in
theorem mjC_bornex_16 : mjCtr (mjSW 0 240 mjWd_bornex) 96 mjSm_bornex_16 := aiOk_ctr mjUW_ok (env := [(76, mjSm_bornex_11), (76, mjSm_bornex_15), (76, mjSm_bornex_13)]) (mjEnvC mjC_bornex_11 (mjEnvC mjC_bornex_15 (mjEnvC mjC_bornex_13 (fun e he => (by cases he))))) (pr := []) (cuts := []) (n := 50) (by decide +kernel)
def mjSm_bornex_17 : MjSm := ([(3, 0, 0, 0, 0), (0, -2147483648, 2147483647, 0, 0)], [], [((0, -1, -1, 0, 0), [(1, -2147483648, -1)], []), ((0, -1, -1, 0, 0), [(1, 4, 2147483647)], []), ((0, 99, 99, 0, 0), [(1, 0, 3)], [])], [(210, 2), (210, 3), (210, 7), (211, 3), (211, 4), (211, 5), (211, 6), (211, 7), (212, 255), (213, 255), (214, 255), (216, 255), (217, 255), (218, 255)], 5)
set_option maxRecDepth 100000 in
theorem mjC_bornex_17 : mjCtr (mjSW 0 240 mjWd_bornex) 149 mjSm_bornex_17 := aiOk_ctr mjUW_ok (env := [(72, mjSm_bornex_9), (70, mjSm_bornex_1), (96, mjSm_bornex_16), (69, mjSm_bornex_0)]) (mjEnvC mjC_bornex_9 (mjEnvC mjC_bornex_1 (mjEnvC mjC_bornex_16 (mjEnvC mjC_bornex_0 (fun e he => (by cases he)))))) (pr := [1]) (cuts := []) (n := 36) (by decide +kernel)
def mjWd_bornem : MjWd := []
theorem mjWd_bornem_ok : mjWdB mjWd_bornem = true := by decide +kernel
def mjSm_bornem_0 : MjSm := ([(3, 240, 240, 0, 0)], [], [((0, 4, 4, 0, 0), [], [])], [], 1)
set_option maxRecDepth 100000 in
theorem mjC_bornem_0 : mjCtr (mjSW 240 290 mjWd_bornem) 220 mjSm_bornem_0 := aiOk_ctr mjUW_ok (env := []) (fun e he => (by cases he)) (pr := []) (cuts := []) (n := 9) (by decide +kernel)
def mjSm_bornem_1 : MjSm := ([(0, -2147483648, 2147483647, 0, 0), (0, 0, 0, 0, 0), (0, 3, 3, 0, 0)], [], [((0, 1, 1, 0, 0), [(0, 0, 3)], []), ((0, 0, 0, 0, 0), [(0, 4, 2147483647)], []), ((0, 0, 0, 0, 0), [(0, -2147483648, -1)], [])], [], 1)
set_option maxRecDepth 100000 in
theorem mjC_bornem_1 : mjCtr (mjSW 240 290 mjWd_bornem) 221 mjSm_bornem_1 := aiOk_ctr mjUW_ok (env := []) (fun e he => (by cases he)) (pr := [0]) (cuts := []) (n := 12) (by decide +kernel)
def mjSm_bornem_2 : MjSm := ([(3, 240, 240, 0, 0), (0, -2147483648, 2147483647, 0, 0)], [], [((0, 0, 0, 0, 0), [(1, -2147483648, -1)], []), ((0, 0, 0, 0, 0), [(1, 4, 2147483647)], []), ((0, 1, 1, 0, 0), [(1, 0, 3)], [])], [], 2)
set_option maxRecDepth 100000 in
theorem mjC_bornem_2 : mjCtr (mjSW 240 290 mjWd_bornem) 219 mjSm_bornem_2 := aiOk_ctr mjUW_ok (env := [(220, mjSm_bornem_0), (221, mjSm_bornem_1)]) (mjEnvC mjC_bornem_0 (mjEnvC mjC_bornem_1 (fun e he => (by cases he)))) (pr := [1]) (cuts := []) (n := 11) (by decide +kernel)
def mjSm_bornem_3 : MjSm := ([(3, 240, 240, 0, 0)], [], [((7, 0, 0, 0, 0), [], [])], [(276, 255)], 1)
set_option maxRecDepth 100000 in
theorem mjC_bornem_3 : mjCtr (mjSW 240 290 mjWd_bornem) 266 mjSm_bornem_3 := aiOk_ctr mjUW_ok (env := []) (fun e he => (by cases he)) (pr := []) (cuts := []) (n := 919) (by decide +kernel)
def mjSm_bornem_4 : MjSm := ([(3, 240, 240, 0, 0)], [], [((0, 3, 3, 0, 0), [], [])], [], 1)
set_option maxRecDepth 100000 in
theorem mjC_bornem_4 : mjCtr (mjSW 240 290 mjWd_bornem) 222 mjSm_bornem_4 := aiOk_ctr mjUW_ok (env := []) (fun e he => (by cases he)) (pr := []) (cuts := []) (n := 9) (by decide +kernel)
def mjSm_bornem_5 : MjSm := ([(3, 240, 240, 0, 0), (0, 0, 3, 0, 0), (0, 0, 0, 0, 0)], [], [((0, 0, 0, 0, 0), [], [])], [], 1)
set_option maxRecDepth 100000 in
theorem mjC_bornem_5 : mjCtr (mjSW 240 290 mjWd_bornem) 223 mjSm_bornem_5 := aiOk_ctr mjUW_ok (env := []) (fun e he => (by cases he)) (pr := []) (cuts := []) (n := 14) (by decide +kernel)
def mjSm_bornem_6 : MjSm := ([(3, 240, 240, 0, 0), (0, 0, 3, 0, 0), (0, 0, 0, 0, 0), (0, 99, 99, 0, 0)], [], [((0, 0, 0, 0, 0), [], [])], [], 2)
set_option maxRecDepth 100000 in
theorem mjC_bornem_6 : mjCtr (mjSW 240 290 mjWd_bornem) 225 mjSm_bornem_6 := aiOk_ctr mjUW_ok (env := [(223, mjSm_bornem_5)]) (mjEnvC mjC_bornem_5 (fun e he => (by cases he))) (pr := []) (cuts := []) (n := 10) (by decide +kernel)
def mjSm_bornem_7 : MjSm := ([(3, 240, 240, 0, 0), (0, 0, 3, 0, 0), (0, 0, 0, 0, 0), (0, 99, 99, 0, 0)], [], [((7, 0, 0, 0, 0), [], [])], [], 3)
set_option maxRecDepth 100000 in
theorem mjC_bornem_7 : mjCtr (mjSW 240 290 mjWd_bornem) 250 mjSm_bornem_7 := aiOk_ctr mjUW_ok (env := [(225, mjSm_bornem_6)]) (mjEnvC mjC_bornem_6 (fun e he => (by cases he))) (pr := []) (cuts := []) (n := 10) (by decide +kernel)
def mjSm_bornem_8 : MjSm := ([(3, 240, 240, 0, 0), (0, 0, 3, 0, 0), (0, 1, 1, 0, 0)], [], [((0, 0, 0, 0, 0), [], [])], [], 1)
set_option maxRecDepth 100000 in
theorem mjC_bornem_8 : mjCtr (mjSW 240 290 mjWd_bornem) 223 mjSm_bornem_8 := aiOk_ctr mjUW_ok (env := []) (fun e he => (by cases he)) (pr := []) (cuts := []) (n := 14) (by decide +kernel)
def mjSm_bornem_9 : MjSm := ([(3, 240, 240, 0, 0), (0, 0, 3, 0, 0), (0, 1, 1, 0, 0), (0, 99, 99, 0, 0)], [], [((0, 0, 0, 0, 0), [], [])], [], 2)
set_option maxRecDepth 100000 in
theorem mjC_bornem_9 : mjCtr (mjSW 240 290 mjWd_bornem) 225 mjSm_bornem_9 := aiOk_ctr mjUW_ok (env := [(223, mjSm_bornem_8)]) (mjEnvC mjC_bornem_8 (fun e he => (by cases he))) (pr := []) (cuts := []) (n := 10) (by decide +kernel)
def mjSm_bornem_10 : MjSm := ([(3, 240, 240, 0, 0), (0, 0, 3, 0, 0), (0, 1, 1, 0, 0), (0, 99, 99, 0, 0)], [], [((7, 0, 0, 0, 0), [], [])], [], 3)
set_option maxRecDepth 100000 in
theorem mjC_bornem_10 : mjCtr (mjSW 240 290 mjWd_bornem) 250 mjSm_bornem_10 := aiOk_ctr mjUW_ok (env := [(225, mjSm_bornem_9)]) (mjEnvC mjC_bornem_9 (fun e he => (by cases he))) (pr := []) (cuts := []) (n := 10) (by decide +kernel)
def mjSm_bornem_11 : MjSm := ([(3, 240, 240, 0, 0), (0, 0, 3, 0, 0), (0, 2, 2, 0, 0)], [], [((0, 0, 0, 0, 0), [], [])], [], 1)
set_option maxRecDepth 100000 in
theorem mjC_bornem_11 : mjCtr (mjSW 240 290 mjWd_bornem) 223 mjSm_bornem_11 := aiOk_ctr mjUW_ok (env := []) (fun e he => (by cases he)) (pr := []) (cuts := []) (n := 14) (by decide +kernel)
def mjSm_bornem_12 : MjSm := ([(3, 240, 240, 0, 0), (0, 0, 3, 0, 0), (0, 2, 2, 0, 0), (0, 99, 99, 0, 0)], [], [((0, 0, 0, 0, 0), [], [])], [], 2)
set_option maxRecDepth 100000 in
theorem mjC_bornem_12 : mjCtr (mjSW 240 290 mjWd_bornem) 225 mjSm_bornem_12 := aiOk_ctr mjUW_ok (env := [(223, mjSm_bornem_11)]) (mjEnvC mjC_bornem_11 (fun e he => (by cases he))) (pr := []) (cuts := []) (n := 10) (by decide +kernel)
def mjSm_bornem_13 : MjSm := ([(3, 240, 240, 0, 0), (0, 0, 3, 0, 0), (0, 2, 2, 0, 0), (0, 99, 99, 0, 0)], [], [((7, 0, 0, 0, 0), [], [])], [], 3)
set_option maxRecDepth 100000 in
theorem mjC_bornem_13 : mjCtr (mjSW 240 290 mjWd_bornem) 250 mjSm_bornem_13 := aiOk_ctr mjUW_ok (env := [(225, mjSm_bornem_12)]) (mjEnvC mjC_bornem_12 (fun e he => (by cases he))) (pr := []) (cuts := []) (n := 10) (by decide +kernel)
def mjSm_bornem_14 : MjSm := ([(3, 240, 240, 0, 0), (0, 0, 3, 0, 0), (0, 99, 99, 0, 0)], [], [((0, 0, 0, 0, 0), [], [])], [], 4)
set_option maxRecDepth 100000 in
theorem mjC_bornem_14 : mjCtr (mjSW 240 290 mjWd_bornem) 253 mjSm_bornem_14 := aiOk_ctr mjUW_ok (env := [(222, mjSm_bornem_4), (250, mjSm_bornem_10), (250, mjSm_bornem_13), (250, mjSm_bornem_7)]) (mjEnvC mjC_bornem_4 (mjEnvC mjC_bornem_10 (mjEnvC mjC_bornem_13 (mjEnvC mjC_bornem_7 (fun e he => (by cases he)))))) (pr := []) (cuts := []) (n := 56) (by decide +kernel)
def mjSm_bornem_15 : MjSm := ([(3, 240, 240, 0, 0)], [], [((7, 0, 0, 0, 0), [], [])], [(275, 255)], 1)
set_option maxRecDepth 100000 in
theorem mjC_bornem_15 : mjCtr (mjSW 240 290 mjWd_bornem) 267 mjSm_bornem_15 := aiOk_ctr mjUW_ok (env := []) (fun e he => (by cases he)) (pr := []) (cuts := []) (n := 919) (by decide +kernel)
def mjSm_bornem_16 : MjSm := ([(3, 240, 240, 0, 0), (0, -2147483648, 2147483647, 0, 0)], [], [((0, 99, 99, 0, 0), [(1, 0, 3)], []), ((0, -1, -1, 0, 0), [(1, 4, 2147483647)], []), ((0, -1, -1, 0, 0), [(1, -2147483648, -1)], [])], [(275, 255), (276, 255)], 5)
set_option maxRecDepth 100000 in
theorem mjC_bornem_16 : mjCtr (mjSW 240 290 mjWd_bornem) 292 mjSm_bornem_16 := aiOk_ctr mjUW_ok (env := [(267, mjSm_bornem_15), (266, mjSm_bornem_3), (253, mjSm_bornem_14), (219, mjSm_bornem_2)]) (mjEnvC mjC_bornem_15 (mjEnvC mjC_bornem_3 (mjEnvC mjC_bornem_14 (mjEnvC mjC_bornem_2 (fun e he => (by cases he)))))) (pr := [1]) (cuts := []) (n := 34) (by decide +kernel)
set_option maxRecDepth 100000 in
theorem mjPair_borne (sc : List Int32) (s1 : Int32)  : ∃ (v : Int32) (n1 : Nat) (w1 : MjW) (n2 : Nat) (w2 : MjW), mjEx mjTb mjMt sc n1 5 149 0 (mjEntry mjM_149.2.2.1 (.ref 0 :: [.int s1])) [] mjW0 = some (some (.int v), w1) ∧ mjEx mjTb mjMt sc n2 5 292 0 (mjEntry mjM_292.2.2.1 (.ref 240 :: [.int s1])) [] w1 = some (some (.int v), w2) ∧ mjShp w1 = mjShp mjW0 ∧ mjShp w2 = mjShp mjW0 := mj_pair (smx := mjSm_bornex_17) (smm := mjSm_bornem_16) mjC_bornex_17 mjC_bornem_16 mjWd_bornex_ok mjWd_bornem_ok (by decide +kernel) (by decide +kernel) (by decide +kernel) (by decide +kernel) (by decide +kernel) ⟨⟨0, rfl, rfl⟩, ⟨⟨s1, rfl, mjB.all s1⟩, trivial⟩⟩ ⟨⟨240, rfl, rfl⟩, ⟨⟨s1, rfl, mjB.all s1⟩, trivial⟩⟩ rfl rfl
