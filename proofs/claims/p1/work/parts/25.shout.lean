def mjWd_shoutx : MjWd := [(18, 1, (0, 0, 1)), (18, 2, (0, 0, 1)), (209, 3, (6, 0, 0))]
theorem mjWd_shoutx_ok : mjWdB mjWd_shoutx = true := by decide +kernel
def mjSm_shoutx_0 : MjSm := ([(3, 193, 193, 0, 0), (0, -2147483648, 2147483647, 0, 0)], [], [((0, 1, 1, 0, 0), [(1, 0, 3)], []), ((0, 0, 0, 0, 0), [(1, 4, 2147483647)], []), ((0, 0, 0, 0, 0), [(1, -2147483648, -1)], [])], [], 1)
set_option maxRecDepth 100000 in
theorem mjC_shoutx_0 : mjCtr (mjSW 0 240 mjWd_shoutx) 69 mjSm_shoutx_0 := aiOk_ctr mjUW_ok (env := []) (fun e he => (by cases he)) (pr := [1]) (cuts := []) (n := 15) (by decide +kernel)
def mjSm_shoutx_1 : MjSm := ([(3, 24, 24, 0, 0), (3, 20, 20, 0, 0)], [], [((7, 0, 0, 0, 0), [], [])], [(25, 3), (25, 4), (25, 5), (25, 6), (25, 7), (26, 255), (27, 255), (28, 255)], 1)
set_option maxRecDepth 100000 in
theorem mjC_shoutx_1 : mjCtr (mjSW 0 240 mjWd_shoutx) 64 mjSm_shoutx_1 := aiOk_ctr mjUW_ok (env := []) (fun e he => (by cases he)) (pr := []) (cuts := []) (n := 48) (by decide +kernel)
def mjSm_shoutx_2 : MjSm := ([(3, 18, 18, 0, 0)], [(18, 1, (0, 0, 0, 0, 0)), (18, 2, (0, 0, 0, 0, 0))], [((3, 24, 24, 0, 0), [], [(18, 1, (0, 1, 1, 0, 0)), (18, 2, (0, 1, 1, 0, 0))])], [(19, 1), (19, 2), (19, 3), (25, 3), (25, 4), (25, 5), (25, 6), (25, 7), (26, 255), (27, 255), (28, 255)], 2)
set_option maxRecDepth 100000 in
theorem mjC_shoutx_2 : mjCtr (mjSW 0 240 mjWd_shoutx) 87 mjSm_shoutx_2 := aiOk_ctr mjUW_ok (env := [(64, mjSm_shoutx_1)]) (mjEnvC mjC_shoutx_1 (fun e he => (by cases he))) (pr := []) (cuts := []) (n := 43) (by decide +kernel)
def mjSm_shoutx_3 : MjSm := ([(3, 216, 216, 0, 0), (0, 0, 0, 0, 0)], [], [((7, 0, 0, 0, 0), [], [])], [(217, 255)], 1)
set_option maxRecDepth 100000 in
theorem mjC_shoutx_3 : mjCtr (mjSW 0 240 mjWd_shoutx) 6 mjSm_shoutx_3 := aiOk_ctr mjUW_ok (env := []) (fun e he => (by cases he)) (pr := []) (cuts := [(5, ([(3, 216, 216, 0, 0), (0, 0, 0, 0, 0), (0, 0, 6, 0, 0), (0, 6, 6, 0, 0)], [], []), [(0, 0, 49995), (1, 2, 2147483647), (0, 0, 60000), (0, 0, 0), (0, 0, 0), (0, 0, 0), (0, 0, 0), (0, 0, 0)])]) (n := 12) (by decide +kernel)
def mjSm_shoutx_4 : MjSm := ([(3, 217, 217, 0, 0), (0, 0, 0, 0, 0)], [], [((7, 0, 0, 0, 0), [], [])], [(218, 255)], 1)
set_option maxRecDepth 100000 in
theorem mjC_shoutx_4 : mjCtr (mjSW 0 240 mjWd_shoutx) 6 mjSm_shoutx_4 := aiOk_ctr mjUW_ok (env := []) (fun e he => (by cases he)) (pr := []) (cuts := [(5, ([(3, 217, 217, 0, 0), (0, 0, 0, 0, 0), (0, 0, 6, 0, 0), (0, 6, 6, 0, 0)], [], []), [(0, 0, 49995), (1, 2, 2147483647), (0, 0, 60000), (0, 0, 0), (0, 0, 0), (0, 0, 0), (0, 0, 0), (0, 0, 0)])]) (n := 12) (by decide +kernel)
def mjSm_shoutx_5 : MjSm := ([(3, 215, 215, 0, 0), (0, 0, 0, 0, 0)], [], [((7, 0, 0, 0, 0), [], [])], [(216, 255)], 1)
set_option maxRecDepth 100000 in
theorem mjC_shoutx_5 : mjCtr (mjSW 0 240 mjWd_shoutx) 6 mjSm_shoutx_5 := aiOk_ctr mjUW_ok (env := []) (fun e he => (by cases he)) (pr := []) (cuts := [(5, ([(3, 215, 215, 0, 0), (0, 0, 0, 0, 0), (0, 0, 6, 0, 0), (0, 6, 6, 0, 0)], [], []), [(0, 0, 49995), (1, 2, 2147483647), (0, 0, 60000), (0, 0, 0), (0, 0, 0), (0, 0, 0), (0, 0, 0), (0, 0, 0)])]) (n := 12) (by decide +kernel)
def mjSm_shoutx_6 : MjSm := ([(3, 193, 193, 0, 0), (3, 24, 24, 0, 0), (0, 0, 0, 0, 0)], [], [((0, 0, 0, 0, 0), [], [])], [], 1)
set_option maxRecDepth 100000 in
theorem mjC_shoutx_6 : mjCtr (mjSW 0 240 mjWd_shoutx) 75 mjSm_shoutx_6 := aiOk_ctr mjUW_ok (env := []) (fun e he => (by cases he)) (pr := []) (cuts := [(5, ([(3, 193, 193, 0, 0), (3, 24, 24, 0, 0), (0, 0, 0, 0, 0), (0, 0, 0, 0, 0), (0, 0, 0, 0, 0), (9, 0, 0, 0, 0)], [], []), [(0, 0, 49995), (1, 4, 2147483647), (0, 0, 60000), (0, 0, 0), (0, 0, 0), (0, 0, 0), (0, 0, 0), (0, 0, 0)])]) (n := 9) (by decide +kernel)
def mjSm_shoutx_7 : MjSm := ([(3, 209, 209, 0, 0)], [(209, 3, (3, 24, 24, 0, 0))], [((7, 0, 0, 0, 0), [], [])], [(216, 255)], 2)
set_option maxRecDepth 100000 in
theorem mjC_shoutx_7 : mjCtr (mjSW 0 240 mjWd_shoutx) 74 mjSm_shoutx_7 := aiOk_ctr mjUW_ok (env := [(6, mjSm_shoutx_5), (75, mjSm_shoutx_6)]) (mjEnvC mjC_shoutx_5 (mjEnvC mjC_shoutx_6 (fun e he => (by cases he)))) (pr := []) (cuts := [(32, ([(3, 209, 209, 0, 0), (0, 0, 0, 0, 0), (0, 0, 0, 0, 0)], [], [(209, 3, (3, 24, 24, 0, 0))]), [(0, 0, 49968), (1, 2, 2147483647), (0, 0, 60000), (0, 0, 0), (0, 0, 0), (0, 0, 0), (0, 0, 0), (0, 0, 0)])]) (n := 20) (by decide +kernel)
def mjSm_shoutx_8 : MjSm := ([(3, 209, 209, 0, 0), (3, 193, 193, 0, 0), (3, 24, 24, 0, 0)], [(209, 3, (3, 210, 210, 0, 0))], [((7, 0, 0, 0, 0), [], [(209, 3, (3, 24, 24, 0, 0))])], [(210, 2), (210, 3), (210, 7), (216, 255), (217, 255), (218, 255)], 3)
set_option maxRecDepth 100000 in
theorem mjC_shoutx_8 : mjCtr (mjSW 0 240 mjWd_shoutx) 73 mjSm_shoutx_8 := aiOk_ctr mjUW_ok (env := [(74, mjSm_shoutx_7), (6, mjSm_shoutx_4), (6, mjSm_shoutx_3)]) (mjEnvC mjC_shoutx_7 (mjEnvC mjC_shoutx_4 (mjEnvC mjC_shoutx_3 (fun e he => (by cases he))))) (pr := []) (cuts := []) (n := 23) (by decide +kernel)
def mjSm_shoutx_9 : MjSm := ([(0, 0, 3, 0, 0), (0, 0, 0, 0, 0)], [], [((0, 0, 15, 0, 0), [], [])], [], 1)
set_option maxRecDepth 100000 in
theorem mjC_shoutx_9 : mjCtr (mjSW 0 240 mjWd_shoutx) 48 mjSm_shoutx_9 := aiOk_ctr mjUW_ok (env := []) (fun e he => (by cases he)) (pr := []) (cuts := []) (n := 9) (by decide +kernel)
def mjSm_shoutx_10 : MjSm := ([(3, 209, 209, 0, 0), (0, 0, 3, 0, 0), (0, 0, 0, 0, 0), (0, 0, 99, 0, 0)], [(209, 3, (3, 24, 24, 0, 0))], [((0, 0, 0, 0, 0), [], [])], [], 2)
set_option maxRecDepth 100000 in
theorem mjC_shoutx_10 : mjCtr (mjSW 0 240 mjWd_shoutx) 76 mjSm_shoutx_10 := aiOk_ctr mjUW_ok (env := [(48, mjSm_shoutx_9)]) (mjEnvC mjC_shoutx_9 (fun e he => (by cases he))) (pr := []) (cuts := []) (n := 17) (by decide +kernel)
def mjSm_shoutx_11 : MjSm := ([(0, 0, 3, 0, 0), (0, 1, 1, 0, 0)], [], [((0, 1, 16, 0, 0), [], [])], [], 1)
set_option maxRecDepth 100000 in
theorem mjC_shoutx_11 : mjCtr (mjSW 0 240 mjWd_shoutx) 48 mjSm_shoutx_11 := aiOk_ctr mjUW_ok (env := []) (fun e he => (by cases he)) (pr := []) (cuts := []) (n := 9) (by decide +kernel)
def mjSm_shoutx_12 : MjSm := ([(3, 209, 209, 0, 0), (0, 0, 3, 0, 0), (0, 1, 1, 0, 0), (0, 0, 99, 0, 0)], [(209, 3, (3, 24, 24, 0, 0))], [((0, 0, 0, 0, 0), [], [])], [], 2)
set_option maxRecDepth 100000 in
theorem mjC_shoutx_12 : mjCtr (mjSW 0 240 mjWd_shoutx) 76 mjSm_shoutx_12 := aiOk_ctr mjUW_ok (env := [(48, mjSm_shoutx_11)]) (mjEnvC mjC_shoutx_11 (fun e he => (by cases he))) (pr := []) (cuts := []) (n := 17) (by decide +kernel)
def mjSm_shoutx_13 : MjSm := ([(0, 0, 3, 0, 0), (0, 2, 2, 0, 0)], [], [((0, 2, 17, 0, 0), [], [])], [], 1)
set_option maxRecDepth 100000 in
theorem mjC_shoutx_13 : mjCtr (mjSW 0 240 mjWd_shoutx) 48 mjSm_shoutx_13 := aiOk_ctr mjUW_ok (env := []) (fun e he => (by cases he)) (pr := []) (cuts := []) (n := 9) (by decide +kernel)
def mjSm_shoutx_14 : MjSm := ([(3, 209, 209, 0, 0), (0, 0, 3, 0, 0), (0, 2, 2, 0, 0), (0, 0, 99, 0, 0)], [(209, 3, (3, 24, 24, 0, 0))], [((0, 0, 0, 0, 0), [], [])], [], 2)
set_option maxRecDepth 100000 in
theorem mjC_shoutx_14 : mjCtr (mjSW 0 240 mjWd_shoutx) 76 mjSm_shoutx_14 := aiOk_ctr mjUW_ok (env := [(48, mjSm_shoutx_13)]) (mjEnvC mjC_shoutx_13 (fun e he => (by cases he))) (pr := []) (cuts := []) (n := 17) (by decide +kernel)
def mjSm_shoutx_15 : MjSm := ([(3, 209, 209, 0, 0), (0, 0, 3, 0, 0), (0, 0, 99, 0, 0)], [(209, 3, (3, 24, 24, 0, 0))], [((7, 0, 0, 0, 0), [], [])], [], 3)
set_option maxRecDepth 100000 in
theorem mjC_shoutx_15 : mjCtr (mjSW 0 240 mjWd_shoutx) 96 mjSm_shoutx_15 := aiOk_ctr mjUW_ok (env := [(76, mjSm_shoutx_10), (76, mjSm_shoutx_14), (76, mjSm_shoutx_12)]) (mjEnvC mjC_shoutx_10 (mjEnvC mjC_shoutx_14 (mjEnvC mjC_shoutx_12 (fun e he => (by cases he))))) (pr := []) (cuts := []) (n := 50) (by decide +kernel)
def mjSm_shoutx_16 : MjSm := ([(3, 0, 0, 0, 0), (0, -2147483648, 2147483647, 0, 0), (0, -2147483648, 2147483647, 0, 0)], [(18, 1, (0, 0, 0, 0, 0)), (18, 2, (0, 0, 0, 0, 0)), (209, 3, (3, 210, 210, 0, 0))], [((0, -1, -1, 0, 0), [(1, -2147483648, -1)], [(18, 1, (0, 0, 0, 0, 0)), (18, 2, (0, 0, 0, 0, 0)), (209, 3, (3, 210, 210, 0, 0))]), ((0, -1, -1, 0, 0), [(1, 4, 2147483647)], [(18, 1, (0, 0, 0, 0, 0)), (18, 2, (0, 0, 0, 0, 0)), (209, 3, (3, 210, 210, 0, 0))]), ((0, -1, -1, 0, 0), [(1, 0, 3), (2, 100, 2147483647)], [(18, 1, (0, 0, 0, 0, 0)), (18, 2, (0, 0, 0, 0, 0)), (209, 3, (3, 210, 210, 0, 0))]), ((0, 0, 0, 0, 0), [(1, 0, 3), (2, 0, 99)], [(18, 1, (0, 1, 1, 0, 0)), (18, 2, (0, 1, 1, 0, 0)), (209, 3, (3, 24, 24, 0, 0))]), ((0, -1, -1, 0, 0), [(1, 0, 3), (2, -2147483648, -1)], [(18, 1, (0, 0, 0, 0, 0)), (18, 2, (0, 0, 0, 0, 0)), (209, 3, (3, 210, 210, 0, 0))])], [(19, 1), (19, 2), (19, 3), (25, 3), (25, 4), (25, 5), (25, 6), (25, 7), (26, 255), (27, 255), (28, 255), (210, 2), (210, 3), (210, 7), (216, 255), (217, 255), (218, 255)], 4)
set_option maxRecDepth 100000 in
theorem mjC_shoutx_16 : mjCtr (mjSW 0 240 mjWd_shoutx) 95 mjSm_shoutx_16 := aiOk_ctr mjUW_ok (env := [(87, mjSm_shoutx_2), (73, mjSm_shoutx_8), (96, mjSm_shoutx_15), (69, mjSm_shoutx_0)]) (mjEnvC mjC_shoutx_2 (mjEnvC mjC_shoutx_8 (mjEnvC mjC_shoutx_15 (mjEnvC mjC_shoutx_0 (fun e he => (by cases he)))))) (pr := [1, 2]) (cuts := []) (n := 38) (by decide +kernel)
def mjWd_shoutm : MjWd := [(240, 60, (0, 0, 1))]
theorem mjWd_shoutm_ok : mjWdB mjWd_shoutm = true := by decide +kernel
def mjSm_shoutm_0 : MjSm := ([(3, 240, 240, 0, 0)], [], [((0, 4, 4, 0, 0), [], [])], [], 1)
set_option maxRecDepth 100000 in
theorem mjC_shoutm_0 : mjCtr (mjSW 240 290 mjWd_shoutm) 220 mjSm_shoutm_0 := aiOk_ctr mjUW_ok (env := []) (fun e he => (by cases he)) (pr := []) (cuts := []) (n := 9) (by decide +kernel)
def mjSm_shoutm_1 : MjSm := ([(0, -2147483648, 2147483647, 0, 0), (0, 0, 0, 0, 0), (0, 3, 3, 0, 0)], [], [((0, 1, 1, 0, 0), [(0, 0, 3)], []), ((0, 0, 0, 0, 0), [(0, 4, 2147483647)], []), ((0, 0, 0, 0, 0), [(0, -2147483648, -1)], [])], [], 1)
set_option maxRecDepth 100000 in
theorem mjC_shoutm_1 : mjCtr (mjSW 240 290 mjWd_shoutm) 221 mjSm_shoutm_1 := aiOk_ctr mjUW_ok (env := []) (fun e he => (by cases he)) (pr := [0]) (cuts := []) (n := 12) (by decide +kernel)
def mjSm_shoutm_2 : MjSm := ([(3, 240, 240, 0, 0), (0, -2147483648, 2147483647, 0, 0)], [], [((0, 0, 0, 0, 0), [(1, -2147483648, -1)], []), ((0, 0, 0, 0, 0), [(1, 4, 2147483647)], []), ((0, 1, 1, 0, 0), [(1, 0, 3)], [])], [], 2)
set_option maxRecDepth 100000 in
theorem mjC_shoutm_2 : mjCtr (mjSW 240 290 mjWd_shoutm) 219 mjSm_shoutm_2 := aiOk_ctr mjUW_ok (env := [(220, mjSm_shoutm_0), (221, mjSm_shoutm_1)]) (mjEnvC mjC_shoutm_0 (mjEnvC mjC_shoutm_1 (fun e he => (by cases he)))) (pr := [1]) (cuts := []) (n := 11) (by decide +kernel)
def mjSm_shoutm_3 : MjSm := ([(0, -2147483648, 2147483647, 0, 0), (0, 0, 0, 0, 0), (0, 99, 99, 0, 0)], [], [((0, 1, 1, 0, 0), [(0, 0, 99)], []), ((0, 0, 0, 0, 0), [(0, 100, 2147483647)], []), ((0, 0, 0, 0, 0), [(0, -2147483648, -1)], [])], [], 1)
set_option maxRecDepth 100000 in
theorem mjC_shoutm_3 : mjCtr (mjSW 240 290 mjWd_shoutm) 221 mjSm_shoutm_3 := aiOk_ctr mjUW_ok (env := []) (fun e he => (by cases he)) (pr := [0]) (cuts := []) (n := 12) (by decide +kernel)
def mjSm_shoutm_4 : MjSm := ([(3, 240, 240, 0, 0)], [(240, 60, (0, 0, 0, 0, 0))], [((7, 0, 0, 0, 0), [], [(240, 60, (0, 1, 1, 0, 0))])], [(241, 60), (241, 61), (278, 255)], 1)
set_option maxRecDepth 100000 in
theorem mjC_shoutm_4 : mjCtr (mjSW 240 290 mjWd_shoutm) 246 mjSm_shoutm_4 := aiOk_ctr mjUW_ok (env := []) (fun e he => (by cases he)) (pr := []) (cuts := [(51, ([(3, 240, 240, 0, 0), (0, 0, 70, 0, 0)], [], [(240, 60, (0, 0, 0, 0, 0))]), [(0, 0, 49949), (1, 1, 2147483647), (0, 0, 60000), (0, 0, 0), (0, 0, 0), (0, 0, 0), (0, 0, 0), (0, 0, 0)])]) (n := 21) (by decide +kernel)
def mjSm_shoutm_5 : MjSm := ([(3, 240, 240, 0, 0)], [], [((0, 3, 3, 0, 0), [], [])], [], 1)
set_option maxRecDepth 100000 in
theorem mjC_shoutm_5 : mjCtr (mjSW 240 290 mjWd_shoutm) 222 mjSm_shoutm_5 := aiOk_ctr mjUW_ok (env := []) (fun e he => (by cases he)) (pr := []) (cuts := []) (n := 9) (by decide +kernel)
def mjSm_shoutm_6 : MjSm := ([(3, 240, 240, 0, 0), (0, 0, 3, 0, 0), (0, 0, 0, 0, 0)], [], [((0, 0, 0, 0, 0), [], [])], [], 1)
set_option maxRecDepth 100000 in
theorem mjC_shoutm_6 : mjCtr (mjSW 240 290 mjWd_shoutm) 223 mjSm_shoutm_6 := aiOk_ctr mjUW_ok (env := []) (fun e he => (by cases he)) (pr := []) (cuts := []) (n := 14) (by decide +kernel)
def mjSm_shoutm_7 : MjSm := ([(3, 240, 240, 0, 0), (0, 0, 3, 0, 0), (0, 0, 0, 0, 0), (0, 0, 99, 0, 0)], [], [((0, 0, 0, 0, 0), [], [])], [], 2)
set_option maxRecDepth 100000 in
theorem mjC_shoutm_7 : mjCtr (mjSW 240 290 mjWd_shoutm) 225 mjSm_shoutm_7 := aiOk_ctr mjUW_ok (env := [(223, mjSm_shoutm_6)]) (mjEnvC mjC_shoutm_6 (fun e he => (by cases he))) (pr := []) (cuts := []) (n := 10) (by decide +kernel)
def mjSm_shoutm_8 : MjSm := ([(3, 240, 240, 0, 0), (0, 0, 3, 0, 0), (0, 0, 0, 0, 0), (0, 0, 99, 0, 0)], [], [((7, 0, 0, 0, 0), [], [])], [], 3)
set_option maxRecDepth 100000 in
theorem mjC_shoutm_8 : mjCtr (mjSW 240 290 mjWd_shoutm) 250 mjSm_shoutm_8 := aiOk_ctr mjUW_ok (env := [(225, mjSm_shoutm_7)]) (mjEnvC mjC_shoutm_7 (fun e he => (by cases he))) (pr := []) (cuts := []) (n := 10) (by decide +kernel)
def mjSm_shoutm_9 : MjSm := ([(3, 240, 240, 0, 0), (0, 0, 3, 0, 0), (0, 1, 1, 0, 0)], [], [((0, 0, 0, 0, 0), [], [])], [], 1)
set_option maxRecDepth 100000 in
theorem mjC_shoutm_9 : mjCtr (mjSW 240 290 mjWd_shoutm) 223 mjSm_shoutm_9 := aiOk_ctr mjUW_ok (env := []) (fun e he => (by cases he)) (pr := []) (cuts := []) (n := 14) (by decide +kernel)
def mjSm_shoutm_10 : MjSm := ([(3, 240, 240, 0, 0), (0, 0, 3, 0, 0), (0, 1, 1, 0, 0), (0, 0, 99, 0, 0)], [], [((0, 0, 0, 0, 0), [], [])], [], 2)
set_option maxRecDepth 100000 in
theorem mjC_shoutm_10 : mjCtr (mjSW 240 290 mjWd_shoutm) 225 mjSm_shoutm_10 := aiOk_ctr mjUW_ok (env := [(223, mjSm_shoutm_9)]) (mjEnvC mjC_shoutm_9 (fun e he => (by cases he))) (pr := []) (cuts := []) (n := 10) (by decide +kernel)
def mjSm_shoutm_11 : MjSm := ([(3, 240, 240, 0, 0), (0, 0, 3, 0, 0), (0, 1, 1, 0, 0), (0, 0, 99, 0, 0)], [], [((7, 0, 0, 0, 0), [], [])], [], 3)
set_option maxRecDepth 100000 in
theorem mjC_shoutm_11 : mjCtr (mjSW 240 290 mjWd_shoutm) 250 mjSm_shoutm_11 := aiOk_ctr mjUW_ok (env := [(225, mjSm_shoutm_10)]) (mjEnvC mjC_shoutm_10 (fun e he => (by cases he))) (pr := []) (cuts := []) (n := 10) (by decide +kernel)
def mjSm_shoutm_12 : MjSm := ([(3, 240, 240, 0, 0), (0, 0, 3, 0, 0), (0, 2, 2, 0, 0)], [], [((0, 0, 0, 0, 0), [], [])], [], 1)
set_option maxRecDepth 100000 in
theorem mjC_shoutm_12 : mjCtr (mjSW 240 290 mjWd_shoutm) 223 mjSm_shoutm_12 := aiOk_ctr mjUW_ok (env := []) (fun e he => (by cases he)) (pr := []) (cuts := []) (n := 14) (by decide +kernel)
def mjSm_shoutm_13 : MjSm := ([(3, 240, 240, 0, 0), (0, 0, 3, 0, 0), (0, 2, 2, 0, 0), (0, 0, 99, 0, 0)], [], [((0, 0, 0, 0, 0), [], [])], [], 2)
set_option maxRecDepth 100000 in
theorem mjC_shoutm_13 : mjCtr (mjSW 240 290 mjWd_shoutm) 225 mjSm_shoutm_13 := aiOk_ctr mjUW_ok (env := [(223, mjSm_shoutm_12)]) (mjEnvC mjC_shoutm_12 (fun e he => (by cases he))) (pr := []) (cuts := []) (n := 10) (by decide +kernel)
def mjSm_shoutm_14 : MjSm := ([(3, 240, 240, 0, 0), (0, 0, 3, 0, 0), (0, 2, 2, 0, 0), (0, 0, 99, 0, 0)], [], [((7, 0, 0, 0, 0), [], [])], [], 3)
set_option maxRecDepth 100000 in
theorem mjC_shoutm_14 : mjCtr (mjSW 240 290 mjWd_shoutm) 250 mjSm_shoutm_14 := aiOk_ctr mjUW_ok (env := [(225, mjSm_shoutm_13)]) (mjEnvC mjC_shoutm_13 (fun e he => (by cases he))) (pr := []) (cuts := []) (n := 10) (by decide +kernel)
def mjSm_shoutm_15 : MjSm := ([(3, 240, 240, 0, 0), (0, 0, 3, 0, 0), (0, 0, 99, 0, 0)], [], [((0, 0, 0, 0, 0), [], [])], [], 4)
set_option maxRecDepth 100000 in
theorem mjC_shoutm_15 : mjCtr (mjSW 240 290 mjWd_shoutm) 253 mjSm_shoutm_15 := aiOk_ctr mjUW_ok (env := [(222, mjSm_shoutm_5), (250, mjSm_shoutm_11), (250, mjSm_shoutm_8), (250, mjSm_shoutm_14)]) (mjEnvC mjC_shoutm_5 (mjEnvC mjC_shoutm_11 (mjEnvC mjC_shoutm_8 (mjEnvC mjC_shoutm_14 (fun e he => (by cases he)))))) (pr := []) (cuts := []) (n := 56) (by decide +kernel)
def mjSm_shoutm_16 : MjSm := ([(3, 240, 240, 0, 0), (0, -2147483648, 2147483647, 0, 0), (0, -2147483648, 2147483647, 0, 0)], [(240, 60, (0, 0, 0, 0, 0))], [((0, -1, -1, 0, 0), [(1, 0, 3), (2, -2147483648, -1)], [(240, 60, (0, 0, 0, 0, 0))]), ((0, -1, -1, 0, 0), [(1, 0, 3), (2, 100, 2147483647)], [(240, 60, (0, 0, 0, 0, 0))]), ((0, 0, 0, 0, 0), [(1, 0, 3), (2, 0, 99)], [(240, 60, (0, 1, 1, 0, 0))]), ((0, -1, -1, 0, 0), [(1, 4, 2147483647)], [(240, 60, (0, 0, 0, 0, 0))]), ((0, -1, -1, 0, 0), [(1, -2147483648, -1)], [(240, 60, (0, 0, 0, 0, 0))])], [(241, 60), (241, 61), (278, 255)], 5)
set_option maxRecDepth 100000 in
theorem mjC_shoutm_16 : mjCtr (mjSW 240 290 mjWd_shoutm) 252 mjSm_shoutm_16 := aiOk_ctr mjUW_ok (env := [(246, mjSm_shoutm_4), (253, mjSm_shoutm_15), (219, mjSm_shoutm_2), (221, mjSm_shoutm_3)]) (mjEnvC mjC_shoutm_4 (mjEnvC mjC_shoutm_15 (mjEnvC mjC_shoutm_2 (mjEnvC mjC_shoutm_3 (fun e he => (by cases he)))))) (pr := [1, 2]) (cuts := []) (n := 19) (by decide +kernel)
set_option maxRecDepth 100000 in
theorem mjPair_shout (sc : List Int32) (s1 s2 : Int32)  : ∃ (v : Int32) (n1 : Nat) (w1 : MjW) (n2 : Nat) (w2 : MjW), mjEx mjTb mjMt sc n1 4 95 0 (mjEntry mjM_95.2.2.1 (.ref 0 :: [.int s1, .int s2])) [] mjW0 = some (some (.int v), w1) ∧ mjEx mjTb mjMt sc n2 5 252 0 (mjEntry mjM_252.2.2.1 (.ref 240 :: [.int s1, .int s2])) [] w1 = some (some (.int v), w2) ∧ mjShp w1 = mjShp mjW0 ∧ mjShp w2 = mjShp mjW0 := mj_pair (smx := mjSm_shoutx_16) (smm := mjSm_shoutm_16) mjC_shoutx_16 mjC_shoutm_16 mjWd_shoutx_ok mjWd_shoutm_ok (by decide +kernel) (by decide +kernel) (by decide +kernel) (by decide +kernel) (by decide +kernel) ⟨⟨0, rfl, rfl⟩, ⟨⟨s1, rfl, mjB.all s1⟩, ⟨⟨s2, rfl, mjB.all s2⟩, trivial⟩⟩⟩ ⟨⟨240, rfl, rfl⟩, ⟨⟨s1, rfl, mjB.all s1⟩, ⟨⟨s2, rfl, mjB.all s2⟩, trivial⟩⟩⟩ rfl rfl
