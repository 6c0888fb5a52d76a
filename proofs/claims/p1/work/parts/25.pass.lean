def mjWd_passx : MjWd := [(0, 3, (6, 0, 0)), (0, 4, (6, 0, 0)), (10, 4, (0, 0, 1)), (10, 6, (0, 0, 1)), (218, 3, (6, 0, 0)), (219, 0, (6, 0, 0))]
theorem mjWd_passx_ok : mjWdB mjWd_passx = true := by decide +kernel
def mjSm_passx_0 : MjSm := ([(3, 3, 3, 0, 0), (0, 3, 3, 0, 0)], [], [((7, 0, 0, 0, 0), [], [])], [(4, 255)], 1)
set_option maxRecDepth 100000 in
theorem mjC_passx_0 : mjCtr (mjSW 0 240 mjWd_passx) 6 mjSm_passx_0 := aiOk_ctr mjUW_ok (env := []) (fun e he => (by cases he)) (pr := []) (cuts := [(5, ([(3, 3, 3, 0, 0), (0, 3, 3, 0, 0), (0, 0, 5, 0, 0), (0, 5, 5, 0, 0)], [], []), [(0, 0, 49995), (1, 2, 2147483647), (0, 0, 60000), (0, 0, 0), (0, 0, 0), (0, 0, 0), (0, 0, 0), (0, 0, 0)])]) (n := 12) (by decide +kernel)
def mjSm_passx_1 : MjSm := ([(3, 10, 10, 0, 0)], [], [((7, 0, 0, 0, 0), [], [])], [(11, 3), (11, 4), (11, 5), (11, 6)], 1)
set_option maxRecDepth 100000 in
theorem mjC_passx_1 : mjCtr (mjSW 0 240 mjWd_passx) 8 mjSm_passx_1 := aiOk_ctr mjUW_ok (env := []) (fun e he => (by cases he)) (pr := []) (cuts := []) (n := 16) (by decide +kernel)
def mjSm_passx_2 : MjSm := ([(3, 10, 10, 0, 0)], [], [((7, 0, 0, 0, 0), [], [])], [(11, 3), (11, 4), (11, 5), (11, 6)], 2)
set_option maxRecDepth 100000 in
theorem mjC_passx_2 : mjCtr (mjSW 0 240 mjWd_passx) 7 mjSm_passx_2 := aiOk_ctr mjUW_ok (env := [(8, mjSm_passx_1)]) (mjEnvC mjC_passx_1 (fun e he => (by cases he))) (pr := []) (cuts := []) (n := 12) (by decide +kernel)
def mjSm_passx_3 : MjSm := ([(3, 15, 15, 0, 0), (0, 0, 0, 0, 0)], [], [((7, 0, 0, 0, 0), [], [])], [(16, 255)], 1)
set_option maxRecDepth 100000 in
theorem mjC_passx_3 : mjCtr (mjSW 0 240 mjWd_passx) 6 mjSm_passx_3 := aiOk_ctr mjUW_ok (env := []) (fun e he => (by cases he)) (pr := []) (cuts := [(5, ([(3, 15, 15, 0, 0), (0, 0, 0, 0, 0), (0, 0, 30, 0, 0), (0, 30, 30, 0, 0)], [], []), [(0, 0, 49995), (1, 2, 2147483647), (0, 0, 60000), (0, 0, 0), (0, 0, 0), (0, 0, 0), (0, 0, 0), (0, 0, 0)])]) (n := 12) (by decide +kernel)
def mjSm_passx_4 : MjSm := ([(3, 16, 16, 0, 0), (0, 0, 0, 0, 0)], [], [((7, 0, 0, 0, 0), [], [])], [(17, 255)], 1)
set_option maxRecDepth 100000 in
theorem mjC_passx_4 : mjCtr (mjSW 0 240 mjWd_passx) 6 mjSm_passx_4 := aiOk_ctr mjUW_ok (env := []) (fun e he => (by cases he)) (pr := []) (cuts := [(5, ([(3, 16, 16, 0, 0), (0, 0, 0, 0, 0), (0, 0, 30, 0, 0), (0, 30, 30, 0, 0)], [], []), [(0, 0, 49995), (1, 2, 2147483647), (0, 0, 60000), (0, 0, 0), (0, 0, 0), (0, 0, 0), (0, 0, 0), (0, 0, 0)])]) (n := 12) (by decide +kernel)
def mjSm_passx_5 : MjSm := ([(3, 17, 17, 0, 0), (0, 0, 0, 0, 0)], [], [((7, 0, 0, 0, 0), [], [])], [(18, 255)], 1)
set_option maxRecDepth 100000 in
theorem mjC_passx_5 : mjCtr (mjSW 0 240 mjWd_passx) 6 mjSm_passx_5 := aiOk_ctr mjUW_ok (env := []) (fun e he => (by cases he)) (pr := []) (cuts := [(5, ([(3, 17, 17, 0, 0), (0, 0, 0, 0, 0), (0, 0, 5, 0, 0), (0, 5, 5, 0, 0)], [], []), [(0, 0, 49995), (1, 2, 2147483647), (0, 0, 60000), (0, 0, 0), (0, 0, 0), (0, 0, 0), (0, 0, 0), (0, 0, 0)])]) (n := 12) (by decide +kernel)
def mjSm_passx_6 : MjSm := ([(3, 14, 14, 0, 0)], [], [((7, 0, 0, 0, 0), [], [])], [(15, 3), (15, 4), (15, 5), (15, 6), (15, 7), (16, 255), (17, 255), (18, 255)], 2)
set_option maxRecDepth 100000 in
theorem mjC_passx_6 : mjCtr (mjSW 0 240 mjWd_passx) 9 mjSm_passx_6 := aiOk_ctr mjUW_ok (env := [(6, mjSm_passx_5), (6, mjSm_passx_3), (6, mjSm_passx_4)]) (mjEnvC mjC_passx_5 (mjEnvC mjC_passx_3 (mjEnvC mjC_passx_4 (fun e he => (by cases he))))) (pr := []) (cuts := []) (n := 31) (by decide +kernel)
def mjSm_passx_7 : MjSm := ([(3, 2, 2, 0, 0)], [], [((7, 0, 0, 0, 0), [], [])], [(3, 0), (3, 1), (3, 3), (3, 6), (3, 12), (3, 13), (4, 255), (11, 3), (11, 4), (11, 5), (11, 6), (15, 3), (15, 4), (15, 5), (15, 6), (15, 7), (16, 255), (17, 255), (18, 255)], 3)
set_option maxRecDepth 100000 in
theorem mjC_passx_7 : mjCtr (mjSW 0 240 mjWd_passx) 5 mjSm_passx_7 := aiOk_ctr mjUW_ok (env := [(9, mjSm_passx_6), (7, mjSm_passx_2), (6, mjSm_passx_0)]) (mjEnvC mjC_passx_6 (mjEnvC mjC_passx_2 (mjEnvC mjC_passx_0 (fun e he => (by cases he))))) (pr := []) (cuts := []) (n := 32) (by decide +kernel)
def mjSm_passx_8 : MjSm := ([(3, 218, 218, 0, 0), (3, 2, 2, 0, 0)], [(218, 3, (3, 193, 193, 0, 0))], [((7, 0, 0, 0, 0), [], [(218, 3, (3, 2, 2, 0, 0))])], [(3, 0), (3, 1), (3, 3), (3, 6), (3, 12), (3, 13), (4, 255), (11, 3), (11, 4), (11, 5), (11, 6), (15, 3), (15, 4), (15, 5), (15, 6), (15, 7), (16, 255), (17, 255), (18, 255), (219, 3), (219, 4), (219, 5), (219, 6), (219, 7), (219, 9), (219, 10)], 4)
set_option maxRecDepth 100000 in
theorem mjC_passx_8 : mjCtr (mjSW 0 240 mjWd_passx) 28 mjSm_passx_8 := aiOk_ctr mjUW_ok (env := [(5, mjSm_passx_7)]) (mjEnvC mjC_passx_7 (fun e he => (by cases he))) (pr := []) (cuts := []) (n := 28) (by decide +kernel)
def mjSm_passx_9 : MjSm := ([(3, 219, 219, 0, 0)], [(219, 0, (3, 1, 1, 0, 0))], [((7, 0, 0, 0, 0), [], [])], [(220, 4), (220, 5)], 1)
set_option maxRecDepth 100000 in
theorem mjC_passx_9 : mjCtr (mjSW 0 240 mjWd_passx) 30 mjSm_passx_9 := aiOk_ctr mjUW_ok (env := []) (fun e he => (by cases he)) (pr := []) (cuts := []) (n := 22) (by decide +kernel)
def mjSm_passx_10 : MjSm := ([(3, 219, 219, 0, 0), (3, 1, 1, 0, 0), (0, 0, 0, 0, 0)], [(219, 0, (3, 220, 220, 0, 0))], [((7, 0, 0, 0, 0), [], [(219, 0, (3, 1, 1, 0, 0))])], [(220, 0), (220, 2), (220, 3), (220, 4), (220, 5)], 2)
set_option maxRecDepth 100000 in
theorem mjC_passx_10 : mjCtr (mjSW 0 240 mjWd_passx) 29 mjSm_passx_10 := aiOk_ctr mjUW_ok (env := [(30, mjSm_passx_9)]) (mjEnvC mjC_passx_9 (fun e he => (by cases he))) (pr := []) (cuts := []) (n := 18) (by decide +kernel)
def mjSm_passx_11 : MjSm := ([(3, 218, 218, 0, 0), (3, 2, 2, 0, 0), (3, 1, 1, 0, 0), (0, 0, 0, 0, 0)], [(218, 3, (3, 193, 193, 0, 0)), (219, 0, (3, 220, 220, 0, 0))], [((0, 1, 1, 0, 0), [], [(218, 3, (3, 2, 2, 0, 0)), (219, 0, (3, 1, 1, 0, 0))])], [(3, 0), (3, 1), (3, 3), (3, 6), (3, 12), (3, 13), (4, 255), (11, 3), (11, 4), (11, 5), (11, 6), (15, 3), (15, 4), (15, 5), (15, 6), (15, 7), (16, 255), (17, 255), (18, 255), (219, 3), (219, 4), (219, 5), (219, 6), (219, 7), (219, 9), (219, 10), (220, 0), (220, 2), (220, 3), (220, 4), (220, 5)], 5)
set_option maxRecDepth 100000 in
theorem mjC_passx_11 : mjCtr (mjSW 0 240 mjWd_passx) 27 mjSm_passx_11 := aiOk_ctr mjUW_ok (env := [(29, mjSm_passx_10), (28, mjSm_passx_8)]) (mjEnvC mjC_passx_10 (mjEnvC mjC_passx_8 (fun e he => (by cases he)))) (pr := []) (cuts := []) (n := 26) (by decide +kernel)
def mjSm_passx_12 : MjSm := ([(3, 20, 20, 0, 0), (3, 14, 14, 0, 0)], [], [((7, 0, 0, 0, 0), [], [])], [(21, 3), (21, 4), (21, 5), (21, 6), (21, 7), (22, 255), (23, 255), (24, 255)], 1)
set_option maxRecDepth 100000 in
theorem mjC_passx_12 : mjCtr (mjSW 0 240 mjWd_passx) 64 mjSm_passx_12 := aiOk_ctr mjUW_ok (env := []) (fun e he => (by cases he)) (pr := []) (cuts := []) (n := 48) (by decide +kernel)
def mjSm_passx_13 : MjSm := ([(3, 18, 18, 0, 0), (3, 14, 14, 0, 0)], [], [((7, 0, 0, 0, 0), [], [])], [(19, 2), (19, 3), (21, 3), (21, 4), (21, 5), (21, 6), (21, 7), (22, 255), (23, 255), (24, 255)], 2)
set_option maxRecDepth 100000 in
theorem mjC_passx_13 : mjCtr (mjSW 0 240 mjWd_passx) 63 mjSm_passx_13 := aiOk_ctr mjUW_ok (env := [(64, mjSm_passx_12)]) (mjEnvC mjC_passx_12 (fun e he => (by cases he))) (pr := []) (cuts := []) (n := 17) (by decide +kernel)
def mjSm_passx_14 : MjSm := ([(3, 185, 185, 0, 0)], [], [((7, 0, 0, 0, 0), [], [])], [(186, 6), (186, 7)], 1)
set_option maxRecDepth 100000 in
theorem mjC_passx_14 : mjCtr (mjSW 0 240 mjWd_passx) 65 mjSm_passx_14 := aiOk_ctr mjUW_ok (env := []) (fun e he => (by cases he)) (pr := []) (cuts := []) (n := 10) (by decide +kernel)
def mjSm_passx_15 : MjSm := ([(3, 0, 0, 0, 0)], [(0, 3, (3, 193, 193, 0, 0)), (0, 4, (3, 2, 2, 0, 0)), (218, 3, (3, 193, 193, 0, 0)), (219, 0, (3, 220, 220, 0, 0))], [((0, 0, 0, 0, 0), [], [(0, 3, (3, 2, 2, 0, 0)), (0, 4, (3, 193, 193, 0, 0)), (218, 3, (3, 2, 2, 0, 0)), (219, 0, (3, 1, 1, 0, 0))])], [(1, 1), (1, 3), (1, 4), (1, 7), (1, 12), (3, 0), (3, 1), (3, 3), (3, 6), (3, 12), (3, 13), (4, 255), (11, 3), (11, 4), (11, 5), (11, 6), (15, 3), (15, 4), (15, 5), (15, 6), (15, 7), (16, 255), (17, 255), (18, 255), (19, 2), (19, 3), (21, 3), (21, 4), (21, 5), (21, 6), (21, 7), (22, 255), (23, 255), (24, 255), (186, 6), (186, 7), (219, 3), (219, 4), (219, 5), (219, 6), (219, 7), (219, 9), (219, 10), (220, 0), (220, 2), (220, 3), (220, 4), (220, 5)], 6)
set_option maxRecDepth 100000 in
theorem mjC_passx_15 : mjCtr (mjSW 0 240 mjWd_passx) 26 mjSm_passx_15 := aiOk_ctr mjUW_ok (env := [(27, mjSm_passx_11), (65, mjSm_passx_14), (63, mjSm_passx_13)]) (mjEnvC mjC_passx_11 (mjEnvC mjC_passx_14 (mjEnvC mjC_passx_13 (fun e he => (by cases he))))) (pr := []) (cuts := []) (n := 45) (by decide +kernel)
def mjWd_passm : MjWd := [(240, 7, (0, 0, 1)), (240, 42, (0, 0, 1)), (240, 43, (0, 0, 1)), (240, 44, (0, 0, 560)), (243, 255, (0, 0, 4)), (244, 255, (0, 0, 3)), (248, 255, (0, 0, 1)), (255, 255, (0, 0, 3)), (289, 255, (0, 0, 1))]
theorem mjWd_passm_ok : mjWdB mjWd_passm = true := by decide +kernel
def mjSm_passm_0 : MjSm := ([(3, 240, 240, 0, 0)], [], [((7, 0, 0, 0, 0), [], [])], [(241, 44), (241, 48), (244, 255), (245, 255), (246, 255), (247, 255), (248, 255), (249, 255), (250, 255), (251, 255), (252, 255), (253, 255), (254, 255), (255, 255), (256, 255), (257, 255), (258, 255)], 1)
set_option maxRecDepth 100000 in
theorem mjC_passm_0 : mjCtr (mjSW 240 290 mjWd_passm) 176 mjSm_passm_0 := aiOk_ctr mjUW_ok (env := []) (fun e he => (by cases he)) (pr := []) (cuts := [(107, ([(3, 240, 240, 0, 0), (0, 0, 5, 0, 0)], [], []), [(0, 0, 49893), (1, 1, 2147483647), (0, 0, 60000), (0, 0, 0), (0, 0, 0), (0, 0, 0), (0, 0, 0), (0, 0, 0)]), (134, ([(3, 240, 240, 0, 0), (0, 0, 6, 0, 0)], [], []), [(0, 0, 49866), (1, 1, 2147483647), (0, 0, 60000), (0, 0, 0), (0, 0, 0), (0, 0, 0), (0, 0, 0), (0, 0, 0)]), (178, ([(3, 240, 240, 0, 0), (0, 0, 30, 0, 0)], [], []), [(0, 0, 49822), (1, 1, 2147483647), (0, 0, 60000), (0, 0, 0), (0, 0, 0), (0, 0, 0), (0, 0, 0), (0, 0, 0)])]) (n := 68) (by decide +kernel)
def mjSm_passm_1 : MjSm := ([(3, 240, 240, 0, 0), (0, 0, 0, 0, 0)], [], [((0, 0, 0, 0, 0), [], [])], [], 1)
set_option maxRecDepth 100000 in
theorem mjC_passm_1 : mjCtr (mjSW 240 290 mjWd_passm) 182 mjSm_passm_1 := aiOk_ctr mjUW_ok (env := []) (fun e he => (by cases he)) (pr := []) (cuts := []) (n := 9) (by decide +kernel)
def mjSm_passm_2 : MjSm := ([(3, 240, 240, 0, 0)], [(240, 7, (0, 0, 0, 0, 0))], [((7, 0, 0, 0, 0), [], [(240, 7, (0, 0, 0, 0, 0))])], [(241, 6), (241, 7), (241, 8)], 2)
set_option maxRecDepth 100000 in
theorem mjC_passm_2 : mjCtr (mjSW 240 290 mjWd_passm) 181 mjSm_passm_2 := aiOk_ctr mjUW_ok (env := [(182, mjSm_passm_1)]) (mjEnvC mjC_passm_1 (fun e he => (by cases he))) (pr := []) (cuts := []) (n := 41) (by decide +kernel)
def mjSm_passm_3 : MjSm := ([(3, 240, 240, 0, 0)], [], [((0, 1, 1, 0, 0), [], [])], [], 1)
set_option maxRecDepth 100000 in
theorem mjC_passm_3 : mjCtr (mjSW 240 290 mjWd_passm) 187 mjSm_passm_3 := aiOk_ctr mjUW_ok (env := []) (fun e he => (by cases he)) (pr := []) (cuts := []) (n := 9) (by decide +kernel)
def mjSm_passm_4 : MjSm := ([(3, 240, 240, 0, 0)], [(240, 42, (0, 1, 1, 0, 0))], [((0, 0, 0, 0, 0), [], [])], [], 1)
set_option maxRecDepth 100000 in
theorem mjC_passm_4 : mjCtr (mjSW 240 290 mjWd_passm) 179 mjSm_passm_4 := aiOk_ctr mjUW_ok (env := []) (fun e he => (by cases he)) (pr := []) (cuts := []) (n := 9) (by decide +kernel)
def mjSm_passm_5 : MjSm := ([(3, 240, 240, 0, 0)], [(240, 42, (0, 1, 1, 0, 0))], [((7, 0, 0, 0, 0), [], [])], [(275, 255)], 2)
set_option maxRecDepth 100000 in
theorem mjC_passm_5 : mjCtr (mjSW 240 290 mjWd_passm) 178 mjSm_passm_5 := aiOk_ctr mjUW_ok (env := [(179, mjSm_passm_4)]) (mjEnvC mjC_passm_4 (fun e he => (by cases he))) (pr := []) (cuts := [(2, ([(3, 240, 240, 0, 0), (0, 0, 70, 0, 0)], [], [(240, 42, (0, 1, 1, 0, 0))]), [(0, 0, 49998), (1, 1, 2147483647), (0, 0, 60000), (0, 0, 0), (0, 0, 0), (0, 0, 0), (0, 0, 0), (0, 0, 0)]), (23, ([(3, 240, 240, 0, 0), (0, 0, 30, 0, 0)], [], [(240, 42, (0, 1, 1, 0, 0))]), [(0, 0, 49977), (1, 1, 2147483647), (0, 0, 60000), (0, 0, 0), (0, 0, 0), (0, 0, 0), (0, 0, 0), (0, 0, 0)]), (82, ([(3, 240, 240, 0, 0), (0, 0, 0, 0, 0)], [], [(240, 42, (0, 1, 1, 0, 0))]), [(0, 0, 49918), (1, 1, 2147483647), (0, 0, 60000), (0, 0, 0), (0, 0, 0), (0, 0, 0), (0, 0, 0), (0, 0, 0)])]) (n := 38) (by decide +kernel)
def mjSm_passm_6 : MjSm := ([(3, 240, 240, 0, 0)], [(240, 42, (0, 1, 1, 0, 0))], [((7, 0, 0, 0, 0), [], [])], [(241, 60), (241, 61), (241, 63), (241, 73), (275, 255), (290, 255)], 3)
set_option maxRecDepth 100000 in
theorem mjC_passm_6 : mjCtr (mjSW 240 290 mjWd_passm) 177 mjSm_passm_6 := aiOk_ctr mjUW_ok (env := [(178, mjSm_passm_5)]) (mjEnvC mjC_passm_5 (fun e he => (by cases he))) (pr := []) (cuts := []) (n := 53) (by decide +kernel)
def mjSm_passm_7 : MjSm := ([(3, 240, 240, 0, 0)], [(240, 7, (0, 0, 0, 0, 0)), (240, 42, (0, 0, 0, 0, 0))], [((0, 0, 0, 0, 0), [], [(240, 7, (0, 0, 0, 0, 0)), (240, 42, (0, 1, 1, 0, 0))])], [(241, 2), (241, 3), (241, 4), (241, 5), (241, 6), (241, 7), (241, 8), (241, 42), (241, 43), (241, 44), (241, 48), (241, 60), (241, 61), (241, 63), (241, 73), (244, 255), (245, 255), (246, 255), (247, 255), (248, 255), (249, 255), (250, 255), (251, 255), (252, 255), (253, 255), (254, 255), (255, 255), (256, 255), (257, 255), (258, 255), (275, 255), (290, 255)], 4)
set_option maxRecDepth 100000 in
theorem mjC_passm_7 : mjCtr (mjSW 240 290 mjWd_passm) 180 mjSm_passm_7 := aiOk_ctr mjUW_ok (env := [(181, mjSm_passm_2), (177, mjSm_passm_6), (187, mjSm_passm_3), (176, mjSm_passm_0)]) (mjEnvC mjC_passm_2 (mjEnvC mjC_passm_6 (mjEnvC mjC_passm_3 (mjEnvC mjC_passm_0 (fun e he => (by cases he)))))) (pr := []) (cuts := []) (n := 56) (by decide +kernel)
set_option maxRecDepth 100000 in
theorem mjPair_pass (sc : List Int32)  : ∃ (v : Int32) (n1 : Nat) (w1 : MjW) (n2 : Nat) (w2 : MjW), mjEx mjTb mjMt sc n1 6 26 0 (mjEntry mjM_26.2.2.1 (.ref 0 :: [])) [] mjW0 = some (some (.int v), w1) ∧ mjEx mjTb mjMt sc n2 4 180 0 (mjEntry mjM_180.2.2.1 (.ref 240 :: [])) [] w1 = some (some (.int v), w2) ∧ mjShp w1 = mjShp mjW0 ∧ mjShp w2 = mjShp mjW0 := mj_pair (smx := mjSm_passx_15) (smm := mjSm_passm_7) mjC_passx_15 mjC_passm_7 mjWd_passx_ok mjWd_passm_ok (by decide +kernel) (by decide +kernel) (by decide +kernel) (by decide +kernel) (by decide +kernel) ⟨⟨0, rfl, rfl⟩, trivial⟩ ⟨⟨240, rfl, rfl⟩, trivial⟩ rfl rfl
