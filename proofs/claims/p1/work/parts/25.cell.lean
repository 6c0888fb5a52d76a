def mjWd_cellx : MjWd := []
theorem mjWd_cellx_ok : mjWdB mjWd_cellx = true := by decide +kernel
def mjSm_cellx_0 : MjSm := ([(3, 193, 193, 0, 0), (0, -2147483648, 2147483647, 0, 0)], [], [((0, 1, 1, 0, 0), [(1, 0, 3)], []), ((0, 0, 0, 0, 0), [(1, 4, 2147483647)], []), ((0, 0, 0, 0, 0), [(1, -2147483648, -1)], [])], [], 1)
set_option maxRecDepth 100000 in
theorem mjC_cellx_0 : mjCtr (mjSW 0 240 mjWd_cellx) 69 mjSm_cellx_0 := aiOk_ctr mjUW_ok (env := []) (fun e he => (by cases he)) (pr := [1]) (cuts := []) (n := 15) (by decide +kernel)
def mjSm_cellx_1 : MjSm := ([(3, 193, 193, 0, 0), (0, -2147483648, 2147483647, 0, 0), (0, -2147483648, 2147483647, 0, 0)], [], [((0, 0, 0, 0, 0), [(1, -2147483648, -1)], []), ((0, 0, 0, 0, 0), [(1, 4, 2147483647)], []), ((0, 1, 1, 0, 0), [(1, 0, 3), (2, 0, 2)], []), ((0, 0, 0, 0, 0), [(1, 0, 3), (2, 3, 2147483647)], []), ((0, 0, 0, 0, 0), [(1, 0, 3), (2, -2147483648, -1)], [])], [], 2)
set_option maxRecDepth 100000 in
theorem mjC_cellx_1 : mjCtr (mjSW 0 240 mjWd_cellx) 68 mjSm_cellx_1 := aiOk_ctr mjUW_ok (env := [(69, mjSm_cellx_0)]) (mjEnvC mjC_cellx_0 (fun e he => (by cases he))) (pr := [1, 2]) (cuts := []) (n := 19) (by decide +kernel)
def mjSm_cellx_2 : MjSm := ([(3, 18, 18, 0, 0)], [], [((3, 20, 20, 0, 0), [], [])], [], 1)
set_option maxRecDepth 100000 in
theorem mjC_cellx_2 : mjCtr (mjSW 0 240 mjWd_cellx) 70 mjSm_cellx_2 := aiOk_ctr mjUW_ok (env := []) (fun e he => (by cases he)) (pr := []) (cuts := []) (n := 9) (by decide +kernel)
def mjSm_cellx_3 : MjSm := ([(0, 0, 3, 0, 0), (0, 0, 2, 0, 0)], [], [((0, 0, 17, 0, 0), [], [])], [], 1)
set_option maxRecDepth 100000 in
theorem mjC_cellx_3 : mjCtr (mjSW 0 240 mjWd_cellx) 48 mjSm_cellx_3 := aiOk_ctr mjUW_ok (env := []) (fun e he => (by cases he)) (pr := []) (cuts := []) (n := 9) (by decide +kernel)
def mjSm_cellx_4 : MjSm := ([(3, 210, 210, 0, 0), (3, 20, 20, 0, 0)], [], [((7, 0, 0, 0, 0), [], [])], [(211, 3), (211, 4), (211, 5), (211, 6), (211, 7), (212, 255), (213, 255), (214, 255)], 1)
set_option maxRecDepth 100000 in
theorem mjC_cellx_4 : mjCtr (mjSW 0 240 mjWd_cellx) 64 mjSm_cellx_4 := aiOk_ctr mjUW_ok (env := []) (fun e he => (by cases he)) (pr := []) (cuts := []) (n := 48) (by decide +kernel)
def mjSm_cellx_5 : MjSm := ([(3, 216, 216, 0, 0), (0, 0, 0, 0, 0)], [], [((7, 0, 0, 0, 0), [], [])], [(217, 255)], 1)
set_option maxRecDepth 100000 in
theorem mjC_cellx_5 : mjCtr (mjSW 0 240 mjWd_cellx) 6 mjSm_cellx_5 := aiOk_ctr mjUW_ok (env := []) (fun e he => (by cases he)) (pr := []) (cuts := [(5, ([(3, 216, 216, 0, 0), (0, 0, 0, 0, 0), (0, 0, 6, 0, 0), (0, 6, 6, 0, 0)], [], []), [(0, 0, 49995), (1, 2, 2147483647), (0, 0, 60000), (0, 0, 0), (0, 0, 0), (0, 0, 0), (0, 0, 0), (0, 0, 0)])]) (n := 12) (by decide +kernel)
def mjSm_cellx_6 : MjSm := ([(3, 217, 217, 0, 0), (0, 0, 0, 0, 0)], [], [((7, 0, 0, 0, 0), [], [])], [(218, 255)], 1)
set_option maxRecDepth 100000 in
theorem mjC_cellx_6 : mjCtr (mjSW 0 240 mjWd_cellx) 6 mjSm_cellx_6 := aiOk_ctr mjUW_ok (env := []) (fun e he => (by cases he)) (pr := []) (cuts := [(5, ([(3, 217, 217, 0, 0), (0, 0, 0, 0, 0), (0, 0, 6, 0, 0), (0, 6, 6, 0, 0)], [], []), [(0, 0, 49995), (1, 2, 2147483647), (0, 0, 60000), (0, 0, 0), (0, 0, 0), (0, 0, 0), (0, 0, 0), (0, 0, 0)])]) (n := 12) (by decide +kernel)
def mjSm_cellx_7 : MjSm := ([(3, 215, 215, 0, 0), (0, 0, 0, 0, 0)], [], [((7, 0, 0, 0, 0), [], [])], [(216, 255)], 1)
set_option maxRecDepth 100000 in
theorem mjC_cellx_7 : mjCtr (mjSW 0 240 mjWd_cellx) 6 mjSm_cellx_7 := aiOk_ctr mjUW_ok (env := []) (fun e he => (by cases he)) (pr := []) (cuts := [(5, ([(3, 215, 215, 0, 0), (0, 0, 0, 0, 0), (0, 0, 6, 0, 0), (0, 6, 6, 0, 0)], [], []), [(0, 0, 49995), (1, 2, 2147483647), (0, 0, 60000), (0, 0, 0), (0, 0, 0), (0, 0, 0), (0, 0, 0), (0, 0, 0)])]) (n := 12) (by decide +kernel)
def mjSm_cellx_8 : MjSm := ([(3, 193, 193, 0, 0), (3, 210, 210, 0, 0), (0, 0, 0, 0, 0)], [], [((0, 0, 0, 0, 0), [], [])], [], 1)
set_option maxRecDepth 100000 in
theorem mjC_cellx_8 : mjCtr (mjSW 0 240 mjWd_cellx) 75 mjSm_cellx_8 := aiOk_ctr mjUW_ok (env := []) (fun e he => (by cases he)) (pr := []) (cuts := [(5, ([(3, 193, 193, 0, 0), (3, 210, 210, 0, 0), (0, 0, 0, 0, 0), (0, 0, 0, 0, 0), (0, 0, 0, 0, 0), (9, 0, 0, 0, 0)], [], []), [(0, 0, 49995), (1, 4, 2147483647), (0, 0, 60000), (0, 0, 0), (0, 0, 0), (0, 0, 0), (0, 0, 0), (0, 0, 0)])]) (n := 9) (by decide +kernel)
def mjSm_cellx_9 : MjSm := ([(3, 209, 209, 0, 0)], [], [((7, 0, 0, 0, 0), [], [])], [(216, 255)], 2)
set_option maxRecDepth 100000 in
theorem mjC_cellx_9 : mjCtr (mjSW 0 240 mjWd_cellx) 74 mjSm_cellx_9 := aiOk_ctr mjUW_ok (env := [(6, mjSm_cellx_7), (75, mjSm_cellx_8)]) (mjEnvC mjC_cellx_7 (mjEnvC mjC_cellx_8 (fun e he => (by cases he)))) (pr := []) (cuts := [(32, ([(3, 209, 209, 0, 0), (0, 0, 0, 0, 0), (0, 0, 0, 0, 0)], [], []), [(0, 0, 49968), (1, 2, 2147483647), (0, 0, 60000), (0, 0, 0), (0, 0, 0), (0, 0, 0), (0, 0, 0), (0, 0, 0)])]) (n := 20) (by decide +kernel)
def mjSm_cellx_10 : MjSm := ([(3, 209, 209, 0, 0), (3, 193, 193, 0, 0), (3, 210, 210, 0, 0)], [], [((7, 0, 0, 0, 0), [], [])], [(210, 2), (210, 3), (210, 7), (216, 255), (217, 255), (218, 255)], 3)
set_option maxRecDepth 100000 in
theorem mjC_cellx_10 : mjCtr (mjSW 0 240 mjWd_cellx) 73 mjSm_cellx_10 := aiOk_ctr mjUW_ok (env := [(6, mjSm_cellx_6), (6, mjSm_cellx_5), (74, mjSm_cellx_9)]) (mjEnvC mjC_cellx_6 (mjEnvC mjC_cellx_5 (mjEnvC mjC_cellx_9 (fun e he => (by cases he))))) (pr := []) (cuts := []) (n := 23) (by decide +kernel)
def mjSm_cellx_11 : MjSm := ([(3, 209, 209, 0, 0), (3, 193, 193, 0, 0), (3, 20, 20, 0, 0)], [], [((7, 0, 0, 0, 0), [], [])], [(210, 2), (210, 3), (210, 7), (211, 3), (211, 4), (211, 5), (211, 6), (211, 7), (212, 255), (213, 255), (214, 255), (216, 255), (217, 255), (218, 255)], 4)
set_option maxRecDepth 100000 in
theorem mjC_cellx_11 : mjCtr (mjSW 0 240 mjWd_cellx) 72 mjSm_cellx_11 := aiOk_ctr mjUW_ok (env := [(73, mjSm_cellx_10), (64, mjSm_cellx_4)]) (mjEnvC mjC_cellx_10 (mjEnvC mjC_cellx_4 (fun e he => (by cases he)))) (pr := []) (cuts := []) (n := 13) (by decide +kernel)
def mjSm_cellx_12 : MjSm := ([(3, 209, 209, 0, 0), (0, 0, 3, 0, 0), (0, 0, 2, 0, 0), (0, 0, 0, 0, 0)], [], [((0, 0, 0, 0, 0), [], [])], [], 2)
set_option maxRecDepth 100000 in
theorem mjC_cellx_12 : mjCtr (mjSW 0 240 mjWd_cellx) 76 mjSm_cellx_12 := aiOk_ctr mjUW_ok (env := [(48, mjSm_cellx_3)]) (mjEnvC mjC_cellx_3 (fun e he => (by cases he))) (pr := []) (cuts := []) (n := 17) (by decide +kernel)
def mjSm_cellx_13 : MjSm := ([(3, 0, 0, 0, 0), (3, 20, 20, 0, 0), (0, 0, 3, 0, 0), (0, 0, 2, 0, 0)], [], [((0, 0, 0, 0, 0), [], [])], [(210, 2), (210, 3), (210, 7), (211, 3), (211, 4), (211, 5), (211, 6), (211, 7), (212, 255), (213, 255), (214, 255), (216, 255), (217, 255), (218, 255)], 5)
set_option maxRecDepth 100000 in
theorem mjC_cellx_13 : mjCtr (mjSW 0 240 mjWd_cellx) 71 mjSm_cellx_13 := aiOk_ctr mjUW_ok (env := [(72, mjSm_cellx_11), (76, mjSm_cellx_12)]) (mjEnvC mjC_cellx_11 (mjEnvC mjC_cellx_12 (fun e he => (by cases he)))) (pr := []) (cuts := []) (n := 16) (by decide +kernel)
def mjSm_cellx_14 : MjSm := ([(3, 0, 0, 0, 0), (0, -2147483648, 2147483647, 0, 0), (0, -2147483648, 2147483647, 0, 0), (0, -2147483648, 2147483647, 0, 0)], [], [((0, -1, -1, 0, 0), [(1, 0, 3), (2, -2147483648, -1)], []), ((0, -1, -1, 0, 0), [(1, 0, 3), (2, 3, 2147483647)], []), ((0, 0, 0, 0, 0), [(1, 0, 3), (2, 0, 2), (3, 3, 3)], []), ((0, 3, 3, 0, 0), [(1, 0, 3), (2, 0, 2), (3, 2, 2)], []), ((0, 0, 0, 0, 0), [(1, 0, 3), (2, 0, 2), (3, 1, 1)], []), ((0, 0, 0, 0, 0), [(1, 0, 3), (2, 0, 2), (3, 0, 0)], []), ((0, -1, -1, 0, 0), [(1, 0, 3), (2, 0, 2), (3, 4, 2147483647)], []), ((0, -1, -1, 0, 0), [(1, 0, 3), (2, 0, 2), (3, -2147483648, -1)], []), ((0, -1, -1, 0, 0), [(1, 4, 2147483647)], []), ((0, -1, -1, 0, 0), [(1, -2147483648, -1)], [])], [(210, 2), (210, 3), (210, 7), (211, 3), (211, 4), (211, 5), (211, 6), (211, 7), (212, 255), (213, 255), (214, 255), (216, 255), (217, 255), (218, 255)], 6)
set_option maxRecDepth 100000 in
theorem mjC_cellx_14 : mjCtr (mjSW 0 240 mjWd_cellx) 67 mjSm_cellx_14 := aiOk_ctr mjUW_ok (env := [(70, mjSm_cellx_2), (71, mjSm_cellx_13), (48, mjSm_cellx_3), (68, mjSm_cellx_1)]) (mjEnvC mjC_cellx_2 (mjEnvC mjC_cellx_13 (mjEnvC mjC_cellx_3 (mjEnvC mjC_cellx_1 (fun e he => (by cases he)))))) (pr := [1, 2, 3]) (cuts := []) (n := 28) (by decide +kernel)
def mjWd_cellm : MjWd := []
theorem mjWd_cellm_ok : mjWdB mjWd_cellm = true := by decide +kernel
def mjSm_cellm_0 : MjSm := ([(3, 240, 240, 0, 0)], [], [((0, 4, 4, 0, 0), [], [])], [], 1)
set_option maxRecDepth 100000 in
theorem mjC_cellm_0 : mjCtr (mjSW 240 290 mjWd_cellm) 220 mjSm_cellm_0 := aiOk_ctr mjUW_ok (env := []) (fun e he => (by cases he)) (pr := []) (cuts := []) (n := 9) (by decide +kernel)
def mjSm_cellm_1 : MjSm := ([(0, -2147483648, 2147483647, 0, 0), (0, 0, 0, 0, 0), (0, 3, 3, 0, 0)], [], [((0, 1, 1, 0, 0), [(0, 0, 3)], []), ((0, 0, 0, 0, 0), [(0, 4, 2147483647)], []), ((0, 0, 0, 0, 0), [(0, -2147483648, -1)], [])], [], 1)
set_option maxRecDepth 100000 in
theorem mjC_cellm_1 : mjCtr (mjSW 240 290 mjWd_cellm) 221 mjSm_cellm_1 := aiOk_ctr mjUW_ok (env := []) (fun e he => (by cases he)) (pr := [0]) (cuts := []) (n := 12) (by decide +kernel)
def mjSm_cellm_2 : MjSm := ([(3, 240, 240, 0, 0), (0, -2147483648, 2147483647, 0, 0)], [], [((0, 0, 0, 0, 0), [(1, -2147483648, -1)], []), ((0, 0, 0, 0, 0), [(1, 4, 2147483647)], []), ((0, 1, 1, 0, 0), [(1, 0, 3)], [])], [], 2)
set_option maxRecDepth 100000 in
theorem mjC_cellm_2 : mjCtr (mjSW 240 290 mjWd_cellm) 219 mjSm_cellm_2 := aiOk_ctr mjUW_ok (env := [(220, mjSm_cellm_0), (221, mjSm_cellm_1)]) (mjEnvC mjC_cellm_0 (mjEnvC mjC_cellm_1 (fun e he => (by cases he)))) (pr := [1]) (cuts := []) (n := 11) (by decide +kernel)
def mjSm_cellm_3 : MjSm := ([(3, 240, 240, 0, 0)], [], [((0, 3, 3, 0, 0), [], [])], [], 1)
set_option maxRecDepth 100000 in
theorem mjC_cellm_3 : mjCtr (mjSW 240 290 mjWd_cellm) 222 mjSm_cellm_3 := aiOk_ctr mjUW_ok (env := []) (fun e he => (by cases he)) (pr := []) (cuts := []) (n := 9) (by decide +kernel)
def mjSm_cellm_4 : MjSm := ([(0, -2147483648, 2147483647, 0, 0), (0, 0, 0, 0, 0), (0, 2, 2, 0, 0)], [], [((0, 1, 1, 0, 0), [(0, 0, 2)], []), ((0, 0, 0, 0, 0), [(0, 3, 2147483647)], []), ((0, 0, 0, 0, 0), [(0, -2147483648, -1)], [])], [], 1)
set_option maxRecDepth 100000 in
theorem mjC_cellm_4 : mjCtr (mjSW 240 290 mjWd_cellm) 221 mjSm_cellm_4 := aiOk_ctr mjUW_ok (env := []) (fun e he => (by cases he)) (pr := [0]) (cuts := []) (n := 12) (by decide +kernel)
def mjSm_cellm_5 : MjSm := ([(3, 240, 240, 0, 0), (0, -2147483648, 2147483647, 0, 0), (0, -2147483648, 2147483647, 0, 0)], [], [((0, 0, 0, 0, 0), [(1, 0, 3), (2, -2147483648, -1)], []), ((0, 0, 0, 0, 0), [(1, 0, 3), (2, 3, 2147483647)], []), ((0, 1, 1, 0, 0), [(1, 0, 3), (2, 0, 2)], []), ((0, 0, 0, 0, 0), [(1, 4, 2147483647)], []), ((0, 0, 0, 0, 0), [(1, -2147483648, -1)], [])], [], 3)
set_option maxRecDepth 100000 in
theorem mjC_cellm_5 : mjCtr (mjSW 240 290 mjWd_cellm) 218 mjSm_cellm_5 := aiOk_ctr mjUW_ok (env := [(222, mjSm_cellm_3), (221, mjSm_cellm_4), (219, mjSm_cellm_2)]) (mjEnvC mjC_cellm_3 (mjEnvC mjC_cellm_4 (mjEnvC mjC_cellm_2 (fun e he => (by cases he))))) (pr := [1, 2]) (cuts := []) (n := 18) (by decide +kernel)
def mjSm_cellm_6 : MjSm := ([(3, 240, 240, 0, 0), (0, 0, 3, 0, 0), (0, 0, 2, 0, 0)], [], [((0, 0, 0, 0, 0), [], [])], [], 1)
set_option maxRecDepth 100000 in
theorem mjC_cellm_6 : mjCtr (mjSW 240 290 mjWd_cellm) 223 mjSm_cellm_6 := aiOk_ctr mjUW_ok (env := []) (fun e he => (by cases he)) (pr := []) (cuts := []) (n := 14) (by decide +kernel)
def mjSm_cellm_7 : MjSm := ([(3, 240, 240, 0, 0), (0, 0, 3, 0, 0), (0, 0, 2, 0, 0), (0, 0, 0, 0, 0)], [], [((0, 0, 0, 0, 0), [], [])], [], 2)
set_option maxRecDepth 100000 in
theorem mjC_cellm_7 : mjCtr (mjSW 240 290 mjWd_cellm) 225 mjSm_cellm_7 := aiOk_ctr mjUW_ok (env := [(223, mjSm_cellm_6)]) (mjEnvC mjC_cellm_6 (fun e he => (by cases he))) (pr := []) (cuts := []) (n := 10) (by decide +kernel)
def mjSm_cellm_8 : MjSm := ([(3, 240, 240, 0, 0), (0, 0, 3, 0, 0), (0, 0, 2, 0, 0)], [], [((0, 0, 0, 0, 0), [], [])], [], 1)
set_option maxRecDepth 100000 in
theorem mjC_cellm_8 : mjCtr (mjSW 240 290 mjWd_cellm) 224 mjSm_cellm_8 := aiOk_ctr mjUW_ok (env := []) (fun e he => (by cases he)) (pr := []) (cuts := []) (n := 14) (by decide +kernel)
def mjSm_cellm_9 : MjSm := ([(3, 240, 240, 0, 0), (0, -2147483648, 2147483647, 0, 0), (0, -2147483648, 2147483647, 0, 0), (0, -2147483648, 2147483647, 0, 0)], [], [((0, -1, -1, 0, 0), [(1, -2147483648, -1)], []), ((0, -1, -1, 0, 0), [(1, 4, 2147483647)], []), ((0, 0, 0, 0, 0), [(1, 0, 3), (2, 0, 2), (3, 3, 3)], []), ((0, 3, 3, 0, 0), [(1, 0, 3), (2, 0, 2), (3, 2, 2)], []), ((0, 0, 0, 0, 0), [(1, 0, 3), (2, 0, 2), (3, 1, 1)], []), ((0, 0, 0, 0, 0), [(1, 0, 3), (2, 0, 2), (3, 0, 0)], []), ((0, -1, -1, 0, 0), [(1, 0, 3), (2, 0, 2), (3, 4, 2147483647)], []), ((0, -1, -1, 0, 0), [(1, 0, 3), (2, 0, 2), (3, -2147483648, -1)], []), ((0, -1, -1, 0, 0), [(1, 0, 3), (2, 3, 2147483647)], []), ((0, -1, -1, 0, 0), [(1, 0, 3), (2, -2147483648, -1)], [])], [], 4)
set_option maxRecDepth 100000 in
theorem mjC_cellm_9 : mjCtr (mjSW 240 290 mjWd_cellm) 217 mjSm_cellm_9 := aiOk_ctr mjUW_ok (env := [(223, mjSm_cellm_6), (224, mjSm_cellm_8), (225, mjSm_cellm_7), (218, mjSm_cellm_5)]) (mjEnvC mjC_cellm_6 (mjEnvC mjC_cellm_8 (mjEnvC mjC_cellm_7 (mjEnvC mjC_cellm_5 (fun e he => (by cases he)))))) (pr := [1, 2, 3]) (cuts := []) (n := 20) (by decide +kernel)
set_option maxRecDepth 100000 in
theorem mjPair_cell (sc : List Int32) (s1 s2 s3 : Int32)  : ∃ (v : Int32) (n1 : Nat) (w1 : MjW) (n2 : Nat) (w2 : MjW), mjEx mjTb mjMt sc n1 6 67 0 (mjEntry mjM_67.2.2.1 (.ref 0 :: [.int s1, .int s2, .int s3])) [] mjW0 = some (some (.int v), w1) ∧ mjEx mjTb mjMt sc n2 4 217 0 (mjEntry mjM_217.2.2.1 (.ref 240 :: [.int s1, .int s2, .int s3])) [] w1 = some (some (.int v), w2) ∧ mjShp w1 = mjShp mjW0 ∧ mjShp w2 = mjShp mjW0 := mj_pair (smx := mjSm_cellx_14) (smm := mjSm_cellm_9) mjC_cellx_14 mjC_cellm_9 mjWd_cellx_ok mjWd_cellm_ok (by decide +kernel) (by decide +kernel) (by decide +kernel) (by decide +kernel) (by decide +kernel) ⟨⟨0, rfl, rfl⟩, ⟨⟨s1, rfl, mjB.all s1⟩, ⟨⟨s2, rfl, mjB.all s2⟩, ⟨⟨s3, rfl, mjB.all s3⟩, trivial⟩⟩⟩⟩ ⟨⟨240, rfl, rfl⟩, ⟨⟨s1, rfl, mjB.all s1⟩, ⟨⟨s2, rfl, mjB.all s2⟩, ⟨⟨s3, rfl, mjB.all s3⟩, trivial⟩⟩⟩⟩ rfl rfl
