def mjWd_leastx : MjWd := []
theorem mjWd_leastx_ok : mjWdB mjWd_leastx = true := by decide +kernel
def mjSm_leastx_0 : MjSm := ([(3, 193, 193, 0, 0), (0, -2147483648, 2147483647, 0, 0)], [], [((0, 1, 1, 0, 0), [(1, 0, 3)], []), ((0, 0, 0, 0, 0), [(1, 4, 2147483647)], []), ((0, 0, 0, 0, 0), [(1, -2147483648, -1)], [])], [], 1)
set_option maxRecDepth 100000 in
theorem mjC_leastx_0 : mjCtr (mjSW 0 240 mjWd_leastx) 69 mjSm_leastx_0 := aiOk_ctr mjUW_ok (env := []) (fun e he => (by cases he)) (pr := [1]) (cuts := []) (n := 15) (by decide +kernel)
def mjSm_leastx_1 : MjSm := ([(3, 18, 18, 0, 0)], [], [((3, 20, 20, 0, 0), [], [])], [], 1)
set_option maxRecDepth 100000 in
theorem mjC_leastx_1 : mjCtr (mjSW 0 240 mjWd_leastx) 70 mjSm_leastx_1 := aiOk_ctr mjUW_ok (env := []) (fun e he => (by cases he)) (pr := []) (cuts := []) (n := 9) (by decide +kernel)
def mjSm_leastx_2 : MjSm := ([(3, 210, 210, 0, 0), (3, 20, 20, 0, 0)], [], [((7, 0, 0, 0, 0), [], [])], [(211, 3), (211, 4), (211, 5), (211, 6), (211, 7), (212, 255), (213, 255), (214, 255)], 1)
set_option maxRecDepth 100000 in
theorem mjC_leastx_2 : mjCtr (mjSW 0 240 mjWd_leastx) 64 mjSm_leastx_2 := aiOk_ctr mjUW_ok (env := []) (fun e he => (by cases he)) (pr := []) (cuts := []) (n := 48) (by decide +kernel)
def mjSm_leastx_3 : MjSm := ([(3, 216, 216, 0, 0), (0, 0, 0, 0, 0)], [], [((7, 0, 0, 0, 0), [], [])], [(217, 255)], 1)
set_option maxRecDepth 100000 in
theorem mjC_leastx_3 : mjCtr (mjSW 0 240 mjWd_leastx) 6 mjSm_leastx_3 := aiOk_ctr mjUW_ok (env := []) (fun e he => (by cases he)) (pr := []) (cuts := [(5, ([(3, 216, 216, 0, 0), (0, 0, 0, 0, 0), (0, 0, 6, 0, 0), (0, 6, 6, 0, 0)], [], []), [(0, 0, 49995), (1, 2, 2147483647), (0, 0, 60000), (0, 0, 0), (0, 0, 0), (0, 0, 0), (0, 0, 0), (0, 0, 0)])]) (n := 12) (by decide +kernel)
def mjSm_leastx_4 : MjSm := ([(3, 217, 217, 0, 0), (0, 0, 0, 0, 0)], [], [((7, 0, 0, 0, 0), [], [])], [(218, 255)], 1)
set_option maxRecDepth 100000 in
theorem mjC_leastx_4 : mjCtr (mjSW 0 240 mjWd_leastx) 6 mjSm_leastx_4 := aiOk_ctr mjUW_ok (env := []) (fun e he => (by cases he)) (pr := []) (cuts := [(5, ([(3, 217, 217, 0, 0), (0, 0, 0, 0, 0), (0, 0, 6, 0, 0), (0, 6, 6, 0, 0)], [], []), [(0, 0, 49995), (1, 2, 2147483647), (0, 0, 60000), (0, 0, 0), (0, 0, 0), (0, 0, 0), (0, 0, 0), (0, 0, 0)])]) (n := 12) (by decide +kernel)
def mjSm_leastx_5 : MjSm := ([(3, 215, 215, 0, 0), (0, 0, 0, 0, 0)], [], [((7, 0, 0, 0, 0), [], [])], [(216, 255)], 1)
set_option maxRecDepth 100000 in
theorem mjC_leastx_5 : mjCtr (mjSW 0 240 mjWd_leastx) 6 mjSm_leastx_5 := aiOk_ctr mjUW_ok (env := []) (fun e he => (by cases he)) (pr := []) (cuts := [(5, ([(3, 215, 215, 0, 0), (0, 0, 0, 0, 0), (0, 0, 6, 0, 0), (0, 6, 6, 0, 0)], [], []), [(0, 0, 49995), (1, 2, 2147483647), (0, 0, 60000), (0, 0, 0), (0, 0, 0), (0, 0, 0), (0, 0, 0), (0, 0, 0)])]) (n := 12) (by decide +kernel)
def mjSm_leastx_6 : MjSm := ([(3, 193, 193, 0, 0), (3, 210, 210, 0, 0), (0, 0, 0, 0, 0)], [], [((0, 0, 0, 0, 0), [], [])], [], 1)
set_option maxRecDepth 100000 in
theorem mjC_leastx_6 : mjCtr (mjSW 0 240 mjWd_leastx) 75 mjSm_leastx_6 := aiOk_ctr mjUW_ok (env := []) (fun e he => (by cases he)) (pr := []) (cuts := [(5, ([(3, 193, 193, 0, 0), (3, 210, 210, 0, 0), (0, 0, 0, 0, 0), (0, 0, 0, 0, 0), (0, 0, 0, 0, 0), (9, 0, 0, 0, 0)], [], []), [(0, 0, 49995), (1, 4, 2147483647), (0, 0, 60000), (0, 0, 0), (0, 0, 0), (0, 0, 0), (0, 0, 0), (0, 0, 0)])]) (n := 9) (by decide +kernel)
def mjSm_leastx_7 : MjSm := ([(3, 209, 209, 0, 0)], [], [((7, 0, 0, 0, 0), [], [])], [(216, 255)], 2)
set_option maxRecDepth 100000 in
theorem mjC_leastx_7 : mjCtr (mjSW 0 240 mjWd_leastx) 74 mjSm_leastx_7 := aiOk_ctr mjUW_ok (env := [(6, mjSm_leastx_5), (75, mjSm_leastx_6)]) (mjEnvC mjC_leastx_5 (mjEnvC mjC_leastx_6 (fun e he => (by cases he)))) (pr := []) (cuts := [(32, ([(3, 209, 209, 0, 0), (0, 0, 0, 0, 0), (0, 0, 0, 0, 0)], [], []), [(0, 0, 49968), (1, 2, 2147483647), (0, 0, 60000), (0, 0, 0), (0, 0, 0), (0, 0, 0), (0, 0, 0), (0, 0, 0)])]) (n := 20) (by decide +kernel)
def mjSm_leastx_8 : MjSm := ([(3, 209, 209, 0, 0), (3, 193, 193, 0, 0), (3, 210, 210, 0, 0)], [], [((7, 0, 0, 0, 0), [], [])], [(210, 2), (210, 3), (210, 7), (216, 255), (217, 255), (218, 255)], 3)
set_option maxRecDepth 100000 in
theorem mjC_leastx_8 : mjCtr (mjSW 0 240 mjWd_leastx) 73 mjSm_leastx_8 := aiOk_ctr mjUW_ok (env := [(6, mjSm_leastx_4), (6, mjSm_leastx_3), (74, mjSm_leastx_7)]) (mjEnvC mjC_leastx_4 (mjEnvC mjC_leastx_3 (mjEnvC mjC_leastx_7 (fun e he => (by cases he))))) (pr := []) (cuts := []) (n := 23) (by decide +kernel)
def mjSm_leastx_9 : MjSm := ([(3, 209, 209, 0, 0), (3, 193, 193, 0, 0), (3, 20, 20, 0, 0)], [], [((7, 0, 0, 0, 0), [], [])], [(210, 2), (210, 3), (210, 7), (211, 3), (211, 4), (211, 5), (211, 6), (211, 7), (212, 255), (213, 255), (214, 255), (216, 255), (217, 255), (218, 255)], 4)
set_option maxRecDepth 100000 in
theorem mjC_leastx_9 : mjCtr (mjSW 0 240 mjWd_leastx) 72 mjSm_leastx_9 := aiOk_ctr mjUW_ok (env := [(73, mjSm_leastx_8), (64, mjSm_leastx_2)]) (mjEnvC mjC_leastx_8 (mjEnvC mjC_leastx_2 (fun e he => (by cases he)))) (pr := []) (cuts := []) (n := 13) (by decide +kernel)
def mjSm_leastx_10 : MjSm := ([(0, 0, 3, 0, 0), (0, 0, 2, 0, 0)], [], [((0, 0, 17, 0, 0), [], [])], [], 1)
set_option maxRecDepth 100000 in
theorem mjC_leastx_10 : mjCtr (mjSW 0 240 mjWd_leastx) 48 mjSm_leastx_10 := aiOk_ctr mjUW_ok (env := []) (fun e he => (by cases he)) (pr := []) (cuts := []) (n := 9) (by decide +kernel)
def mjSm_leastx_11 : MjSm := ([(3, 209, 209, 0, 0), (0, 0, 3, 0, 0), (0, 0, 2, 0, 0), (0, 0, 99, 0, 0)], [], [((0, 0, 0, 0, 0), [], [])], [], 2)
set_option maxRecDepth 100000 in
theorem mjC_leastx_11 : mjCtr (mjSW 0 240 mjWd_leastx) 76 mjSm_leastx_11 := aiOk_ctr mjUW_ok (env := [(48, mjSm_leastx_10)]) (mjEnvC mjC_leastx_10 (fun e he => (by cases he))) (pr := []) (cuts := []) (n := 17) (by decide +kernel)
def mjSm_leastx_12 : MjSm := ([(3, 0, 0, 0, 0), (0, -2147483648, 2147483647, 0, 0)], [], [((0, -1, -1, 0, 0), [(1, -2147483648, -1)], []), ((0, -1, -1, 0, 0), [(1, 4, 2147483647)], []), ((0, -1, -1, 0, 0), [(1, 0, 3)], [])], [(210, 2), (210, 3), (210, 7), (211, 3), (211, 4), (211, 5), (211, 6), (211, 7), (212, 255), (213, 255), (214, 255), (216, 255), (217, 255), (218, 255)], 5)
set_option maxRecDepth 100000 in
theorem mjC_leastx_12 : mjCtr (mjSW 0 240 mjWd_leastx) 120 mjSm_leastx_12 := aiOk_ctr mjUW_ok (env := [(72, mjSm_leastx_9), (70, mjSm_leastx_1), (76, mjSm_leastx_11), (69, mjSm_leastx_0)]) (mjEnvC mjC_leastx_9 (mjEnvC mjC_leastx_1 (mjEnvC mjC_leastx_11 (mjEnvC mjC_leastx_0 (fun e he => (by cases he)))))) (pr := [1]) (cuts := [(33, ([(3, 0, 0, 0, 0), (0, 0, 3, 0, 0), (0, 0, 100, 0, 0), (9, 0, 0, 0, 0)], [], []), [(0, 0, 49967), (1, 2, 2147483647), (0, 0, 60000), (0, 0, 0), (0, 0, 0), (0, 0, 0), (0, 0, 0), (0, 0, 0)]), (41, ([(3, 0, 0, 0, 0), (0, 0, 3, 0, 0), (0, 0, 99, 0, 0), (0, 0, 3, 0, 0)], [], []), [(0, 0, 49967), (1, 2, 2147483647), (0, 0, 49959), (1, 3, 2147483647), (0, 0, 60000), (0, 0, 0), (0, 0, 0), (0, 0, 0)])]) (n := 18) (by decide +kernel)
def mjWd_leastm : MjWd := []
theorem mjWd_leastm_ok : mjWdB mjWd_leastm = true := by decide +kernel
def mjSm_leastm_0 : MjSm := ([(3, 240, 240, 0, 0)], [], [((0, 4, 4, 0, 0), [], [])], [], 1)
set_option maxRecDepth 100000 in
theorem mjC_leastm_0 : mjCtr (mjSW 240 290 mjWd_leastm) 220 mjSm_leastm_0 := aiOk_ctr mjUW_ok (env := []) (fun e he => (by cases he)) (pr := []) (cuts := []) (n := 9) (by decide +kernel)
def mjSm_leastm_1 : MjSm := ([(0, -2147483648, 2147483647, 0, 0), (0, 0, 0, 0, 0), (0, 3, 3, 0, 0)], [], [((0, 1, 1, 0, 0), [(0, 0, 3)], []), ((0, 0, 0, 0, 0), [(0, 4, 2147483647)], []), ((0, 0, 0, 0, 0), [(0, -2147483648, -1)], [])], [], 1)
set_option maxRecDepth 100000 in
theorem mjC_leastm_1 : mjCtr (mjSW 240 290 mjWd_leastm) 221 mjSm_leastm_1 := aiOk_ctr mjUW_ok (env := []) (fun e he => (by cases he)) (pr := [0]) (cuts := []) (n := 12) (by decide +kernel)
def mjSm_leastm_2 : MjSm := ([(3, 240, 240, 0, 0), (0, -2147483648, 2147483647, 0, 0)], [], [((0, 0, 0, 0, 0), [(1, -2147483648, -1)], []), ((0, 0, 0, 0, 0), [(1, 4, 2147483647)], []), ((0, 1, 1, 0, 0), [(1, 0, 3)], [])], [], 2)
set_option maxRecDepth 100000 in
theorem mjC_leastm_2 : mjCtr (mjSW 240 290 mjWd_leastm) 219 mjSm_leastm_2 := aiOk_ctr mjUW_ok (env := [(220, mjSm_leastm_0), (221, mjSm_leastm_1)]) (mjEnvC mjC_leastm_0 (mjEnvC mjC_leastm_1 (fun e he => (by cases he)))) (pr := [1]) (cuts := []) (n := 11) (by decide +kernel)
def mjSm_leastm_3 : MjSm := ([(3, 240, 240, 0, 0)], [], [((0, 3, 3, 0, 0), [], [])], [], 1)
set_option maxRecDepth 100000 in
theorem mjC_leastm_3 : mjCtr (mjSW 240 290 mjWd_leastm) 222 mjSm_leastm_3 := aiOk_ctr mjUW_ok (env := []) (fun e he => (by cases he)) (pr := []) (cuts := []) (n := 9) (by decide +kernel)
def mjSm_leastm_4 : MjSm := ([(3, 240, 240, 0, 0), (0, 0, 3, 0, 0), (0, 0, 0, 0, 0)], [], [((0, 0, 0, 0, 0), [], [])], [], 1)
set_option maxRecDepth 100000 in
theorem mjC_leastm_4 : mjCtr (mjSW 240 290 mjWd_leastm) 223 mjSm_leastm_4 := aiOk_ctr mjUW_ok (env := []) (fun e he => (by cases he)) (pr := []) (cuts := []) (n := 14) (by decide +kernel)
def mjSm_leastm_5 : MjSm := ([(3, 240, 240, 0, 0), (0, 0, 3, 0, 0), (0, 1, 1, 0, 0)], [], [((0, 0, 0, 0, 0), [], [])], [], 1)
set_option maxRecDepth 100000 in
theorem mjC_leastm_5 : mjCtr (mjSW 240 290 mjWd_leastm) 223 mjSm_leastm_5 := aiOk_ctr mjUW_ok (env := []) (fun e he => (by cases he)) (pr := []) (cuts := []) (n := 14) (by decide +kernel)
def mjSm_leastm_6 : MjSm := ([(3, 240, 240, 0, 0), (0, 0, 3, 0, 0), (0, 2, 2, 0, 0)], [], [((0, 0, 0, 0, 0), [], [])], [], 1)
set_option maxRecDepth 100000 in
theorem mjC_leastm_6 : mjCtr (mjSW 240 290 mjWd_leastm) 223 mjSm_leastm_6 := aiOk_ctr mjUW_ok (env := []) (fun e he => (by cases he)) (pr := []) (cuts := []) (n := 14) (by decide +kernel)
def mjSm_leastm_7 : MjSm := ([(3, 240, 240, 0, 0), (0, 0, 3, 0, 0), (0, 0, 0, 0, 0), (0, 0, 99, 0, 0)], [], [((0, 0, 0, 0, 0), [], [])], [], 2)
set_option maxRecDepth 100000 in
theorem mjC_leastm_7 : mjCtr (mjSW 240 290 mjWd_leastm) 225 mjSm_leastm_7 := aiOk_ctr mjUW_ok (env := [(223, mjSm_leastm_4)]) (mjEnvC mjC_leastm_4 (fun e he => (by cases he))) (pr := []) (cuts := []) (n := 10) (by decide +kernel)
def mjSm_leastm_8 : MjSm := ([(3, 240, 240, 0, 0), (0, 0, 3, 0, 0), (0, 1, 1, 0, 0), (0, 0, 99, 0, 0)], [], [((0, 0, 0, 0, 0), [], [])], [], 2)
set_option maxRecDepth 100000 in
theorem mjC_leastm_8 : mjCtr (mjSW 240 290 mjWd_leastm) 225 mjSm_leastm_8 := aiOk_ctr mjUW_ok (env := [(223, mjSm_leastm_5)]) (mjEnvC mjC_leastm_5 (fun e he => (by cases he))) (pr := []) (cuts := []) (n := 10) (by decide +kernel)
def mjSm_leastm_9 : MjSm := ([(3, 240, 240, 0, 0), (0, 0, 3, 0, 0), (0, 2, 2, 0, 0), (0, 0, 99, 0, 0)], [], [((0, 0, 0, 0, 0), [], [])], [], 2)
set_option maxRecDepth 100000 in
theorem mjC_leastm_9 : mjCtr (mjSW 240 290 mjWd_leastm) 225 mjSm_leastm_9 := aiOk_ctr mjUW_ok (env := [(223, mjSm_leastm_6)]) (mjEnvC mjC_leastm_6 (fun e he => (by cases he))) (pr := []) (cuts := []) (n := 10) (by decide +kernel)
def mjSm_leastm_10 : MjSm := ([(3, 240, 240, 0, 0), (0, 0, 3, 0, 0), (0, 0, 99, 0, 0)], [], [((0, 0, 0, 0, 0), [], [])], [], 3)
set_option maxRecDepth 100000 in
theorem mjC_leastm_10 : mjCtr (mjSW 240 290 mjWd_leastm) 244 mjSm_leastm_10 := aiOk_ctr mjUW_ok (env := [(222, mjSm_leastm_3), (225, mjSm_leastm_8), (225, mjSm_leastm_9), (225, mjSm_leastm_7)]) (mjEnvC mjC_leastm_3 (mjEnvC mjC_leastm_8 (mjEnvC mjC_leastm_9 (mjEnvC mjC_leastm_7 (fun e he => (by cases he)))))) (pr := []) (cuts := []) (n := 47) (by decide +kernel)
def mjSm_leastm_11 : MjSm := ([(3, 240, 240, 0, 0), (0, -2147483648, 2147483647, 0, 0)], [], [((0, -1, -1, 0, 0), [(1, 4, 2147483647)], []), ((0, -1, -1, 0, 0), [(1, -2147483648, -1)], []), ((0, -1, -1, 0, 0), [(1, 0, 3)], [])], [], 4)
set_option maxRecDepth 100000 in
theorem mjC_leastm_11 : mjCtr (mjSW 240 290 mjWd_leastm) 243 mjSm_leastm_11 := aiOk_ctr mjUW_ok (env := [(244, mjSm_leastm_10), (219, mjSm_leastm_2)]) (mjEnvC mjC_leastm_10 (mjEnvC mjC_leastm_2 (fun e he => (by cases he)))) (pr := [1]) (cuts := [(12, ([(3, 240, 240, 0, 0), (0, 0, 3, 0, 0), (0, 0, 100, 0, 0)], [], []), [(0, 0, 49988), (1, 2, 2147483647), (0, 0, 60000), (0, 0, 0), (0, 0, 0), (0, 0, 0), (0, 0, 0), (0, 0, 0)])]) (n := 13) (by decide +kernel)
set_option maxRecDepth 100000 in
theorem mjPair_least (sc : List Int32) (s1 : Int32)  : ∃ (v : Int32) (n1 : Nat) (w1 : MjW) (n2 : Nat) (w2 : MjW), mjEx mjTb mjMt sc n1 5 120 0 (mjEntry mjM_120.2.2.1 (.ref 0 :: [.int s1])) [] mjW0 = some (some (.int v), w1) ∧ mjEx mjTb mjMt sc n2 4 243 0 (mjEntry mjM_243.2.2.1 (.ref 240 :: [.int s1])) [] w1 = some (some (.int v), w2) ∧ mjShp w1 = mjShp mjW0 ∧ mjShp w2 = mjShp mjW0 := mj_pair (smx := mjSm_leastx_12) (smm := mjSm_leastm_11) mjC_leastx_12 mjC_leastm_11 mjWd_leastx_ok mjWd_leastm_ok (by decide +kernel) (by decide +kernel) (by decide +kernel) (by decide +kernel) (by decide +kernel) ⟨⟨0, rfl, rfl⟩, ⟨⟨s1, rfl, mjB.all s1⟩, trivial⟩⟩ ⟨⟨240, rfl, rfl⟩, ⟨⟨s1, rfl, mjB.all s1⟩, trivial⟩⟩ rfl rfl
