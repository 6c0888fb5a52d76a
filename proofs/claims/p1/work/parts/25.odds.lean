def mjWd_oddsx : MjWd := []
theorem mjWd_oddsx_ok : mjWdB mjWd_oddsx = true := by decide +kernel
def mjSm_oddsx_0 : MjSm := ([(0, 100000000, 100000000, 0, 0), (0, 100000000, 100000000, 0, 0)], [], [((0, 100000000, 100000000, 0, 0), [], [])], [], 1)
set_option maxRecDepth 100000 in
theorem mjC_oddsx_0 : mjCtr (mjSW 0 240 mjWd_oddsx) 156 mjSm_oddsx_0 := aiOk_ctr mjUW_ok (env := []) (fun e he => (by cases he)) (pr := []) (cuts := []) (n := 31) (by decide +kernel)
def mjSm_oddsx_1 : MjSm := ([(0, 1000000, 1000000, 0, 0), (0, 1000000, 1000000, 0, 0)], [], [((0, 1000000, 1000000, 0, 0), [], [])], [], 1)
set_option maxRecDepth 100000 in
theorem mjC_oddsx_1 : mjCtr (mjSW 0 240 mjWd_oddsx) 156 mjSm_oddsx_1 := aiOk_ctr mjUW_ok (env := []) (fun e he => (by cases he)) (pr := []) (cuts := []) (n := 31) (by decide +kernel)
def mjSm_oddsx_2 : MjSm := ([(0, 10000, 10000, 0, 0), (0, 10000, 10000, 0, 0)], [], [((0, 10000, 10000, 0, 0), [], [])], [], 1)
set_option maxRecDepth 100000 in
theorem mjC_oddsx_2 : mjCtr (mjSW 0 240 mjWd_oddsx) 156 mjSm_oddsx_2 := aiOk_ctr mjUW_ok (env := []) (fun e he => (by cases he)) (pr := []) (cuts := []) (n := 31) (by decide +kernel)
def mjSm_oddsx_3 : MjSm := ([(0, 100, 100, 0, 0), (0, 100, 100, 0, 0)], [], [((0, 100, 100, 0, 0), [], [])], [], 1)
set_option maxRecDepth 100000 in
theorem mjC_oddsx_3 : mjCtr (mjSW 0 240 mjWd_oddsx) 156 mjSm_oddsx_3 := aiOk_ctr mjUW_ok (env := []) (fun e he => (by cases he)) (pr := []) (cuts := []) (n := 31) (by decide +kernel)
def mjSm_oddsx_4 : MjSm := ([(0, 1, 1, 0, 0), (0, 1, 1, 0, 0)], [], [((0, 1, 1, 0, 0), [], [])], [], 1)
set_option maxRecDepth 100000 in
theorem mjC_oddsx_4 : mjCtr (mjSW 0 240 mjWd_oddsx) 156 mjSm_oddsx_4 := aiOk_ctr mjUW_ok (env := []) (fun e he => (by cases he)) (pr := []) (cuts := []) (n := 31) (by decide +kernel)
def mjSm_oddsx_5 : MjSm := ([(3, 0, 0, 0, 0), (0, -2147483648, 2147483647, 0, 0), (0, -2147483648, 2147483647, 0, 0)], [], [((0, -1, -1, 0, 0), [(1, 0, 4), (2, 2, 2147483647)], []), ((0, 1, 1, 0, 0), [(1, 4, 4), (2, 0, 0)], []), ((0, 1, 1, 0, 0), [(1, 4, 4), (2, 1, 1)], []), ((0, 1, 1, 0, 0), [(1, 3, 3), (2, 0, 0)], []), ((0, 1, 1, 0, 0), [(1, 3, 3), (2, 1, 1)], []), ((0, 1, 1, 0, 0), [(1, 2, 2), (2, 0, 0)], []), ((0, 1, 1, 0, 0), [(1, 2, 2), (2, 1, 1)], []), ((0, 1, 1, 0, 0), [(1, 1, 1), (2, 0, 0)], []), ((0, 1, 1, 0, 0), [(1, 1, 1), (2, 1, 1)], []), ((0, 1, 1, 0, 0), [(1, 0, 0), (2, 0, 0)], []), ((0, 1, 1, 0, 0), [(1, 0, 0), (2, 1, 1)], []), ((0, -1, -1, 0, 0), [(1, 0, 4), (2, -2147483648, -1)], []), ((0, -1, -1, 0, 0), [(1, 5, 2147483647)], []), ((0, -1, -1, 0, 0), [(1, -2147483648, -1)], [])], [], 2)
set_option maxRecDepth 100000 in
theorem mjC_oddsx_5 : mjCtr (mjSW 0 240 mjWd_oddsx) 155 mjSm_oddsx_5 := aiOk_ctr mjUW_ok (env := [(156, mjSm_oddsx_1), (156, mjSm_oddsx_0), (156, mjSm_oddsx_4), (156, mjSm_oddsx_2), (156, mjSm_oddsx_3)]) (mjEnvC mjC_oddsx_1 (mjEnvC mjC_oddsx_0 (mjEnvC mjC_oddsx_4 (mjEnvC mjC_oddsx_2 (mjEnvC mjC_oddsx_3 (fun e he => (by cases he))))))) (pr := [1, 2]) (cuts := []) (n := 103) (by decide +kernel)
def mjWd_oddsm : MjWd := []
theorem mjWd_oddsm_ok : mjWdB mjWd_oddsm = true := by decide +kernel
def mjSm_oddsm_0 : MjSm := ([(0, -2147483648, 2147483647, 0, 0), (0, 0, 0, 0, 0), (0, 4, 4, 0, 0)], [], [((0, 1, 1, 0, 0), [(0, 0, 4)], []), ((0, 0, 0, 0, 0), [(0, 5, 2147483647)], []), ((0, 0, 0, 0, 0), [(0, -2147483648, -1)], [])], [], 1)
set_option maxRecDepth 100000 in
theorem mjC_oddsm_0 : mjCtr (mjSW 240 290 mjWd_oddsm) 221 mjSm_oddsm_0 := aiOk_ctr mjUW_ok (env := []) (fun e he => (by cases he)) (pr := [0]) (cuts := []) (n := 12) (by decide +kernel)
def mjSm_oddsm_1 : MjSm := ([(0, -2147483648, 2147483647, 0, 0), (0, 0, 0, 0, 0), (0, 1, 1, 0, 0)], [], [((0, 1, 1, 0, 0), [(0, 0, 1)], []), ((0, 0, 0, 0, 0), [(0, 2, 2147483647)], []), ((0, 0, 0, 0, 0), [(0, -2147483648, -1)], [])], [], 1)
set_option maxRecDepth 100000 in
theorem mjC_oddsm_1 : mjCtr (mjSW 240 290 mjWd_oddsm) 221 mjSm_oddsm_1 := aiOk_ctr mjUW_ok (env := []) (fun e he => (by cases he)) (pr := [0]) (cuts := []) (n := 12) (by decide +kernel)
def mjSm_oddsm_2 : MjSm := ([(0, 100, 100, 0, 0), (0, 0, 4, 0, 0)], [], [((0, 100000000, 100000000, 0, 0), [(1, 4, 4)], []), ((0, 1000000, 1000000, 0, 0), [(1, 3, 3)], []), ((0, 10000, 10000, 0, 0), [(1, 2, 2)], []), ((0, 100, 100, 0, 0), [(1, 1, 1)], []), ((0, 1, 1, 0, 0), [(1, 0, 0)], [])], [], 1)
set_option maxRecDepth 100000 in
theorem mjC_oddsm_2 : mjCtr (mjSW 240 290 mjWd_oddsm) 286 mjSm_oddsm_2 := aiOk_ctr mjUW_ok (env := []) (fun e he => (by cases he)) (pr := [1]) (cuts := []) (n := 48) (by decide +kernel)
def mjSm_oddsm_3 : MjSm := ([(0, 100, 100, 0, 0), (0, 0, 0, 0, 0)], [], [((0, 1, 1, 0, 0), [], [])], [], 1)
set_option maxRecDepth 100000 in
theorem mjC_oddsm_3 : mjCtr (mjSW 240 290 mjWd_oddsm) 286 mjSm_oddsm_3 := aiOk_ctr mjUW_ok (env := []) (fun e he => (by cases he)) (pr := []) (cuts := []) (n := 12) (by decide +kernel)
def mjSm_oddsm_4 : MjSm := ([(0, 1, 1, 0, 0), (0, 1, 1, 0, 0)], [], [((0, 1, 1, 0, 0), [], [])], [], 1)
set_option maxRecDepth 100000 in
theorem mjC_oddsm_4 : mjCtr (mjSW 240 290 mjWd_oddsm) 297 mjSm_oddsm_4 := aiOk_ctr mjUW_ok (env := []) (fun e he => (by cases he)) (pr := []) (cuts := []) (n := 22) (by decide +kernel)
def mjSm_oddsm_5 : MjSm := ([(0, 100, 100, 0, 0), (0, 1, 1, 0, 0)], [], [((0, 100, 100, 0, 0), [], [])], [], 1)
set_option maxRecDepth 100000 in
theorem mjC_oddsm_5 : mjCtr (mjSW 240 290 mjWd_oddsm) 286 mjSm_oddsm_5 := aiOk_ctr mjUW_ok (env := []) (fun e he => (by cases he)) (pr := []) (cuts := []) (n := 21) (by decide +kernel)
def mjSm_oddsm_6 : MjSm := ([(0, 100, 100, 0, 0), (0, 100, 100, 0, 0)], [], [((0, 100, 100, 0, 0), [], [])], [], 1)
set_option maxRecDepth 100000 in
theorem mjC_oddsm_6 : mjCtr (mjSW 240 290 mjWd_oddsm) 297 mjSm_oddsm_6 := aiOk_ctr mjUW_ok (env := []) (fun e he => (by cases he)) (pr := []) (cuts := []) (n := 22) (by decide +kernel)
def mjSm_oddsm_7 : MjSm := ([(0, 100, 100, 0, 0), (0, 2, 2, 0, 0)], [], [((0, 10000, 10000, 0, 0), [], [])], [], 1)
set_option maxRecDepth 100000 in
theorem mjC_oddsm_7 : mjCtr (mjSW 240 290 mjWd_oddsm) 286 mjSm_oddsm_7 := aiOk_ctr mjUW_ok (env := []) (fun e he => (by cases he)) (pr := []) (cuts := []) (n := 30) (by decide +kernel)
def mjSm_oddsm_8 : MjSm := ([(0, 10000, 10000, 0, 0), (0, 10000, 10000, 0, 0)], [], [((0, 10000, 10000, 0, 0), [], [])], [], 1)
set_option maxRecDepth 100000 in
theorem mjC_oddsm_8 : mjCtr (mjSW 240 290 mjWd_oddsm) 297 mjSm_oddsm_8 := aiOk_ctr mjUW_ok (env := []) (fun e he => (by cases he)) (pr := []) (cuts := []) (n := 22) (by decide +kernel)
def mjSm_oddsm_9 : MjSm := ([(0, 100, 100, 0, 0), (0, 3, 3, 0, 0)], [], [((0, 1000000, 1000000, 0, 0), [], [])], [], 1)
set_option maxRecDepth 100000 in
theorem mjC_oddsm_9 : mjCtr (mjSW 240 290 mjWd_oddsm) 286 mjSm_oddsm_9 := aiOk_ctr mjUW_ok (env := []) (fun e he => (by cases he)) (pr := []) (cuts := []) (n := 39) (by decide +kernel)
def mjSm_oddsm_10 : MjSm := ([(0, 1000000, 1000000, 0, 0), (0, 1000000, 1000000, 0, 0)], [], [((0, 1000000, 1000000, 0, 0), [], [])], [], 1)
set_option maxRecDepth 100000 in
theorem mjC_oddsm_10 : mjCtr (mjSW 240 290 mjWd_oddsm) 297 mjSm_oddsm_10 := aiOk_ctr mjUW_ok (env := []) (fun e he => (by cases he)) (pr := []) (cuts := []) (n := 22) (by decide +kernel)
def mjSm_oddsm_11 : MjSm := ([(0, 100, 100, 0, 0), (0, 4, 4, 0, 0)], [], [((0, 100000000, 100000000, 0, 0), [], [])], [], 1)
set_option maxRecDepth 100000 in
theorem mjC_oddsm_11 : mjCtr (mjSW 240 290 mjWd_oddsm) 286 mjSm_oddsm_11 := aiOk_ctr mjUW_ok (env := []) (fun e he => (by cases he)) (pr := []) (cuts := []) (n := 48) (by decide +kernel)
def mjSm_oddsm_12 : MjSm := ([(0, 100000000, 100000000, 0, 0), (0, 100000000, 100000000, 0, 0)], [], [((0, 100000000, 100000000, 0, 0), [], [])], [], 1)
set_option maxRecDepth 100000 in
theorem mjC_oddsm_12 : mjCtr (mjSW 240 290 mjWd_oddsm) 297 mjSm_oddsm_12 := aiOk_ctr mjUW_ok (env := []) (fun e he => (by cases he)) (pr := []) (cuts := []) (n := 22) (by decide +kernel)
def mjSm_oddsm_13 : MjSm := ([(3, 240, 240, 0, 0), (0, -2147483648, 2147483647, 0, 0), (0, -2147483648, 2147483647, 0, 0)], [], [((0, -1, -1, 0, 0), [(1, -2147483648, -1)], []), ((0, -1, -1, 0, 0), [(1, 5, 2147483647)], []), ((0, -1, -1, 0, 0), [(1, 0, 4), (2, -2147483648, -1)], []), ((0, -1, -1, 0, 0), [(1, 0, 4), (2, 2, 2147483647)], []), ((0, 1, 1, 0, 0), [(1, 0, 0), (2, 0, 0)], []), ((0, 1, 1, 0, 0), [(1, 0, 0), (2, 1, 1)], []), ((0, 1, 1, 0, 0), [(1, 1, 1), (2, 0, 0)], []), ((0, 1, 1, 0, 0), [(1, 1, 1), (2, 1, 1)], []), ((0, 1, 1, 0, 0), [(1, 2, 2), (2, 0, 0)], []), ((0, 1, 1, 0, 0), [(1, 2, 2), (2, 1, 1)], []), ((0, 1, 1, 0, 0), [(1, 3, 3), (2, 0, 0)], []), ((0, 1, 1, 0, 0), [(1, 3, 3), (2, 1, 1)], []), ((0, 1, 1, 0, 0), [(1, 4, 4), (2, 0, 0)], []), ((0, 1, 1, 0, 0), [(1, 4, 4), (2, 1, 1)], [])], [], 2)
set_option maxRecDepth 100000 in
theorem mjC_oddsm_13 : mjCtr (mjSW 240 290 mjWd_oddsm) 296 mjSm_oddsm_13 := aiOk_ctr mjUW_ok (env := [(286, mjSm_oddsm_7), (297, mjSm_oddsm_12), (297, mjSm_oddsm_4), (286, mjSm_oddsm_3), (286, mjSm_oddsm_9), (286, mjSm_oddsm_11), (286, mjSm_oddsm_5), (297, mjSm_oddsm_10), (297, mjSm_oddsm_6), (297, mjSm_oddsm_8), (286, mjSm_oddsm_2), (221, mjSm_oddsm_0), (221, mjSm_oddsm_1)]) (mjEnvC mjC_oddsm_7 (mjEnvC mjC_oddsm_12 (mjEnvC mjC_oddsm_4 (mjEnvC mjC_oddsm_3 (mjEnvC mjC_oddsm_9 (mjEnvC mjC_oddsm_11 (mjEnvC mjC_oddsm_5 (mjEnvC mjC_oddsm_10 (mjEnvC mjC_oddsm_6 (mjEnvC mjC_oddsm_8 (mjEnvC mjC_oddsm_2 (mjEnvC mjC_oddsm_0 (mjEnvC mjC_oddsm_1 (fun e he => (by cases he))))))))))))))) (pr := [1, 2]) (cuts := []) (n := 36) (by decide +kernel)
set_option maxRecDepth 100000 in
theorem mjPair_odds (sc : List Int32) (s1 s2 : Int32)  : ∃ (v : Int32) (n1 : Nat) (w1 : MjW) (n2 : Nat) (w2 : MjW), mjEx mjTb mjMt sc n1 2 155 0 (mjEntry mjM_155.2.2.1 (.ref 0 :: [.int s1, .int s2])) [] mjW0 = some (some (.int v), w1) ∧ mjEx mjTb mjMt sc n2 2 296 0 (mjEntry mjM_296.2.2.1 (.ref 240 :: [.int s1, .int s2])) [] w1 = some (some (.int v), w2) ∧ mjShp w1 = mjShp mjW0 ∧ mjShp w2 = mjShp mjW0 := mj_pair (smx := mjSm_oddsx_5) (smm := mjSm_oddsm_13) mjC_oddsx_5 mjC_oddsm_13 mjWd_oddsx_ok mjWd_oddsm_ok (by decide +kernel) (by decide +kernel) (by decide +kernel) (by decide +kernel) (by decide +kernel) ⟨⟨0, rfl, rfl⟩, ⟨⟨s1, rfl, mjB.all s1⟩, ⟨⟨s2, rfl, mjB.all s2⟩, trivial⟩⟩⟩ ⟨⟨240, rfl, rfl⟩, ⟨⟨s1, rfl, mjB.all s1⟩, ⟨⟨s2, rfl, mjB.all s2⟩, trivial⟩⟩⟩ rfl rfl
