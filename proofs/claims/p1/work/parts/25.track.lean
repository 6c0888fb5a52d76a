def mjWd_track0x : MjWd := []
theorem mjWd_track0x_ok : mjWdB mjWd_track0x = true := by decide +kernel
def mjSm_track0x_0 : MjSm := ([(3, 193, 193, 0, 0), (0, -2147483648, -1, 0, 0)], [], [((0, 0, 0, 0, 0), [], [])], [], 1)
set_option maxRecDepth 100000 in
theorem mjC_track0x_0 : mjCtr (mjSW 0 240 mjWd_track0x) 69 mjSm_track0x_0 := aiOk_ctr mjUW_ok (env := []) (fun e he => (by cases he)) (pr := []) (cuts := []) (n := 7) (by decide +kernel)
def mjSm_track0x_1 : MjSm := ([(3, 193, 193, 0, 0), (0, -2147483648, -1, 0, 0), (0, -2147483648, 2147483647, 0, 0)], [], [((0, 0, 0, 0, 0), [], [])], [], 2)
set_option maxRecDepth 100000 in
theorem mjC_track0x_1 : mjCtr (mjSW 0 240 mjWd_track0x) 68 mjSm_track0x_1 := aiOk_ctr mjUW_ok (env := [(69, mjSm_track0x_0)]) (mjEnvC mjC_track0x_0 (fun e he => (by cases he))) (pr := []) (cuts := []) (n := 9) (by decide +kernel)
def mjSm_track0x_2 : MjSm := ([(3, 0, 0, 0, 0), (0, -2147483648, -1, 0, 0), (0, -2147483648, 2147483647, 0, 0), (0, -2147483648, 2147483647, 0, 0)], [], [((0, -2, -2, 0, 0), [], [])], [], 20)
set_option maxRecDepth 100000 in
theorem mjC_track0x_2 : mjCtr (mjSW 0 240 mjWd_track0x) 118 mjSm_track0x_2 := aiOk_ctr mjUW_ok (env := [(68, mjSm_track0x_1)]) (mjEnvC mjC_track0x_1 (fun e he => (by cases he))) (pr := []) (cuts := []) (n := 11) (by decide +kernel)
def mjWd_track0m : MjWd := []
theorem mjWd_track0m_ok : mjWdB mjWd_track0m = true := by decide +kernel
def mjSm_track0m_0 : MjSm := ([(3, 240, 240, 0, 0)], [], [((0, 4, 4, 0, 0), [], [])], [], 1)
set_option maxRecDepth 100000 in
theorem mjC_track0m_0 : mjCtr (mjSW 240 290 mjWd_track0m) 220 mjSm_track0m_0 := aiOk_ctr mjUW_ok (env := []) (fun e he => (by cases he)) (pr := []) (cuts := []) (n := 9) (by decide +kernel)
def mjSm_track0m_1 : MjSm := ([(0, -2147483648, -1, 0, 0), (0, 0, 0, 0, 0), (0, 3, 3, 0, 0)], [], [((0, 0, 0, 0, 0), [], [])], [], 1)
set_option maxRecDepth 100000 in
theorem mjC_track0m_1 : mjCtr (mjSW 240 290 mjWd_track0m) 221 mjSm_track0m_1 := aiOk_ctr mjUW_ok (env := []) (fun e he => (by cases he)) (pr := []) (cuts := []) (n := 8) (by decide +kernel)
def mjSm_track0m_2 : MjSm := ([(3, 240, 240, 0, 0), (0, -2147483648, -1, 0, 0)], [], [((0, 0, 0, 0, 0), [], [])], [], 2)
set_option maxRecDepth 100000 in
theorem mjC_track0m_2 : mjCtr (mjSW 240 290 mjWd_track0m) 219 mjSm_track0m_2 := aiOk_ctr mjUW_ok (env := [(220, mjSm_track0m_0), (221, mjSm_track0m_1)]) (mjEnvC mjC_track0m_0 (mjEnvC mjC_track0m_1 (fun e he => (by cases he)))) (pr := []) (cuts := []) (n := 11) (by decide +kernel)
def mjSm_track0m_3 : MjSm := ([(3, 240, 240, 0, 0), (0, -2147483648, -1, 0, 0), (0, -2147483648, 2147483647, 0, 0)], [], [((0, 0, 0, 0, 0), [], [])], [], 3)
set_option maxRecDepth 100000 in
theorem mjC_track0m_3 : mjCtr (mjSW 240 290 mjWd_track0m) 218 mjSm_track0m_3 := aiOk_ctr mjUW_ok (env := [(219, mjSm_track0m_2)]) (mjEnvC mjC_track0m_2 (fun e he => (by cases he))) (pr := []) (cuts := []) (n := 9) (by decide +kernel)
def mjSm_track0m_4 : MjSm := ([(3, 240, 240, 0, 0), (0, -2147483648, -1, 0, 0), (0, -2147483648, 2147483647, 0, 0), (0, -2147483648, 2147483647, 0, 0)], [], [((0, -2, -2, 0, 0), [], [])], [], 20)
set_option maxRecDepth 100000 in
theorem mjC_track0m_4 : mjCtr (mjSW 240 290 mjWd_track0m) 240 mjSm_track0m_4 := aiOk_ctr mjUW_ok (env := [(218, mjSm_track0m_3)]) (mjEnvC mjC_track0m_3 (fun e he => (by cases he))) (pr := []) (cuts := []) (n := 10) (by decide +kernel)
set_option maxRecDepth 100000 in
theorem mjPair_track_0 (sc : List Int32) (s1 s2 s3 : Int32) (h : mjB s1 (-2147483648) (-1)) : ∃ (v : Int32) (n1 : Nat) (w1 : MjW) (n2 : Nat) (w2 : MjW), mjEx mjTb mjMt sc n1 20 118 0 (mjEntry mjM_118.2.2.1 (.ref 0 :: [.int s1, .int s2, .int s3])) [] mjW0 = some (some (.int v), w1) ∧ mjEx mjTb mjMt sc n2 20 240 0 (mjEntry mjM_240.2.2.1 (.ref 240 :: [.int s1, .int s2, .int s3])) [] w1 = some (some (.int v), w2) ∧ mjShp w1 = mjShp mjW0 ∧ mjShp w2 = mjShp mjW0 := mj_pair (smx := mjSm_track0x_2) (smm := mjSm_track0m_4) mjC_track0x_2 mjC_track0m_4 mjWd_track0x_ok mjWd_track0m_ok (by decide +kernel) (by decide +kernel) (by decide +kernel) (by decide +kernel) (by decide +kernel) ⟨⟨0, rfl, rfl⟩, ⟨⟨s1, rfl, h⟩, ⟨⟨s2, rfl, mjB.all s2⟩, ⟨⟨s3, rfl, mjB.all s3⟩, trivial⟩⟩⟩⟩ ⟨⟨240, rfl, rfl⟩, ⟨⟨s1, rfl, h⟩, ⟨⟨s2, rfl, mjB.all s2⟩, ⟨⟨s3, rfl, mjB.all s3⟩, trivial⟩⟩⟩⟩ rfl rfl
def mjWd_track1x : MjWd := []
theorem mjWd_track1x_ok : mjWdB mjWd_track1x = true := by decide +kernel
def mjSm_track1x_0 : MjSm := ([(3, 193, 193, 0, 0), (0, 0, 0, 0, 0)], [], [((0, 1, 1, 0, 0), [], [])], [], 1)
set_option maxRecDepth 100000 in
theorem mjC_track1x_0 : mjCtr (mjSW 0 240 mjWd_track1x) 69 mjSm_track1x_0 := aiOk_ctr mjUW_ok (env := []) (fun e he => (by cases he)) (pr := []) (cuts := []) (n := 15) (by decide +kernel)
def mjSm_track1x_1 : MjSm := ([(3, 193, 193, 0, 0), (0, 0, 0, 0, 0), (0, -2147483648, 2147483647, 0, 0)], [], [((0, 1, 1, 0, 0), [(2, 0, 2)], []), ((0, 0, 0, 0, 0), [(2, 3, 2147483647)], []), ((0, 0, 0, 0, 0), [(2, -2147483648, -1)], [])], [], 2)
set_option maxRecDepth 100000 in
theorem mjC_track1x_1 : mjCtr (mjSW 0 240 mjWd_track1x) 68 mjSm_track1x_1 := aiOk_ctr mjUW_ok (env := [(69, mjSm_track1x_0)]) (mjEnvC mjC_track1x_0 (fun e he => (by cases he))) (pr := [2]) (cuts := []) (n := 19) (by decide +kernel)
def mjSm_track1x_2 : MjSm := ([(3, 18, 18, 0, 0)], [], [((3, 20, 20, 0, 0), [], [])], [], 1)
set_option maxRecDepth 100000 in
theorem mjC_track1x_2 : mjCtr (mjSW 0 240 mjWd_track1x) 70 mjSm_track1x_2 := aiOk_ctr mjUW_ok (env := []) (fun e he => (by cases he)) (pr := []) (cuts := []) (n := 9) (by decide +kernel)
def mjSm_track1x_3 : MjSm := ([(3, 210, 210, 0, 0), (3, 20, 20, 0, 0)], [], [((7, 0, 0, 0, 0), [], [])], [(211, 3), (211, 4), (211, 5), (211, 6), (211, 7), (212, 255), (213, 255), (214, 255)], 1)
set_option maxRecDepth 100000 in
theorem mjC_track1x_3 : mjCtr (mjSW 0 240 mjWd_track1x) 64 mjSm_track1x_3 := aiOk_ctr mjUW_ok (env := []) (fun e he => (by cases he)) (pr := []) (cuts := []) (n := 48) (by decide +kernel)
def mjSm_track1x_4 : MjSm := ([(3, 216, 216, 0, 0), (0, 0, 0, 0, 0)], [], [((7, 0, 0, 0, 0), [], [])], [(217, 255)], 1)
set_option maxRecDepth 100000 in
theorem mjC_track1x_4 : mjCtr (mjSW 0 240 mjWd_track1x) 6 mjSm_track1x_4 := aiOk_ctr mjUW_ok (env := []) (fun e he => (by cases he)) (pr := []) (cuts := [(5, ([(3, 216, 216, 0, 0), (0, 0, 0, 0, 0), (0, 0, 6, 0, 0), (0, 6, 6, 0, 0)], [], []), [(0, 0, 49995), (1, 2, 2147483647), (0, 0, 60000), (0, 0, 0), (0, 0, 0), (0, 0, 0), (0, 0, 0), (0, 0, 0)])]) (n := 12) (by decide +kernel)
def mjSm_track1x_5 : MjSm := ([(3, 217, 217, 0, 0), (0, 0, 0, 0, 0)], [], [((7, 0, 0, 0, 0), [], [])], [(218, 255)], 1)
set_option maxRecDepth 100000 in
theorem mjC_track1x_5 : mjCtr (mjSW 0 240 mjWd_track1x) 6 mjSm_track1x_5 := aiOk_ctr mjUW_ok (env := []) (fun e he => (by cases he)) (pr := []) (cuts := [(5, ([(3, 217, 217, 0, 0), (0, 0, 0, 0, 0), (0, 0, 6, 0, 0), (0, 6, 6, 0, 0)], [], []), [(0, 0, 49995), (1, 2, 2147483647), (0, 0, 60000), (0, 0, 0), (0, 0, 0), (0, 0, 0), (0, 0, 0), (0, 0, 0)])]) (n := 12) (by decide +kernel)
def mjSm_track1x_6 : MjSm := ([(3, 215, 215, 0, 0), (0, 0, 0, 0, 0)], [], [((7, 0, 0, 0, 0), [], [])], [(216, 255)], 1)
set_option maxRecDepth 100000 in
theorem mjC_track1x_6 : mjCtr (mjSW 0 240 mjWd_track1x) 6 mjSm_track1x_6 := aiOk_ctr mjUW_ok (env := []) (fun e he => (by cases he)) (pr := []) (cuts := [(5, ([(3, 215, 215, 0, 0), (0, 0, 0, 0, 0), (0, 0, 6, 0, 0), (0, 6, 6, 0, 0)], [], []), [(0, 0, 49995), (1, 2, 2147483647), (0, 0, 60000), (0, 0, 0), (0, 0, 0), (0, 0, 0), (0, 0, 0), (0, 0, 0)])]) (n := 12) (by decide +kernel)
def mjSm_track1x_7 : MjSm := ([(3, 193, 193, 0, 0), (3, 210, 210, 0, 0), (0, 0, 0, 0, 0)], [], [((0, 0, 0, 0, 0), [], [])], [], 1)
set_option maxRecDepth 100000 in
theorem mjC_track1x_7 : mjCtr (mjSW 0 240 mjWd_track1x) 75 mjSm_track1x_7 := aiOk_ctr mjUW_ok (env := []) (fun e he => (by cases he)) (pr := []) (cuts := [(5, ([(3, 193, 193, 0, 0), (3, 210, 210, 0, 0), (0, 0, 0, 0, 0), (0, 0, 0, 0, 0), (0, 0, 0, 0, 0), (9, 0, 0, 0, 0)], [], []), [(0, 0, 49995), (1, 4, 2147483647), (0, 0, 60000), (0, 0, 0), (0, 0, 0), (0, 0, 0), (0, 0, 0), (0, 0, 0)])]) (n := 9) (by decide +kernel)
def mjSm_track1x_8 : MjSm := ([(3, 209, 209, 0, 0)], [], [((7, 0, 0, 0, 0), [], [])], [(216, 255)], 2)
set_option maxRecDepth 100000 in
theorem mjC_track1x_8 : mjCtr (mjSW 0 240 mjWd_track1x) 74 mjSm_track1x_8 := aiOk_ctr mjUW_ok (env := [(6, mjSm_track1x_6), (75, mjSm_track1x_7)]) (mjEnvC mjC_track1x_6 (mjEnvC mjC_track1x_7 (fun e he => (by cases he)))) (pr := []) (cuts := [(32, ([(3, 209, 209, 0, 0), (0, 0, 0, 0, 0), (0, 0, 0, 0, 0)], [], []), [(0, 0, 49968), (1, 2, 2147483647), (0, 0, 60000), (0, 0, 0), (0, 0, 0), (0, 0, 0), (0, 0, 0), (0, 0, 0)])]) (n := 20) (by decide +kernel)
def mjSm_track1x_9 : MjSm := ([(3, 209, 209, 0, 0), (3, 193, 193, 0, 0), (3, 210, 210, 0, 0)], [], [((7, 0, 0, 0, 0), [], [])], [(210, 2), (210, 3), (210, 7), (216, 255), (217, 255), (218, 255)], 3)
set_option maxRecDepth 100000 in
theorem mjC_track1x_9 : mjCtr (mjSW 0 240 mjWd_track1x) 73 mjSm_track1x_9 := aiOk_ctr mjUW_ok (env := [(6, mjSm_track1x_5), (6, mjSm_track1x_4), (74, mjSm_track1x_8)]) (mjEnvC mjC_track1x_5 (mjEnvC mjC_track1x_4 (mjEnvC mjC_track1x_8 (fun e he => (by cases he))))) (pr := []) (cuts := []) (n := 23) (by decide +kernel)
def mjSm_track1x_10 : MjSm := ([(3, 209, 209, 0, 0), (3, 193, 193, 0, 0), (3, 20, 20, 0, 0)], [], [((7, 0, 0, 0, 0), [], [])], [(210, 2), (210, 3), (210, 7), (211, 3), (211, 4), (211, 5), (211, 6), (211, 7), (212, 255), (213, 255), (214, 255), (216, 255), (217, 255), (218, 255)], 4)
set_option maxRecDepth 100000 in
theorem mjC_track1x_10 : mjCtr (mjSW 0 240 mjWd_track1x) 72 mjSm_track1x_10 := aiOk_ctr mjUW_ok (env := [(73, mjSm_track1x_9), (64, mjSm_track1x_3)]) (mjEnvC mjC_track1x_9 (mjEnvC mjC_track1x_3 (fun e he => (by cases he)))) (pr := []) (cuts := []) (n := 13) (by decide +kernel)
def mjSm_track1x_11 : MjSm := ([(0, 0, 0, 0, 0), (0, 0, 2, 0, 0)], [], [((0, 0, 2, 0, 0), [], [])], [], 1)
set_option maxRecDepth 100000 in
theorem mjC_track1x_11 : mjCtr (mjSW 0 240 mjWd_track1x) 48 mjSm_track1x_11 := aiOk_ctr mjUW_ok (env := []) (fun e he => (by cases he)) (pr := []) (cuts := []) (n := 9) (by decide +kernel)
def mjSm_track1x_12 : MjSm := ([(3, 209, 209, 0, 0), (0, 0, 2, 0, 0), (0, 0, 0, 0, 0)], [], [((7, 0, 0, 0, 0), [], [])], [(210, 9)], 1)
set_option maxRecDepth 100000 in
theorem mjC_track1x_12 : mjCtr (mjSW 0 240 mjWd_track1x) 92 mjSm_track1x_12 := aiOk_ctr mjUW_ok (env := []) (fun e he => (by cases he)) (pr := []) (cuts := []) (n := 16) (by decide +kernel)
def mjSm_track1x_13 : MjSm := ([(0, 0, 0, 0, 0), (0, 1, 2, 0, 0)], [], [((0, 1, 2, 0, 0), [], [])], [], 1)
set_option maxRecDepth 100000 in
theorem mjC_track1x_13 : mjCtr (mjSW 0 240 mjWd_track1x) 48 mjSm_track1x_13 := aiOk_ctr mjUW_ok (env := []) (fun e he => (by cases he)) (pr := []) (cuts := []) (n := 9) (by decide +kernel)
def mjSm_track1x_14 : MjSm := ([(3, 209, 209, 0, 0), (0, 1, 2, 0, 0), (0, 0, 0, 0, 0)], [], [((7, 0, 0, 0, 0), [], [])], [(210, 9)], 1)
set_option maxRecDepth 100000 in
theorem mjC_track1x_14 : mjCtr (mjSW 0 240 mjWd_track1x) 92 mjSm_track1x_14 := aiOk_ctr mjUW_ok (env := []) (fun e he => (by cases he)) (pr := []) (cuts := []) (n := 16) (by decide +kernel)
def mjSm_track1x_15 : MjSm := ([(3, 209, 209, 0, 0), (0, 0, 0, 0, 0), (0, 0, 2, 0, 0), (0, 0, 0, 0, 0)], [], [((7, 0, 0, 0, 0), [], [])], [(210, 8), (210, 9)], 2)
set_option maxRecDepth 100000 in
theorem mjC_track1x_15 : mjCtr (mjSW 0 240 mjWd_track1x) 91 mjSm_track1x_15 := aiOk_ctr mjUW_ok (env := [(69, mjSm_track1x_0), (92, mjSm_track1x_14), (48, mjSm_track1x_13), (92, mjSm_track1x_12), (48, mjSm_track1x_11)]) (mjEnvC mjC_track1x_0 (mjEnvC mjC_track1x_14 (mjEnvC mjC_track1x_13 (mjEnvC mjC_track1x_12 (mjEnvC mjC_track1x_11 (fun e he => (by cases he))))))) (pr := []) (cuts := [(25, ([(3, 209, 209, 0, 0), (0, 0, 0, 0, 0), (0, 0, 2, 0, 0), (0, 0, 0, 0, 0), (0, 1, 3, 0, 0), (9, 0, 0, 0, 0)], [], []), [(0, 0, 49975), (1, 4, 2147483647), (0, 0, 60000), (0, 0, 0), (0, 0, 0), (0, 0, 0), (0, 0, 0), (0, 0, 0)])]) (n := 43) (by decide +kernel)
def mjSm_track1x_16 : MjSm := ([(3, 209, 209, 0, 0), (0, 0, 0, 0, 0), (0, 0, 2, 0, 0)], [], [((7, 0, 0, 0, 0), [], [])], [(210, 8), (210, 9)], 3)
set_option maxRecDepth 100000 in
theorem mjC_track1x_16 : mjCtr (mjSW 0 240 mjWd_track1x) 119 mjSm_track1x_16 := aiOk_ctr mjUW_ok (env := [(91, mjSm_track1x_15)]) (mjEnvC mjC_track1x_15 (fun e he => (by cases he))) (pr := []) (cuts := []) (n := 9) (by decide +kernel)
def mjSm_track1x_17 : MjSm := ([(3, 0, 0, 0, 0), (0, 0, 0, 0, 0), (0, -2147483648, 2147483647, 0, 0), (0, -2147483648, 2147483647, 0, 0)], [], [((0, -2, -2, 0, 0), [(2, -2147483648, -1)], []), ((0, -2, -2, 0, 0), [(2, 3, 2147483647)], []), ((0, -2, -2, 0, 0), [(2, 0, 2), (3, 2, 2147483647)], []), ((0, 0, 0, 0, 0), [(2, 0, 2), (3, 0, 0)], []), ((0, 0, 0, 0, 0), [(2, 0, 2), (3, 1, 1)], []), ((0, -2, -2, 0, 0), [(2, 0, 2), (3, -2147483648, -1)], [])], [(210, 2), (210, 3), (210, 7), (210, 8), (210, 9), (211, 3), (211, 4), (211, 5), (211, 6), (211, 7), (212, 255), (213, 255), (214, 255), (216, 255), (217, 255), (218, 255)], 20)
set_option maxRecDepth 100000 in
theorem mjC_track1x_17 : mjCtr (mjSW 0 240 mjWd_track1x) 118 mjSm_track1x_17 := aiOk_ctr mjUW_ok (env := [(72, mjSm_track1x_10), (70, mjSm_track1x_2), (119, mjSm_track1x_16), (68, mjSm_track1x_1)]) (mjEnvC mjC_track1x_10 (mjEnvC mjC_track1x_2 (mjEnvC mjC_track1x_16 (mjEnvC mjC_track1x_1 (fun e he => (by cases he)))))) (pr := [2, 3]) (cuts := []) (n := 34) (by decide +kernel)
def mjWd_track1m : MjWd := []
theorem mjWd_track1m_ok : mjWdB mjWd_track1m = true := by decide +kernel
def mjSm_track1m_0 : MjSm := ([(3, 240, 240, 0, 0)], [], [((0, 4, 4, 0, 0), [], [])], [], 1)
set_option maxRecDepth 100000 in
theorem mjC_track1m_0 : mjCtr (mjSW 240 290 mjWd_track1m) 220 mjSm_track1m_0 := aiOk_ctr mjUW_ok (env := []) (fun e he => (by cases he)) (pr := []) (cuts := []) (n := 9) (by decide +kernel)
def mjSm_track1m_1 : MjSm := ([(0, 0, 0, 0, 0), (0, 0, 0, 0, 0), (0, 3, 3, 0, 0)], [], [((0, 1, 1, 0, 0), [], [])], [], 1)
set_option maxRecDepth 100000 in
theorem mjC_track1m_1 : mjCtr (mjSW 240 290 mjWd_track1m) 221 mjSm_track1m_1 := aiOk_ctr mjUW_ok (env := []) (fun e he => (by cases he)) (pr := []) (cuts := []) (n := 12) (by decide +kernel)
def mjSm_track1m_2 : MjSm := ([(3, 240, 240, 0, 0), (0, 0, 0, 0, 0)], [], [((0, 1, 1, 0, 0), [], [])], [], 2)
set_option maxRecDepth 100000 in
theorem mjC_track1m_2 : mjCtr (mjSW 240 290 mjWd_track1m) 219 mjSm_track1m_2 := aiOk_ctr mjUW_ok (env := [(221, mjSm_track1m_1), (220, mjSm_track1m_0)]) (mjEnvC mjC_track1m_1 (mjEnvC mjC_track1m_0 (fun e he => (by cases he)))) (pr := []) (cuts := []) (n := 11) (by decide +kernel)
def mjSm_track1m_3 : MjSm := ([(3, 240, 240, 0, 0)], [], [((0, 3, 3, 0, 0), [], [])], [], 1)
set_option maxRecDepth 100000 in
theorem mjC_track1m_3 : mjCtr (mjSW 240 290 mjWd_track1m) 222 mjSm_track1m_3 := aiOk_ctr mjUW_ok (env := []) (fun e he => (by cases he)) (pr := []) (cuts := []) (n := 9) (by decide +kernel)
def mjSm_track1m_4 : MjSm := ([(0, -2147483648, 2147483647, 0, 0), (0, 0, 0, 0, 0), (0, 2, 2, 0, 0)], [], [((0, 1, 1, 0, 0), [(0, 0, 2)], []), ((0, 0, 0, 0, 0), [(0, 3, 2147483647)], []), ((0, 0, 0, 0, 0), [(0, -2147483648, -1)], [])], [], 1)
set_option maxRecDepth 100000 in
theorem mjC_track1m_4 : mjCtr (mjSW 240 290 mjWd_track1m) 221 mjSm_track1m_4 := aiOk_ctr mjUW_ok (env := []) (fun e he => (by cases he)) (pr := [0]) (cuts := []) (n := 12) (by decide +kernel)
def mjSm_track1m_5 : MjSm := ([(3, 240, 240, 0, 0), (0, 0, 0, 0, 0), (0, -2147483648, 2147483647, 0, 0)], [], [((0, 0, 0, 0, 0), [(2, -2147483648, -1)], []), ((0, 0, 0, 0, 0), [(2, 3, 2147483647)], []), ((0, 1, 1, 0, 0), [(2, 0, 2)], [])], [], 3)
set_option maxRecDepth 100000 in
theorem mjC_track1m_5 : mjCtr (mjSW 240 290 mjWd_track1m) 218 mjSm_track1m_5 := aiOk_ctr mjUW_ok (env := [(219, mjSm_track1m_2), (222, mjSm_track1m_3), (221, mjSm_track1m_4)]) (mjEnvC mjC_track1m_2 (mjEnvC mjC_track1m_3 (mjEnvC mjC_track1m_4 (fun e he => (by cases he))))) (pr := [2]) (cuts := []) (n := 18) (by decide +kernel)
def mjSm_track1m_6 : MjSm := ([(0, -2147483648, 2147483647, 0, 0), (0, 0, 0, 0, 0), (0, 1, 1, 0, 0)], [], [((0, 1, 1, 0, 0), [(0, 0, 1)], []), ((0, 0, 0, 0, 0), [(0, 2, 2147483647)], []), ((0, 0, 0, 0, 0), [(0, -2147483648, -1)], [])], [], 1)
set_option maxRecDepth 100000 in
theorem mjC_track1m_6 : mjCtr (mjSW 240 290 mjWd_track1m) 221 mjSm_track1m_6 := aiOk_ctr mjUW_ok (env := []) (fun e he => (by cases he)) (pr := [0]) (cuts := []) (n := 12) (by decide +kernel)
def mjSm_track1m_7 : MjSm := ([(3, 240, 240, 0, 0), (0, 0, 0, 0, 0), (0, 0, 2, 0, 0)], [], [((0, 0, 0, 0, 0), [], [])], [], 1)
set_option maxRecDepth 100000 in
theorem mjC_track1m_7 : mjCtr (mjSW 240 290 mjWd_track1m) 223 mjSm_track1m_7 := aiOk_ctr mjUW_ok (env := []) (fun e he => (by cases he)) (pr := []) (cuts := []) (n := 14) (by decide +kernel)
def mjSm_track1m_8 : MjSm := ([(3, 240, 240, 0, 0), (0, 0, 0, 0, 0), (0, 1, 2, 0, 0)], [], [((0, 0, 0, 0, 0), [], [])], [], 1)
set_option maxRecDepth 100000 in
theorem mjC_track1m_8 : mjCtr (mjSW 240 290 mjWd_track1m) 224 mjSm_track1m_8 := aiOk_ctr mjUW_ok (env := []) (fun e he => (by cases he)) (pr := []) (cuts := []) (n := 14) (by decide +kernel)
def mjSm_track1m_9 : MjSm := ([(3, 240, 240, 0, 0), (0, 0, 0, 0, 0), (0, 1, 2, 0, 0)], [], [((0, 0, 0, 0, 0), [], [])], [], 1)
set_option maxRecDepth 100000 in
theorem mjC_track1m_9 : mjCtr (mjSW 240 290 mjWd_track1m) 223 mjSm_track1m_9 := aiOk_ctr mjUW_ok (env := []) (fun e he => (by cases he)) (pr := []) (cuts := []) (n := 14) (by decide +kernel)
def mjSm_track1m_10 : MjSm := ([(3, 240, 240, 0, 0), (0, 0, 0, 0, 0), (0, 0, 2, 0, 0), (0, 0, 0, 0, 0)], [], [((7, 0, 0, 0, 0), [], [])], [(241, 57), (241, 58)], 3)
set_option maxRecDepth 100000 in
theorem mjC_track1m_10 : mjCtr (mjSW 240 290 mjWd_track1m) 241 mjSm_track1m_10 := aiOk_ctr mjUW_ok (env := [(219, mjSm_track1m_2), (222, mjSm_track1m_3), (223, mjSm_track1m_9), (224, mjSm_track1m_8), (223, mjSm_track1m_7)]) (mjEnvC mjC_track1m_2 (mjEnvC mjC_track1m_3 (mjEnvC mjC_track1m_9 (mjEnvC mjC_track1m_8 (mjEnvC mjC_track1m_7 (fun e he => (by cases he))))))) (pr := []) (cuts := [(37, ([(3, 240, 240, 0, 0), (0, 0, 0, 0, 0), (0, 0, 2, 0, 0), (0, 0, 0, 0, 0), (0, 1, 3, 0, 0), (9, 0, 0, 0, 0)], [], []), [(0, 0, 49963), (1, 4, 2147483647), (0, 0, 60000), (0, 0, 0), (0, 0, 0), (0, 0, 0), (0, 0, 0), (0, 0, 0)])]) (n := 47) (by decide +kernel)
def mjSm_track1m_11 : MjSm := ([(3, 240, 240, 0, 0), (0, 0, 0, 0, 0), (0, -2147483648, 2147483647, 0, 0), (0, -2147483648, 2147483647, 0, 0)], [], [((0, -2, -2, 0, 0), [(2, 0, 2), (3, -2147483648, -1)], []), ((0, -2, -2, 0, 0), [(2, 0, 2), (3, 2, 2147483647)], []), ((0, 0, 0, 0, 0), [(2, 0, 2), (3, 0, 0)], []), ((0, 0, 0, 0, 0), [(2, 0, 2), (3, 1, 1)], []), ((0, -2, -2, 0, 0), [(2, 3, 2147483647)], []), ((0, -2, -2, 0, 0), [(2, -2147483648, -1)], [])], [(241, 57), (241, 58)], 20)
set_option maxRecDepth 100000 in
theorem mjC_track1m_11 : mjCtr (mjSW 240 290 mjWd_track1m) 240 mjSm_track1m_11 := aiOk_ctr mjUW_ok (env := [(241, mjSm_track1m_10), (221, mjSm_track1m_6), (218, mjSm_track1m_5)]) (mjEnvC mjC_track1m_10 (mjEnvC mjC_track1m_6 (mjEnvC mjC_track1m_5 (fun e he => (by cases he))))) (pr := [2, 3]) (cuts := []) (n := 24) (by decide +kernel)
set_option maxRecDepth 100000 in
theorem mjPair_track_1 (sc : List Int32) (s1 s2 s3 : Int32) (h : mjB s1 (0) (0)) : ∃ (v : Int32) (n1 : Nat) (w1 : MjW) (n2 : Nat) (w2 : MjW), mjEx mjTb mjMt sc n1 20 118 0 (mjEntry mjM_118.2.2.1 (.ref 0 :: [.int s1, .int s2, .int s3])) [] mjW0 = some (some (.int v), w1) ∧ mjEx mjTb mjMt sc n2 20 240 0 (mjEntry mjM_240.2.2.1 (.ref 240 :: [.int s1, .int s2, .int s3])) [] w1 = some (some (.int v), w2) ∧ mjShp w1 = mjShp mjW0 ∧ mjShp w2 = mjShp mjW0 := mj_pair (smx := mjSm_track1x_17) (smm := mjSm_track1m_11) mjC_track1x_17 mjC_track1m_11 mjWd_track1x_ok mjWd_track1m_ok (by decide +kernel) (by decide +kernel) (by decide +kernel) (by decide +kernel) (by decide +kernel) ⟨⟨0, rfl, rfl⟩, ⟨⟨s1, rfl, h⟩, ⟨⟨s2, rfl, mjB.all s2⟩, ⟨⟨s3, rfl, mjB.all s3⟩, trivial⟩⟩⟩⟩ ⟨⟨240, rfl, rfl⟩, ⟨⟨s1, rfl, h⟩, ⟨⟨s2, rfl, mjB.all s2⟩, ⟨⟨s3, rfl, mjB.all s3⟩, trivial⟩⟩⟩⟩ rfl rfl
def mjWd_track2x : MjWd := [(209, 8, (0, 0, 1))]
theorem mjWd_track2x_ok : mjWdB mjWd_track2x = true := by decide +kernel
def mjSm_track2x_0 : MjSm := ([(3, 193, 193, 0, 0), (0, 1, 1, 0, 0)], [], [((0, 1, 1, 0, 0), [], [])], [], 1)
set_option maxRecDepth 100000 in
theorem mjC_track2x_0 : mjCtr (mjSW 0 240 mjWd_track2x) 69 mjSm_track2x_0 := aiOk_ctr mjUW_ok (env := []) (fun e he => (by cases he)) (pr := []) (cuts := []) (n := 15) (by decide +kernel)
def mjSm_track2x_1 : MjSm := ([(3, 193, 193, 0, 0), (0, 1, 1, 0, 0), (0, -2147483648, 2147483647, 0, 0)], [], [((0, 1, 1, 0, 0), [(2, 0, 2)], []), ((0, 0, 0, 0, 0), [(2, 3, 2147483647)], []), ((0, 0, 0, 0, 0), [(2, -2147483648, -1)], [])], [], 2)
set_option maxRecDepth 100000 in
theorem mjC_track2x_1 : mjCtr (mjSW 0 240 mjWd_track2x) 68 mjSm_track2x_1 := aiOk_ctr mjUW_ok (env := [(69, mjSm_track2x_0)]) (mjEnvC mjC_track2x_0 (fun e he => (by cases he))) (pr := [2]) (cuts := []) (n := 19) (by decide +kernel)
def mjSm_track2x_2 : MjSm := ([(3, 18, 18, 0, 0)], [], [((3, 20, 20, 0, 0), [], [])], [], 1)
set_option maxRecDepth 100000 in
theorem mjC_track2x_2 : mjCtr (mjSW 0 240 mjWd_track2x) 70 mjSm_track2x_2 := aiOk_ctr mjUW_ok (env := []) (fun e he => (by cases he)) (pr := []) (cuts := []) (n := 9) (by decide +kernel)
def mjSm_track2x_3 : MjSm := ([(3, 210, 210, 0, 0), (3, 20, 20, 0, 0)], [], [((7, 0, 0, 0, 0), [], [])], [(211, 3), (211, 4), (211, 5), (211, 6), (211, 7), (212, 255), (213, 255), (214, 255)], 1)
set_option maxRecDepth 100000 in
theorem mjC_track2x_3 : mjCtr (mjSW 0 240 mjWd_track2x) 64 mjSm_track2x_3 := aiOk_ctr mjUW_ok (env := []) (fun e he => (by cases he)) (pr := []) (cuts := []) (n := 48) (by decide +kernel)
def mjSm_track2x_4 : MjSm := ([(3, 216, 216, 0, 0), (0, 0, 0, 0, 0)], [], [((7, 0, 0, 0, 0), [], [])], [(217, 255)], 1)
set_option maxRecDepth 100000 in
theorem mjC_track2x_4 : mjCtr (mjSW 0 240 mjWd_track2x) 6 mjSm_track2x_4 := aiOk_ctr mjUW_ok (env := []) (fun e he => (by cases he)) (pr := []) (cuts := [(5, ([(3, 216, 216, 0, 0), (0, 0, 0, 0, 0), (0, 0, 6, 0, 0), (0, 6, 6, 0, 0)], [], []), [(0, 0, 49995), (1, 2, 2147483647), (0, 0, 60000), (0, 0, 0), (0, 0, 0), (0, 0, 0), (0, 0, 0), (0, 0, 0)])]) (n := 12) (by decide +kernel)
def mjSm_track2x_5 : MjSm := ([(3, 217, 217, 0, 0), (0, 0, 0, 0, 0)], [], [((7, 0, 0, 0, 0), [], [])], [(218, 255)], 1)
set_option maxRecDepth 100000 in
theorem mjC_track2x_5 : mjCtr (mjSW 0 240 mjWd_track2x) 6 mjSm_track2x_5 := aiOk_ctr mjUW_ok (env := []) (fun e he => (by cases he)) (pr := []) (cuts := [(5, ([(3, 217, 217, 0, 0), (0, 0, 0, 0, 0), (0, 0, 6, 0, 0), (0, 6, 6, 0, 0)], [], []), [(0, 0, 49995), (1, 2, 2147483647), (0, 0, 60000), (0, 0, 0), (0, 0, 0), (0, 0, 0), (0, 0, 0), (0, 0, 0)])]) (n := 12) (by decide +kernel)
def mjSm_track2x_6 : MjSm := ([(3, 215, 215, 0, 0), (0, 0, 0, 0, 0)], [], [((7, 0, 0, 0, 0), [], [])], [(216, 255)], 1)
set_option maxRecDepth 100000 in
theorem mjC_track2x_6 : mjCtr (mjSW 0 240 mjWd_track2x) 6 mjSm_track2x_6 := aiOk_ctr mjUW_ok (env := []) (fun e he => (by cases he)) (pr := []) (cuts := [(5, ([(3, 215, 215, 0, 0), (0, 0, 0, 0, 0), (0, 0, 6, 0, 0), (0, 6, 6, 0, 0)], [], []), [(0, 0, 49995), (1, 2, 2147483647), (0, 0, 60000), (0, 0, 0), (0, 0, 0), (0, 0, 0), (0, 0, 0), (0, 0, 0)])]) (n := 12) (by decide +kernel)
def mjSm_track2x_7 : MjSm := ([(3, 193, 193, 0, 0), (3, 210, 210, 0, 0), (0, 0, 0, 0, 0)], [], [((0, 0, 0, 0, 0), [], [])], [], 1)
set_option maxRecDepth 100000 in
theorem mjC_track2x_7 : mjCtr (mjSW 0 240 mjWd_track2x) 75 mjSm_track2x_7 := aiOk_ctr mjUW_ok (env := []) (fun e he => (by cases he)) (pr := []) (cuts := [(5, ([(3, 193, 193, 0, 0), (3, 210, 210, 0, 0), (0, 0, 0, 0, 0), (0, 0, 0, 0, 0), (0, 0, 0, 0, 0), (9, 0, 0, 0, 0)], [], []), [(0, 0, 49995), (1, 4, 2147483647), (0, 0, 60000), (0, 0, 0), (0, 0, 0), (0, 0, 0), (0, 0, 0), (0, 0, 0)])]) (n := 9) (by decide +kernel)
def mjSm_track2x_8 : MjSm := ([(3, 209, 209, 0, 0)], [], [((7, 0, 0, 0, 0), [], [])], [(216, 255)], 2)
set_option maxRecDepth 100000 in
theorem mjC_track2x_8 : mjCtr (mjSW 0 240 mjWd_track2x) 74 mjSm_track2x_8 := aiOk_ctr mjUW_ok (env := [(6, mjSm_track2x_6), (75, mjSm_track2x_7)]) (mjEnvC mjC_track2x_6 (mjEnvC mjC_track2x_7 (fun e he => (by cases he)))) (pr := []) (cuts := [(32, ([(3, 209, 209, 0, 0), (0, 0, 0, 0, 0), (0, 0, 0, 0, 0)], [], []), [(0, 0, 49968), (1, 2, 2147483647), (0, 0, 60000), (0, 0, 0), (0, 0, 0), (0, 0, 0), (0, 0, 0), (0, 0, 0)])]) (n := 20) (by decide +kernel)
def mjSm_track2x_9 : MjSm := ([(3, 209, 209, 0, 0), (3, 193, 193, 0, 0), (3, 210, 210, 0, 0)], [], [((7, 0, 0, 0, 0), [], [])], [(210, 2), (210, 3), (210, 7), (216, 255), (217, 255), (218, 255)], 3)
set_option maxRecDepth 100000 in
theorem mjC_track2x_9 : mjCtr (mjSW 0 240 mjWd_track2x) 73 mjSm_track2x_9 := aiOk_ctr mjUW_ok (env := [(6, mjSm_track2x_5), (6, mjSm_track2x_4), (74, mjSm_track2x_8)]) (mjEnvC mjC_track2x_5 (mjEnvC mjC_track2x_4 (mjEnvC mjC_track2x_8 (fun e he => (by cases he))))) (pr := []) (cuts := []) (n := 23) (by decide +kernel)
def mjSm_track2x_10 : MjSm := ([(3, 209, 209, 0, 0), (3, 193, 193, 0, 0), (3, 20, 20, 0, 0)], [], [((7, 0, 0, 0, 0), [], [])], [(210, 2), (210, 3), (210, 7), (211, 3), (211, 4), (211, 5), (211, 6), (211, 7), (212, 255), (213, 255), (214, 255), (216, 255), (217, 255), (218, 255)], 4)
set_option maxRecDepth 100000 in
theorem mjC_track2x_10 : mjCtr (mjSW 0 240 mjWd_track2x) 72 mjSm_track2x_10 := aiOk_ctr mjUW_ok (env := [(73, mjSm_track2x_9), (64, mjSm_track2x_3)]) (mjEnvC mjC_track2x_9 (mjEnvC mjC_track2x_3 (fun e he => (by cases he)))) (pr := []) (cuts := []) (n := 13) (by decide +kernel)
def mjSm_track2x_11 : MjSm := ([(0, 1, 1, 0, 0), (0, 0, 2, 0, 0)], [], [((0, 5, 7, 0, 0), [], [])], [], 1)
set_option maxRecDepth 100000 in
theorem mjC_track2x_11 : mjCtr (mjSW 0 240 mjWd_track2x) 48 mjSm_track2x_11 := aiOk_ctr mjUW_ok (env := []) (fun e he => (by cases he)) (pr := []) (cuts := []) (n := 9) (by decide +kernel)
def mjSm_track2x_12 : MjSm := ([(3, 209, 209, 0, 0), (0, 5, 7, 0, 0), (0, 0, 0, 0, 0)], [], [((7, 0, 0, 0, 0), [], [])], [(210, 9)], 1)
set_option maxRecDepth 100000 in
theorem mjC_track2x_12 : mjCtr (mjSW 0 240 mjWd_track2x) 92 mjSm_track2x_12 := aiOk_ctr mjUW_ok (env := []) (fun e he => (by cases he)) (pr := []) (cuts := []) (n := 16) (by decide +kernel)
def mjSm_track2x_13 : MjSm := ([(0, 1, 1, 0, 0), (0, 1, 2, 0, 0)], [], [((0, 6, 7, 0, 0), [], [])], [], 1)
set_option maxRecDepth 100000 in
theorem mjC_track2x_13 : mjCtr (mjSW 0 240 mjWd_track2x) 48 mjSm_track2x_13 := aiOk_ctr mjUW_ok (env := []) (fun e he => (by cases he)) (pr := []) (cuts := []) (n := 9) (by decide +kernel)
def mjSm_track2x_14 : MjSm := ([(3, 209, 209, 0, 0), (0, 6, 7, 0, 0), (0, 0, 0, 0, 0)], [], [((7, 0, 0, 0, 0), [], [])], [(210, 9)], 1)
set_option maxRecDepth 100000 in
theorem mjC_track2x_14 : mjCtr (mjSW 0 240 mjWd_track2x) 92 mjSm_track2x_14 := aiOk_ctr mjUW_ok (env := []) (fun e he => (by cases he)) (pr := []) (cuts := []) (n := 16) (by decide +kernel)
def mjSm_track2x_15 : MjSm := ([(3, 209, 209, 0, 0), (0, 1, 1, 0, 0), (0, 0, 2, 0, 0), (0, 0, 0, 0, 0)], [(209, 8, (0, 0, 0, 0, 0))], [((7, 0, 0, 0, 0), [], [(209, 8, (0, 1, 1, 0, 0))])], [(210, 8), (210, 9)], 2)
set_option maxRecDepth 100000 in
theorem mjC_track2x_15 : mjCtr (mjSW 0 240 mjWd_track2x) 91 mjSm_track2x_15 := aiOk_ctr mjUW_ok (env := [(69, mjSm_track2x_0), (92, mjSm_track2x_14), (48, mjSm_track2x_13), (92, mjSm_track2x_12), (48, mjSm_track2x_11)]) (mjEnvC mjC_track2x_0 (mjEnvC mjC_track2x_14 (mjEnvC mjC_track2x_13 (mjEnvC mjC_track2x_12 (mjEnvC mjC_track2x_11 (fun e he => (by cases he))))))) (pr := []) (cuts := [(25, ([(3, 209, 209, 0, 0), (0, 1, 1, 0, 0), (0, 0, 2, 0, 0), (0, 0, 0, 0, 0), (0, 1, 3, 0, 0), (9, 0, 0, 0, 0)], [], [(209, 8, (0, 1, 1, 0, 0))]), [(0, 0, 49975), (1, 4, 2147483647), (0, 0, 60000), (0, 0, 0), (0, 0, 0), (0, 0, 0), (0, 0, 0), (0, 0, 0)])]) (n := 43) (by decide +kernel)
def mjSm_track2x_16 : MjSm := ([(3, 209, 209, 0, 0), (0, 1, 1, 0, 0), (0, 0, 2, 0, 0)], [(209, 8, (0, 0, 0, 0, 0))], [((7, 0, 0, 0, 0), [], [(209, 8, (0, 1, 1, 0, 0))])], [(210, 8), (210, 9)], 3)
set_option maxRecDepth 100000 in
theorem mjC_track2x_16 : mjCtr (mjSW 0 240 mjWd_track2x) 119 mjSm_track2x_16 := aiOk_ctr mjUW_ok (env := [(91, mjSm_track2x_15)]) (mjEnvC mjC_track2x_15 (fun e he => (by cases he))) (pr := []) (cuts := []) (n := 9) (by decide +kernel)
def mjSm_track2x_17 : MjSm := ([(3, 0, 0, 0, 0), (0, 1, 1, 0, 0), (0, -2147483648, 2147483647, 0, 0), (0, -2147483648, 2147483647, 0, 0)], [(209, 8, (0, 0, 0, 0, 0))], [((0, -2, -2, 0, 0), [(2, -2147483648, -1)], [(209, 8, (0, 0, 0, 0, 0))]), ((0, -2, -2, 0, 0), [(2, 3, 2147483647)], [(209, 8, (0, 0, 0, 0, 0))]), ((0, -2, -2, 0, 0), [(2, 0, 2), (3, 2, 2147483647)], [(209, 8, (0, 0, 0, 0, 0))]), ((0, 1, 1, 0, 0), [(2, 0, 2), (3, 0, 0)], [(209, 8, (0, 1, 1, 0, 0))]), ((0, 0, 0, 0, 0), [(2, 0, 2), (3, 1, 1)], [(209, 8, (0, 1, 1, 0, 0))]), ((0, -2, -2, 0, 0), [(2, 0, 2), (3, -2147483648, -1)], [(209, 8, (0, 0, 0, 0, 0))])], [(210, 2), (210, 3), (210, 7), (210, 8), (210, 9), (211, 3), (211, 4), (211, 5), (211, 6), (211, 7), (212, 255), (213, 255), (214, 255), (216, 255), (217, 255), (218, 255)], 20)
set_option maxRecDepth 100000 in
theorem mjC_track2x_17 : mjCtr (mjSW 0 240 mjWd_track2x) 118 mjSm_track2x_17 := aiOk_ctr mjUW_ok (env := [(119, mjSm_track2x_16), (72, mjSm_track2x_10), (70, mjSm_track2x_2), (68, mjSm_track2x_1)]) (mjEnvC mjC_track2x_16 (mjEnvC mjC_track2x_10 (mjEnvC mjC_track2x_2 (mjEnvC mjC_track2x_1 (fun e he => (by cases he)))))) (pr := [2, 3]) (cuts := []) (n := 34) (by decide +kernel)
def mjWd_track2m : MjWd := [(240, 57, (0, 0, 1))]
theorem mjWd_track2m_ok : mjWdB mjWd_track2m = true := by decide +kernel
def mjSm_track2m_0 : MjSm := ([(3, 240, 240, 0, 0)], [], [((0, 4, 4, 0, 0), [], [])], [], 1)
set_option maxRecDepth 100000 in
theorem mjC_track2m_0 : mjCtr (mjSW 240 290 mjWd_track2m) 220 mjSm_track2m_0 := aiOk_ctr mjUW_ok (env := []) (fun e he => (by cases he)) (pr := []) (cuts := []) (n := 9) (by decide +kernel)
def mjSm_track2m_1 : MjSm := ([(0, 1, 1, 0, 0), (0, 0, 0, 0, 0), (0, 3, 3, 0, 0)], [], [((0, 1, 1, 0, 0), [], [])], [], 1)
set_option maxRecDepth 100000 in
theorem mjC_track2m_1 : mjCtr (mjSW 240 290 mjWd_track2m) 221 mjSm_track2m_1 := aiOk_ctr mjUW_ok (env := []) (fun e he => (by cases he)) (pr := []) (cuts := []) (n := 12) (by decide +kernel)
def mjSm_track2m_2 : MjSm := ([(3, 240, 240, 0, 0), (0, 1, 1, 0, 0)], [], [((0, 1, 1, 0, 0), [], [])], [], 2)
set_option maxRecDepth 100000 in
theorem mjC_track2m_2 : mjCtr (mjSW 240 290 mjWd_track2m) 219 mjSm_track2m_2 := aiOk_ctr mjUW_ok (env := [(221, mjSm_track2m_1), (220, mjSm_track2m_0)]) (mjEnvC mjC_track2m_1 (mjEnvC mjC_track2m_0 (fun e he => (by cases he)))) (pr := []) (cuts := []) (n := 11) (by decide +kernel)
def mjSm_track2m_3 : MjSm := ([(3, 240, 240, 0, 0)], [], [((0, 3, 3, 0, 0), [], [])], [], 1)
set_option maxRecDepth 100000 in
theorem mjC_track2m_3 : mjCtr (mjSW 240 290 mjWd_track2m) 222 mjSm_track2m_3 := aiOk_ctr mjUW_ok (env := []) (fun e he => (by cases he)) (pr := []) (cuts := []) (n := 9) (by decide +kernel)
def mjSm_track2m_4 : MjSm := ([(0, -2147483648, 2147483647, 0, 0), (0, 0, 0, 0, 0), (0, 2, 2, 0, 0)], [], [((0, 1, 1, 0, 0), [(0, 0, 2)], []), ((0, 0, 0, 0, 0), [(0, 3, 2147483647)], []), ((0, 0, 0, 0, 0), [(0, -2147483648, -1)], [])], [], 1)
set_option maxRecDepth 100000 in
theorem mjC_track2m_4 : mjCtr (mjSW 240 290 mjWd_track2m) 221 mjSm_track2m_4 := aiOk_ctr mjUW_ok (env := []) (fun e he => (by cases he)) (pr := [0]) (cuts := []) (n := 12) (by decide +kernel)
def mjSm_track2m_5 : MjSm := ([(3, 240, 240, 0, 0), (0, 1, 1, 0, 0), (0, -2147483648, 2147483647, 0, 0)], [], [((0, 0, 0, 0, 0), [(2, -2147483648, -1)], []), ((0, 0, 0, 0, 0), [(2, 3, 2147483647)], []), ((0, 1, 1, 0, 0), [(2, 0, 2)], [])], [], 3)
set_option maxRecDepth 100000 in
theorem mjC_track2m_5 : mjCtr (mjSW 240 290 mjWd_track2m) 218 mjSm_track2m_5 := aiOk_ctr mjUW_ok (env := [(219, mjSm_track2m_2), (222, mjSm_track2m_3), (221, mjSm_track2m_4)]) (mjEnvC mjC_track2m_2 (mjEnvC mjC_track2m_3 (mjEnvC mjC_track2m_4 (fun e he => (by cases he))))) (pr := [2]) (cuts := []) (n := 18) (by decide +kernel)
def mjSm_track2m_6 : MjSm := ([(0, -2147483648, 2147483647, 0, 0), (0, 0, 0, 0, 0), (0, 1, 1, 0, 0)], [], [((0, 1, 1, 0, 0), [(0, 0, 1)], []), ((0, 0, 0, 0, 0), [(0, 2, 2147483647)], []), ((0, 0, 0, 0, 0), [(0, -2147483648, -1)], [])], [], 1)
set_option maxRecDepth 100000 in
theorem mjC_track2m_6 : mjCtr (mjSW 240 290 mjWd_track2m) 221 mjSm_track2m_6 := aiOk_ctr mjUW_ok (env := []) (fun e he => (by cases he)) (pr := [0]) (cuts := []) (n := 12) (by decide +kernel)
def mjSm_track2m_7 : MjSm := ([(3, 240, 240, 0, 0), (0, 1, 1, 0, 0), (0, 0, 2, 0, 0)], [], [((0, 0, 0, 0, 0), [], [])], [], 1)
set_option maxRecDepth 100000 in
theorem mjC_track2m_7 : mjCtr (mjSW 240 290 mjWd_track2m) 223 mjSm_track2m_7 := aiOk_ctr mjUW_ok (env := []) (fun e he => (by cases he)) (pr := []) (cuts := []) (n := 14) (by decide +kernel)
def mjSm_track2m_8 : MjSm := ([(3, 240, 240, 0, 0), (0, 1, 1, 0, 0), (0, 1, 2, 0, 0)], [], [((0, 0, 0, 0, 0), [], [])], [], 1)
set_option maxRecDepth 100000 in
theorem mjC_track2m_8 : mjCtr (mjSW 240 290 mjWd_track2m) 224 mjSm_track2m_8 := aiOk_ctr mjUW_ok (env := []) (fun e he => (by cases he)) (pr := []) (cuts := []) (n := 14) (by decide +kernel)
def mjSm_track2m_9 : MjSm := ([(3, 240, 240, 0, 0), (0, 1, 1, 0, 0), (0, 1, 2, 0, 0)], [], [((0, 0, 0, 0, 0), [], [])], [], 1)
set_option maxRecDepth 100000 in
theorem mjC_track2m_9 : mjCtr (mjSW 240 290 mjWd_track2m) 223 mjSm_track2m_9 := aiOk_ctr mjUW_ok (env := []) (fun e he => (by cases he)) (pr := []) (cuts := []) (n := 14) (by decide +kernel)
def mjSm_track2m_10 : MjSm := ([(3, 240, 240, 0, 0), (0, 1, 1, 0, 0), (0, 0, 2, 0, 0), (0, 0, 0, 0, 0)], [(240, 57, (0, 0, 0, 0, 0))], [((7, 0, 0, 0, 0), [], [(240, 57, (0, 1, 1, 0, 0))])], [(241, 57), (241, 58)], 3)
set_option maxRecDepth 100000 in
theorem mjC_track2m_10 : mjCtr (mjSW 240 290 mjWd_track2m) 241 mjSm_track2m_10 := aiOk_ctr mjUW_ok (env := [(219, mjSm_track2m_2), (222, mjSm_track2m_3), (223, mjSm_track2m_9), (224, mjSm_track2m_8), (223, mjSm_track2m_7)]) (mjEnvC mjC_track2m_2 (mjEnvC mjC_track2m_3 (mjEnvC mjC_track2m_9 (mjEnvC mjC_track2m_8 (mjEnvC mjC_track2m_7 (fun e he => (by cases he))))))) (pr := []) (cuts := [(37, ([(3, 240, 240, 0, 0), (0, 1, 1, 0, 0), (0, 0, 2, 0, 0), (0, 0, 0, 0, 0), (0, 1, 3, 0, 0), (9, 0, 0, 0, 0)], [], [(240, 57, (0, 1, 1, 0, 0))]), [(0, 0, 49963), (1, 4, 2147483647), (0, 0, 60000), (0, 0, 0), (0, 0, 0), (0, 0, 0), (0, 0, 0), (0, 0, 0)])]) (n := 47) (by decide +kernel)
def mjSm_track2m_11 : MjSm := ([(3, 240, 240, 0, 0), (0, 1, 1, 0, 0), (0, -2147483648, 2147483647, 0, 0), (0, -2147483648, 2147483647, 0, 0)], [(240, 57, (0, 0, 0, 0, 0))], [((0, -2, -2, 0, 0), [(2, 0, 2), (3, -2147483648, -1)], [(240, 57, (0, 0, 0, 0, 0))]), ((0, -2, -2, 0, 0), [(2, 0, 2), (3, 2, 2147483647)], [(240, 57, (0, 0, 0, 0, 0))]), ((0, 1, 1, 0, 0), [(2, 0, 2), (3, 0, 0)], [(240, 57, (0, 1, 1, 0, 0))]), ((0, 0, 0, 0, 0), [(2, 0, 2), (3, 1, 1)], [(240, 57, (0, 1, 1, 0, 0))]), ((0, -2, -2, 0, 0), [(2, 3, 2147483647)], [(240, 57, (0, 0, 0, 0, 0))]), ((0, -2, -2, 0, 0), [(2, -2147483648, -1)], [(240, 57, (0, 0, 0, 0, 0))])], [(241, 57), (241, 58)], 20)
set_option maxRecDepth 100000 in
theorem mjC_track2m_11 : mjCtr (mjSW 240 290 mjWd_track2m) 240 mjSm_track2m_11 := aiOk_ctr mjUW_ok (env := [(241, mjSm_track2m_10), (221, mjSm_track2m_6), (218, mjSm_track2m_5)]) (mjEnvC mjC_track2m_10 (mjEnvC mjC_track2m_6 (mjEnvC mjC_track2m_5 (fun e he => (by cases he))))) (pr := [2, 3]) (cuts := []) (n := 24) (by decide +kernel)
set_option maxRecDepth 100000 in
theorem mjPair_track_2 (sc : List Int32) (s1 s2 s3 : Int32) (h : mjB s1 (1) (1)) : ∃ (v : Int32) (n1 : Nat) (w1 : MjW) (n2 : Nat) (w2 : MjW), mjEx mjTb mjMt sc n1 20 118 0 (mjEntry mjM_118.2.2.1 (.ref 0 :: [.int s1, .int s2, .int s3])) [] mjW0 = some (some (.int v), w1) ∧ mjEx mjTb mjMt sc n2 20 240 0 (mjEntry mjM_240.2.2.1 (.ref 240 :: [.int s1, .int s2, .int s3])) [] w1 = some (some (.int v), w2) ∧ mjShp w1 = mjShp mjW0 ∧ mjShp w2 = mjShp mjW0 := mj_pair (smx := mjSm_track2x_17) (smm := mjSm_track2m_11) mjC_track2x_17 mjC_track2m_11 mjWd_track2x_ok mjWd_track2m_ok (by decide +kernel) (by decide +kernel) (by decide +kernel) (by decide +kernel) (by decide +kernel) ⟨⟨0, rfl, rfl⟩, ⟨⟨s1, rfl, h⟩, ⟨⟨s2, rfl, mjB.all s2⟩, ⟨⟨s3, rfl, mjB.all s3⟩, trivial⟩⟩⟩⟩ ⟨⟨240, rfl, rfl⟩, ⟨⟨s1, rfl, h⟩, ⟨⟨s2, rfl, mjB.all s2⟩, ⟨⟨s3, rfl, mjB.all s3⟩, trivial⟩⟩⟩⟩ rfl rfl
def mjWd_track3x : MjWd := [(209, 8, (0, 0, 2))]
theorem mjWd_track3x_ok : mjWdB mjWd_track3x = true := by decide +kernel
def mjSm_track3x_0 : MjSm := ([(3, 193, 193, 0, 0), (0, 2, 2, 0, 0)], [], [((0, 1, 1, 0, 0), [], [])], [], 1)
set_option maxRecDepth 100000 in
theorem mjC_track3x_0 : mjCtr (mjSW 0 240 mjWd_track3x) 69 mjSm_track3x_0 := aiOk_ctr mjUW_ok (env := []) (fun e he => (by cases he)) (pr := []) (cuts := []) (n := 15) (by decide +kernel)
def mjSm_track3x_1 : MjSm := ([(3, 193, 193, 0, 0), (0, 2, 2, 0, 0), (0, -2147483648, 2147483647, 0, 0)], [], [((0, 1, 1, 0, 0), [(2, 0, 2)], []), ((0, 0, 0, 0, 0), [(2, 3, 2147483647)], []), ((0, 0, 0, 0, 0), [(2, -2147483648, -1)], [])], [], 2)
set_option maxRecDepth 100000 in
theorem mjC_track3x_1 : mjCtr (mjSW 0 240 mjWd_track3x) 68 mjSm_track3x_1 := aiOk_ctr mjUW_ok (env := [(69, mjSm_track3x_0)]) (mjEnvC mjC_track3x_0 (fun e he => (by cases he))) (pr := [2]) (cuts := []) (n := 19) (by decide +kernel)
def mjSm_track3x_2 : MjSm := ([(3, 18, 18, 0, 0)], [], [((3, 20, 20, 0, 0), [], [])], [], 1)
set_option maxRecDepth 100000 in
theorem mjC_track3x_2 : mjCtr (mjSW 0 240 mjWd_track3x) 70 mjSm_track3x_2 := aiOk_ctr mjUW_ok (env := []) (fun e he => (by cases he)) (pr := []) (cuts := []) (n := 9) (by decide +kernel)
def mjSm_track3x_3 : MjSm := ([(3, 210, 210, 0, 0), (3, 20, 20, 0, 0)], [], [((7, 0, 0, 0, 0), [], [])], [(211, 3), (211, 4), (211, 5), (211, 6), (211, 7), (212, 255), (213, 255), (214, 255)], 1)
set_option maxRecDepth 100000 in
theorem mjC_track3x_3 : mjCtr (mjSW 0 240 mjWd_track3x) 64 mjSm_track3x_3 := aiOk_ctr mjUW_ok (env := []) (fun e he => (by cases he)) (pr := []) (cuts := []) (n := 48) (by decide +kernel)
def mjSm_track3x_4 : MjSm := ([(3, 216, 216, 0, 0), (0, 0, 0, 0, 0)], [], [((7, 0, 0, 0, 0), [], [])], [(217, 255)], 1)
set_option maxRecDepth 100000 in
theorem mjC_track3x_4 : mjCtr (mjSW 0 240 mjWd_track3x) 6 mjSm_track3x_4 := aiOk_ctr mjUW_ok (env := []) (fun e he => (by cases he)) (pr := []) (cuts := [(5, ([(3, 216, 216, 0, 0), (0, 0, 0, 0, 0), (0, 0, 6, 0, 0), (0, 6, 6, 0, 0)], [], []), [(0, 0, 49995), (1, 2, 2147483647), (0, 0, 60000), (0, 0, 0), (0, 0, 0), (0, 0, 0), (0, 0, 0), (0, 0, 0)])]) (n := 12) (by decide +kernel)
def mjSm_track3x_5 : MjSm := ([(3, 217, 217, 0, 0), (0, 0, 0, 0, 0)], [], [((7, 0, 0, 0, 0), [], [])], [(218, 255)], 1)
set_option maxRecDepth 100000 in
theorem mjC_track3x_5 : mjCtr (mjSW 0 240 mjWd_track3x) 6 mjSm_track3x_5 := aiOk_ctr mjUW_ok (env := []) (fun e he => (by cases he)) (pr := []) (cuts := [(5, ([(3, 217, 217, 0, 0), (0, 0, 0, 0, 0), (0, 0, 6, 0, 0), (0, 6, 6, 0, 0)], [], []), [(0, 0, 49995), (1, 2, 2147483647), (0, 0, 60000), (0, 0, 0), (0, 0, 0), (0, 0, 0), (0, 0, 0), (0, 0, 0)])]) (n := 12) (by decide +kernel)
def mjSm_track3x_6 : MjSm := ([(3, 215, 215, 0, 0), (0, 0, 0, 0, 0)], [], [((7, 0, 0, 0, 0), [], [])], [(216, 255)], 1)
set_option maxRecDepth 100000 in
theorem mjC_track3x_6 : mjCtr (mjSW 0 240 mjWd_track3x) 6 mjSm_track3x_6 := aiOk_ctr mjUW_ok (env := []) (fun e he => (by cases he)) (pr := []) (cuts := [(5, ([(3, 215, 215, 0, 0), (0, 0, 0, 0, 0), (0, 0, 6, 0, 0), (0, 6, 6, 0, 0)], [], []), [(0, 0, 49995), (1, 2, 2147483647), (0, 0, 60000), (0, 0, 0), (0, 0, 0), (0, 0, 0), (0, 0, 0), (0, 0, 0)])]) (n := 12) (by decide +kernel)
def mjSm_track3x_7 : MjSm := ([(3, 193, 193, 0, 0), (3, 210, 210, 0, 0), (0, 0, 0, 0, 0)], [], [((0, 0, 0, 0, 0), [], [])], [], 1)
set_option maxRecDepth 100000 in
theorem mjC_track3x_7 : mjCtr (mjSW 0 240 mjWd_track3x) 75 mjSm_track3x_7 := aiOk_ctr mjUW_ok (env := []) (fun e he => (by cases he)) (pr := []) (cuts := [(5, ([(3, 193, 193, 0, 0), (3, 210, 210, 0, 0), (0, 0, 0, 0, 0), (0, 0, 0, 0, 0), (0, 0, 0, 0, 0), (9, 0, 0, 0, 0)], [], []), [(0, 0, 49995), (1, 4, 2147483647), (0, 0, 60000), (0, 0, 0), (0, 0, 0), (0, 0, 0), (0, 0, 0), (0, 0, 0)])]) (n := 9) (by decide +kernel)
def mjSm_track3x_8 : MjSm := ([(3, 209, 209, 0, 0)], [], [((7, 0, 0, 0, 0), [], [])], [(216, 255)], 2)
set_option maxRecDepth 100000 in
theorem mjC_track3x_8 : mjCtr (mjSW 0 240 mjWd_track3x) 74 mjSm_track3x_8 := aiOk_ctr mjUW_ok (env := [(6, mjSm_track3x_6), (75, mjSm_track3x_7)]) (mjEnvC mjC_track3x_6 (mjEnvC mjC_track3x_7 (fun e he => (by cases he)))) (pr := []) (cuts := [(32, ([(3, 209, 209, 0, 0), (0, 0, 0, 0, 0), (0, 0, 0, 0, 0)], [], []), [(0, 0, 49968), (1, 2, 2147483647), (0, 0, 60000), (0, 0, 0), (0, 0, 0), (0, 0, 0), (0, 0, 0), (0, 0, 0)])]) (n := 20) (by decide +kernel)
def mjSm_track3x_9 : MjSm := ([(3, 209, 209, 0, 0), (3, 193, 193, 0, 0), (3, 210, 210, 0, 0)], [], [((7, 0, 0, 0, 0), [], [])], [(210, 2), (210, 3), (210, 7), (216, 255), (217, 255), (218, 255)], 3)
set_option maxRecDepth 100000 in
theorem mjC_track3x_9 : mjCtr (mjSW 0 240 mjWd_track3x) 73 mjSm_track3x_9 := aiOk_ctr mjUW_ok (env := [(6, mjSm_track3x_5), (6, mjSm_track3x_4), (74, mjSm_track3x_8)]) (mjEnvC mjC_track3x_5 (mjEnvC mjC_track3x_4 (mjEnvC mjC_track3x_8 (fun e he => (by cases he))))) (pr := []) (cuts := []) (n := 23) (by decide +kernel)
def mjSm_track3x_10 : MjSm := ([(3, 209, 209, 0, 0), (3, 193, 193, 0, 0), (3, 20, 20, 0, 0)], [], [((7, 0, 0, 0, 0), [], [])], [(210, 2), (210, 3), (210, 7), (211, 3), (211, 4), (211, 5), (211, 6), (211, 7), (212, 255), (213, 255), (214, 255), (216, 255), (217, 255), (218, 255)], 4)
set_option maxRecDepth 100000 in
theorem mjC_track3x_10 : mjCtr (mjSW 0 240 mjWd_track3x) 72 mjSm_track3x_10 := aiOk_ctr mjUW_ok (env := [(73, mjSm_track3x_9), (64, mjSm_track3x_3)]) (mjEnvC mjC_track3x_9 (mjEnvC mjC_track3x_3 (fun e he => (by cases he)))) (pr := []) (cuts := []) (n := 13) (by decide +kernel)
def mjSm_track3x_11 : MjSm := ([(0, 2, 2, 0, 0), (0, 0, 2, 0, 0)], [], [((0, 10, 12, 0, 0), [], [])], [], 1)
set_option maxRecDepth 100000 in
theorem mjC_track3x_11 : mjCtr (mjSW 0 240 mjWd_track3x) 48 mjSm_track3x_11 := aiOk_ctr mjUW_ok (env := []) (fun e he => (by cases he)) (pr := []) (cuts := []) (n := 9) (by decide +kernel)
def mjSm_track3x_12 : MjSm := ([(3, 209, 209, 0, 0), (0, 10, 12, 0, 0), (0, 0, 0, 0, 0)], [], [((7, 0, 0, 0, 0), [], [])], [(210, 9)], 1)
set_option maxRecDepth 100000 in
theorem mjC_track3x_12 : mjCtr (mjSW 0 240 mjWd_track3x) 92 mjSm_track3x_12 := aiOk_ctr mjUW_ok (env := []) (fun e he => (by cases he)) (pr := []) (cuts := []) (n := 16) (by decide +kernel)
def mjSm_track3x_13 : MjSm := ([(0, 2, 2, 0, 0), (0, 1, 2, 0, 0)], [], [((0, 11, 12, 0, 0), [], [])], [], 1)
set_option maxRecDepth 100000 in
theorem mjC_track3x_13 : mjCtr (mjSW 0 240 mjWd_track3x) 48 mjSm_track3x_13 := aiOk_ctr mjUW_ok (env := []) (fun e he => (by cases he)) (pr := []) (cuts := []) (n := 9) (by decide +kernel)
def mjSm_track3x_14 : MjSm := ([(3, 209, 209, 0, 0), (0, 11, 12, 0, 0), (0, 0, 0, 0, 0)], [], [((7, 0, 0, 0, 0), [], [])], [(210, 9)], 1)
set_option maxRecDepth 100000 in
theorem mjC_track3x_14 : mjCtr (mjSW 0 240 mjWd_track3x) 92 mjSm_track3x_14 := aiOk_ctr mjUW_ok (env := []) (fun e he => (by cases he)) (pr := []) (cuts := []) (n := 16) (by decide +kernel)
def mjSm_track3x_15 : MjSm := ([(3, 209, 209, 0, 0), (0, 2, 2, 0, 0), (0, 0, 2, 0, 0), (0, 0, 0, 0, 0)], [(209, 8, (0, 0, 0, 0, 0))], [((7, 0, 0, 0, 0), [], [(209, 8, (0, 2, 2, 0, 0))])], [(210, 8), (210, 9)], 2)
set_option maxRecDepth 100000 in
theorem mjC_track3x_15 : mjCtr (mjSW 0 240 mjWd_track3x) 91 mjSm_track3x_15 := aiOk_ctr mjUW_ok (env := [(69, mjSm_track3x_0), (92, mjSm_track3x_14), (48, mjSm_track3x_13), (48, mjSm_track3x_11), (92, mjSm_track3x_12)]) (mjEnvC mjC_track3x_0 (mjEnvC mjC_track3x_14 (mjEnvC mjC_track3x_13 (mjEnvC mjC_track3x_11 (mjEnvC mjC_track3x_12 (fun e he => (by cases he))))))) (pr := []) (cuts := [(25, ([(3, 209, 209, 0, 0), (0, 2, 2, 0, 0), (0, 0, 2, 0, 0), (0, 0, 0, 0, 0), (0, 1, 3, 0, 0), (9, 0, 0, 0, 0)], [], [(209, 8, (0, 2, 2, 0, 0))]), [(0, 0, 49975), (1, 4, 2147483647), (0, 0, 60000), (0, 0, 0), (0, 0, 0), (0, 0, 0), (0, 0, 0), (0, 0, 0)])]) (n := 43) (by decide +kernel)
def mjSm_track3x_16 : MjSm := ([(3, 209, 209, 0, 0), (0, 2, 2, 0, 0), (0, 0, 2, 0, 0)], [(209, 8, (0, 0, 0, 0, 0))], [((7, 0, 0, 0, 0), [], [(209, 8, (0, 2, 2, 0, 0))])], [(210, 8), (210, 9)], 3)
set_option maxRecDepth 100000 in
theorem mjC_track3x_16 : mjCtr (mjSW 0 240 mjWd_track3x) 119 mjSm_track3x_16 := aiOk_ctr mjUW_ok (env := [(91, mjSm_track3x_15)]) (mjEnvC mjC_track3x_15 (fun e he => (by cases he))) (pr := []) (cuts := []) (n := 9) (by decide +kernel)
def mjSm_track3x_17 : MjSm := ([(3, 0, 0, 0, 0), (0, 2, 2, 0, 0), (0, -2147483648, 2147483647, 0, 0), (0, -2147483648, 2147483647, 0, 0)], [(209, 8, (0, 0, 0, 0, 0))], [((0, -2, -2, 0, 0), [(2, -2147483648, -1)], [(209, 8, (0, 0, 0, 0, 0))]), ((0, -2, -2, 0, 0), [(2, 3, 2147483647)], [(209, 8, (0, 0, 0, 0, 0))]), ((0, -2, -2, 0, 0), [(2, 0, 2), (3, 2, 2147483647)], [(209, 8, (0, 0, 0, 0, 0))]), ((0, 2, 2, 0, 0), [(2, 0, 2), (3, 0, 0)], [(209, 8, (0, 2, 2, 0, 0))]), ((0, 0, 0, 0, 0), [(2, 0, 2), (3, 1, 1)], [(209, 8, (0, 2, 2, 0, 0))]), ((0, -2, -2, 0, 0), [(2, 0, 2), (3, -2147483648, -1)], [(209, 8, (0, 0, 0, 0, 0))])], [(210, 2), (210, 3), (210, 7), (210, 8), (210, 9), (211, 3), (211, 4), (211, 5), (211, 6), (211, 7), (212, 255), (213, 255), (214, 255), (216, 255), (217, 255), (218, 255)], 20)
set_option maxRecDepth 100000 in
theorem mjC_track3x_17 : mjCtr (mjSW 0 240 mjWd_track3x) 118 mjSm_track3x_17 := aiOk_ctr mjUW_ok (env := [(119, mjSm_track3x_16), (72, mjSm_track3x_10), (70, mjSm_track3x_2), (68, mjSm_track3x_1)]) (mjEnvC mjC_track3x_16 (mjEnvC mjC_track3x_10 (mjEnvC mjC_track3x_2 (mjEnvC mjC_track3x_1 (fun e he => (by cases he)))))) (pr := [2, 3]) (cuts := []) (n := 34) (by decide +kernel)
def mjWd_track3m : MjWd := [(240, 57, (0, 0, 2))]
theorem mjWd_track3m_ok : mjWdB mjWd_track3m = true := by decide +kernel
def mjSm_track3m_0 : MjSm := ([(3, 240, 240, 0, 0)], [], [((0, 4, 4, 0, 0), [], [])], [], 1)
set_option maxRecDepth 100000 in
theorem mjC_track3m_0 : mjCtr (mjSW 240 290 mjWd_track3m) 220 mjSm_track3m_0 := aiOk_ctr mjUW_ok (env := []) (fun e he => (by cases he)) (pr := []) (cuts := []) (n := 9) (by decide +kernel)
def mjSm_track3m_1 : MjSm := ([(0, 2, 2, 0, 0), (0, 0, 0, 0, 0), (0, 3, 3, 0, 0)], [], [((0, 1, 1, 0, 0), [], [])], [], 1)
set_option maxRecDepth 100000 in
theorem mjC_track3m_1 : mjCtr (mjSW 240 290 mjWd_track3m) 221 mjSm_track3m_1 := aiOk_ctr mjUW_ok (env := []) (fun e he => (by cases he)) (pr := []) (cuts := []) (n := 12) (by decide +kernel)
def mjSm_track3m_2 : MjSm := ([(3, 240, 240, 0, 0), (0, 2, 2, 0, 0)], [], [((0, 1, 1, 0, 0), [], [])], [], 2)
set_option maxRecDepth 100000 in
theorem mjC_track3m_2 : mjCtr (mjSW 240 290 mjWd_track3m) 219 mjSm_track3m_2 := aiOk_ctr mjUW_ok (env := [(221, mjSm_track3m_1), (220, mjSm_track3m_0)]) (mjEnvC mjC_track3m_1 (mjEnvC mjC_track3m_0 (fun e he => (by cases he)))) (pr := []) (cuts := []) (n := 11) (by decide +kernel)
def mjSm_track3m_3 : MjSm := ([(3, 240, 240, 0, 0)], [], [((0, 3, 3, 0, 0), [], [])], [], 1)
set_option maxRecDepth 100000 in
theorem mjC_track3m_3 : mjCtr (mjSW 240 290 mjWd_track3m) 222 mjSm_track3m_3 := aiOk_ctr mjUW_ok (env := []) (fun e he => (by cases he)) (pr := []) (cuts := []) (n := 9) (by decide +kernel)
def mjSm_track3m_4 : MjSm := ([(0, -2147483648, 2147483647, 0, 0), (0, 0, 0, 0, 0), (0, 2, 2, 0, 0)], [], [((0, 1, 1, 0, 0), [(0, 0, 2)], []), ((0, 0, 0, 0, 0), [(0, 3, 2147483647)], []), ((0, 0, 0, 0, 0), [(0, -2147483648, -1)], [])], [], 1)
set_option maxRecDepth 100000 in
theorem mjC_track3m_4 : mjCtr (mjSW 240 290 mjWd_track3m) 221 mjSm_track3m_4 := aiOk_ctr mjUW_ok (env := []) (fun e he => (by cases he)) (pr := [0]) (cuts := []) (n := 12) (by decide +kernel)
def mjSm_track3m_5 : MjSm := ([(3, 240, 240, 0, 0), (0, 2, 2, 0, 0), (0, -2147483648, 2147483647, 0, 0)], [], [((0, 0, 0, 0, 0), [(2, -2147483648, -1)], []), ((0, 0, 0, 0, 0), [(2, 3, 2147483647)], []), ((0, 1, 1, 0, 0), [(2, 0, 2)], [])], [], 3)
set_option maxRecDepth 100000 in
theorem mjC_track3m_5 : mjCtr (mjSW 240 290 mjWd_track3m) 218 mjSm_track3m_5 := aiOk_ctr mjUW_ok (env := [(219, mjSm_track3m_2), (222, mjSm_track3m_3), (221, mjSm_track3m_4)]) (mjEnvC mjC_track3m_2 (mjEnvC mjC_track3m_3 (mjEnvC mjC_track3m_4 (fun e he => (by cases he))))) (pr := [2]) (cuts := []) (n := 18) (by decide +kernel)
def mjSm_track3m_6 : MjSm := ([(0, -2147483648, 2147483647, 0, 0), (0, 0, 0, 0, 0), (0, 1, 1, 0, 0)], [], [((0, 1, 1, 0, 0), [(0, 0, 1)], []), ((0, 0, 0, 0, 0), [(0, 2, 2147483647)], []), ((0, 0, 0, 0, 0), [(0, -2147483648, -1)], [])], [], 1)
set_option maxRecDepth 100000 in
theorem mjC_track3m_6 : mjCtr (mjSW 240 290 mjWd_track3m) 221 mjSm_track3m_6 := aiOk_ctr mjUW_ok (env := []) (fun e he => (by cases he)) (pr := [0]) (cuts := []) (n := 12) (by decide +kernel)
def mjSm_track3m_7 : MjSm := ([(3, 240, 240, 0, 0), (0, 2, 2, 0, 0), (0, 0, 2, 0, 0)], [], [((0, 0, 0, 0, 0), [], [])], [], 1)
set_option maxRecDepth 100000 in
theorem mjC_track3m_7 : mjCtr (mjSW 240 290 mjWd_track3m) 223 mjSm_track3m_7 := aiOk_ctr mjUW_ok (env := []) (fun e he => (by cases he)) (pr := []) (cuts := []) (n := 14) (by decide +kernel)
def mjSm_track3m_8 : MjSm := ([(3, 240, 240, 0, 0), (0, 2, 2, 0, 0), (0, 1, 2, 0, 0)], [], [((0, 0, 0, 0, 0), [], [])], [], 1)
set_option maxRecDepth 100000 in
theorem mjC_track3m_8 : mjCtr (mjSW 240 290 mjWd_track3m) 224 mjSm_track3m_8 := aiOk_ctr mjUW_ok (env := []) (fun e he => (by cases he)) (pr := []) (cuts := []) (n := 14) (by decide +kernel)
def mjSm_track3m_9 : MjSm := ([(3, 240, 240, 0, 0), (0, 2, 2, 0, 0), (0, 1, 2, 0, 0)], [], [((0, 0, 0, 0, 0), [], [])], [], 1)
set_option maxRecDepth 100000 in
theorem mjC_track3m_9 : mjCtr (mjSW 240 290 mjWd_track3m) 223 mjSm_track3m_9 := aiOk_ctr mjUW_ok (env := []) (fun e he => (by cases he)) (pr := []) (cuts := []) (n := 14) (by decide +kernel)
def mjSm_track3m_10 : MjSm := ([(3, 240, 240, 0, 0), (0, 2, 2, 0, 0), (0, 0, 2, 0, 0), (0, 0, 0, 0, 0)], [(240, 57, (0, 0, 0, 0, 0))], [((7, 0, 0, 0, 0), [], [(240, 57, (0, 2, 2, 0, 0))])], [(241, 57), (241, 58)], 3)
set_option maxRecDepth 100000 in
theorem mjC_track3m_10 : mjCtr (mjSW 240 290 mjWd_track3m) 241 mjSm_track3m_10 := aiOk_ctr mjUW_ok (env := [(219, mjSm_track3m_2), (222, mjSm_track3m_3), (224, mjSm_track3m_8), (223, mjSm_track3m_9), (223, mjSm_track3m_7)]) (mjEnvC mjC_track3m_2 (mjEnvC mjC_track3m_3 (mjEnvC mjC_track3m_8 (mjEnvC mjC_track3m_9 (mjEnvC mjC_track3m_7 (fun e he => (by cases he))))))) (pr := []) (cuts := [(37, ([(3, 240, 240, 0, 0), (0, 2, 2, 0, 0), (0, 0, 2, 0, 0), (0, 0, 0, 0, 0), (0, 1, 3, 0, 0), (9, 0, 0, 0, 0)], [], [(240, 57, (0, 2, 2, 0, 0))]), [(0, 0, 49963), (1, 4, 2147483647), (0, 0, 60000), (0, 0, 0), (0, 0, 0), (0, 0, 0), (0, 0, 0), (0, 0, 0)])]) (n := 47) (by decide +kernel)
def mjSm_track3m_11 : MjSm := ([(3, 240, 240, 0, 0), (0, 2, 2, 0, 0), (0, -2147483648, 2147483647, 0, 0), (0, -2147483648, 2147483647, 0, 0)], [(240, 57, (0, 0, 0, 0, 0))], [((0, -2, -2, 0, 0), [(2, 0, 2), (3, -2147483648, -1)], [(240, 57, (0, 0, 0, 0, 0))]), ((0, -2, -2, 0, 0), [(2, 0, 2), (3, 2, 2147483647)], [(240, 57, (0, 0, 0, 0, 0))]), ((0, 2, 2, 0, 0), [(2, 0, 2), (3, 0, 0)], [(240, 57, (0, 2, 2, 0, 0))]), ((0, 0, 0, 0, 0), [(2, 0, 2), (3, 1, 1)], [(240, 57, (0, 2, 2, 0, 0))]), ((0, -2, -2, 0, 0), [(2, 3, 2147483647)], [(240, 57, (0, 0, 0, 0, 0))]), ((0, -2, -2, 0, 0), [(2, -2147483648, -1)], [(240, 57, (0, 0, 0, 0, 0))])], [(241, 57), (241, 58)], 20)
set_option maxRecDepth 100000 in
theorem mjC_track3m_11 : mjCtr (mjSW 240 290 mjWd_track3m) 240 mjSm_track3m_11 := aiOk_ctr mjUW_ok (env := [(241, mjSm_track3m_10), (221, mjSm_track3m_6), (218, mjSm_track3m_5)]) (mjEnvC mjC_track3m_10 (mjEnvC mjC_track3m_6 (mjEnvC mjC_track3m_5 (fun e he => (by cases he))))) (pr := [2, 3]) (cuts := []) (n := 24) (by decide +kernel)
set_option maxRecDepth 100000 in
theorem mjPair_track_3 (sc : List Int32) (s1 s2 s3 : Int32) (h : mjB s1 (2) (2)) : ∃ (v : Int32) (n1 : Nat) (w1 : MjW) (n2 : Nat) (w2 : MjW), mjEx mjTb mjMt sc n1 20 118 0 (mjEntry mjM_118.2.2.1 (.ref 0 :: [.int s1, .int s2, .int s3])) [] mjW0 = some (some (.int v), w1) ∧ mjEx mjTb mjMt sc n2 20 240 0 (mjEntry mjM_240.2.2.1 (.ref 240 :: [.int s1, .int s2, .int s3])) [] w1 = some (some (.int v), w2) ∧ mjShp w1 = mjShp mjW0 ∧ mjShp w2 = mjShp mjW0 := mj_pair (smx := mjSm_track3x_17) (smm := mjSm_track3m_11) mjC_track3x_17 mjC_track3m_11 mjWd_track3x_ok mjWd_track3m_ok (by decide +kernel) (by decide +kernel) (by decide +kernel) (by decide +kernel) (by decide +kernel) ⟨⟨0, rfl, rfl⟩, ⟨⟨s1, rfl, h⟩, ⟨⟨s2, rfl, mjB.all s2⟩, ⟨⟨s3, rfl, mjB.all s3⟩, trivial⟩⟩⟩⟩ ⟨⟨240, rfl, rfl⟩, ⟨⟨s1, rfl, h⟩, ⟨⟨s2, rfl, mjB.all s2⟩, ⟨⟨s3, rfl, mjB.all s3⟩, trivial⟩⟩⟩⟩ rfl rfl
def mjWd_track4x : MjWd := [(209, 8, (0, 0, 3))]
theorem mjWd_track4x_ok : mjWdB mjWd_track4x = true := by decide +kernel
def mjSm_track4x_0 : MjSm := ([(3, 193, 193, 0, 0), (0, 3, 3, 0, 0)], [], [((0, 1, 1, 0, 0), [], [])], [], 1)
set_option maxRecDepth 100000 in
theorem mjC_track4x_0 : mjCtr (mjSW 0 240 mjWd_track4x) 69 mjSm_track4x_0 := aiOk_ctr mjUW_ok (env := []) (fun e he => (by cases he)) (pr := []) (cuts := []) (n := 15) (by decide +kernel)
def mjSm_track4x_1 : MjSm := ([(3, 193, 193, 0, 0), (0, 3, 3, 0, 0), (0, -2147483648, 2147483647, 0, 0)], [], [((0, 1, 1, 0, 0), [(2, 0, 2)], []), ((0, 0, 0, 0, 0), [(2, 3, 2147483647)], []), ((0, 0, 0, 0, 0), [(2, -2147483648, -1)], [])], [], 2)
set_option maxRecDepth 100000 in
theorem mjC_track4x_1 : mjCtr (mjSW 0 240 mjWd_track4x) 68 mjSm_track4x_1 := aiOk_ctr mjUW_ok (env := [(69, mjSm_track4x_0)]) (mjEnvC mjC_track4x_0 (fun e he => (by cases he))) (pr := [2]) (cuts := []) (n := 19) (by decide +kernel)
def mjSm_track4x_2 : MjSm := ([(3, 18, 18, 0, 0)], [], [((3, 20, 20, 0, 0), [], [])], [], 1)
set_option maxRecDepth 100000 in
theorem mjC_track4x_2 : mjCtr (mjSW 0 240 mjWd_track4x) 70 mjSm_track4x_2 := aiOk_ctr mjUW_ok (env := []) (fun e he => (by cases he)) (pr := []) (cuts := []) (n := 9) (by decide +kernel)
def mjSm_track4x_3 : MjSm := ([(3, 210, 210, 0, 0), (3, 20, 20, 0, 0)], [], [((7, 0, 0, 0, 0), [], [])], [(211, 3), (211, 4), (211, 5), (211, 6), (211, 7), (212, 255), (213, 255), (214, 255)], 1)
set_option maxRecDepth 100000 in
theorem mjC_track4x_3 : mjCtr (mjSW 0 240 mjWd_track4x) 64 mjSm_track4x_3 := aiOk_ctr mjUW_ok (env := []) (fun e he => (by cases he)) (pr := []) (cuts := []) (n := 48) (by decide +kernel)
def mjSm_track4x_4 : MjSm := ([(3, 216, 216, 0, 0), (0, 0, 0, 0, 0)], [], [((7, 0, 0, 0, 0), [], [])], [(217, 255)], 1)
set_option maxRecDepth 100000 in
theorem mjC_track4x_4 : mjCtr (mjSW 0 240 mjWd_track4x) 6 mjSm_track4x_4 := aiOk_ctr mjUW_ok (env := []) (fun e he => (by cases he)) (pr := []) (cuts := [(5, ([(3, 216, 216, 0, 0), (0, 0, 0, 0, 0), (0, 0, 6, 0, 0), (0, 6, 6, 0, 0)], [], []), [(0, 0, 49995), (1, 2, 2147483647), (0, 0, 60000), (0, 0, 0), (0, 0, 0), (0, 0, 0), (0, 0, 0), (0, 0, 0)])]) (n := 12) (by decide +kernel)
def mjSm_track4x_5 : MjSm := ([(3, 217, 217, 0, 0), (0, 0, 0, 0, 0)], [], [((7, 0, 0, 0, 0), [], [])], [(218, 255)], 1)
set_option maxRecDepth 100000 in
theorem mjC_track4x_5 : mjCtr (mjSW 0 240 mjWd_track4x) 6 mjSm_track4x_5 := aiOk_ctr mjUW_ok (env := []) (fun e he => (by cases he)) (pr := []) (cuts := [(5, ([(3, 217, 217, 0, 0), (0, 0, 0, 0, 0), (0, 0, 6, 0, 0), (0, 6, 6, 0, 0)], [], []), [(0, 0, 49995), (1, 2, 2147483647), (0, 0, 60000), (0, 0, 0), (0, 0, 0), (0, 0, 0), (0, 0, 0), (0, 0, 0)])]) (n := 12) (by decide +kernel)
def mjSm_track4x_6 : MjSm := ([(3, 215, 215, 0, 0), (0, 0, 0, 0, 0)], [], [((7, 0, 0, 0, 0), [], [])], [(216, 255)], 1)
set_option maxRecDepth 100000 in
theorem mjC_track4x_6 : mjCtr (mjSW 0 240 mjWd_track4x) 6 mjSm_track4x_6 := aiOk_ctr mjUW_ok (env := []) (fun e he => (by cases he)) (pr := []) (cuts := [(5, ([(3, 215, 215, 0, 0), (0, 0, 0, 0, 0), (0, 0, 6, 0, 0), (0, 6, 6, 0, 0)], [], []), [(0, 0, 49995), (1, 2, 2147483647), (0, 0, 60000), (0, 0, 0), (0, 0, 0), (0, 0, 0), (0, 0, 0), (0, 0, 0)])]) (n := 12) (by decide +kernel)
def mjSm_track4x_7 : MjSm := ([(3, 193, 193, 0, 0), (3, 210, 210, 0, 0), (0, 0, 0, 0, 0)], [], [((0, 0, 0, 0, 0), [], [])], [], 1)
set_option maxRecDepth 100000 in
theorem mjC_track4x_7 : mjCtr (mjSW 0 240 mjWd_track4x) 75 mjSm_track4x_7 := aiOk_ctr mjUW_ok (env := []) (fun e he => (by cases he)) (pr := []) (cuts := [(5, ([(3, 193, 193, 0, 0), (3, 210, 210, 0, 0), (0, 0, 0, 0, 0), (0, 0, 0, 0, 0), (0, 0, 0, 0, 0), (9, 0, 0, 0, 0)], [], []), [(0, 0, 49995), (1, 4, 2147483647), (0, 0, 60000), (0, 0, 0), (0, 0, 0), (0, 0, 0), (0, 0, 0), (0, 0, 0)])]) (n := 9) (by decide +kernel)
def mjSm_track4x_8 : MjSm := ([(3, 209, 209, 0, 0)], [], [((7, 0, 0, 0, 0), [], [])], [(216, 255)], 2)
set_option maxRecDepth 100000 in
theorem mjC_track4x_8 : mjCtr (mjSW 0 240 mjWd_track4x) 74 mjSm_track4x_8 := aiOk_ctr mjUW_ok (env := [(6, mjSm_track4x_6), (75, mjSm_track4x_7)]) (mjEnvC mjC_track4x_6 (mjEnvC mjC_track4x_7 (fun e he => (by cases he)))) (pr := []) (cuts := [(32, ([(3, 209, 209, 0, 0), (0, 0, 0, 0, 0), (0, 0, 0, 0, 0)], [], []), [(0, 0, 49968), (1, 2, 2147483647), (0, 0, 60000), (0, 0, 0), (0, 0, 0), (0, 0, 0), (0, 0, 0), (0, 0, 0)])]) (n := 20) (by decide +kernel)
def mjSm_track4x_9 : MjSm := ([(3, 209, 209, 0, 0), (3, 193, 193, 0, 0), (3, 210, 210, 0, 0)], [], [((7, 0, 0, 0, 0), [], [])], [(210, 2), (210, 3), (210, 7), (216, 255), (217, 255), (218, 255)], 3)
set_option maxRecDepth 100000 in
theorem mjC_track4x_9 : mjCtr (mjSW 0 240 mjWd_track4x) 73 mjSm_track4x_9 := aiOk_ctr mjUW_ok (env := [(6, mjSm_track4x_5), (6, mjSm_track4x_4), (74, mjSm_track4x_8)]) (mjEnvC mjC_track4x_5 (mjEnvC mjC_track4x_4 (mjEnvC mjC_track4x_8 (fun e he => (by cases he))))) (pr := []) (cuts := []) (n := 23) (by decide +kernel)
def mjSm_track4x_10 : MjSm := ([(3, 209, 209, 0, 0), (3, 193, 193, 0, 0), (3, 20, 20, 0, 0)], [], [((7, 0, 0, 0, 0), [], [])], [(210, 2), (210, 3), (210, 7), (211, 3), (211, 4), (211, 5), (211, 6), (211, 7), (212, 255), (213, 255), (214, 255), (216, 255), (217, 255), (218, 255)], 4)
set_option maxRecDepth 100000 in
theorem mjC_track4x_10 : mjCtr (mjSW 0 240 mjWd_track4x) 72 mjSm_track4x_10 := aiOk_ctr mjUW_ok (env := [(73, mjSm_track4x_9), (64, mjSm_track4x_3)]) (mjEnvC mjC_track4x_9 (mjEnvC mjC_track4x_3 (fun e he => (by cases he)))) (pr := []) (cuts := []) (n := 13) (by decide +kernel)
def mjSm_track4x_11 : MjSm := ([(0, 3, 3, 0, 0), (0, 0, 2, 0, 0)], [], [((0, 15, 17, 0, 0), [], [])], [], 1)
set_option maxRecDepth 100000 in
theorem mjC_track4x_11 : mjCtr (mjSW 0 240 mjWd_track4x) 48 mjSm_track4x_11 := aiOk_ctr mjUW_ok (env := []) (fun e he => (by cases he)) (pr := []) (cuts := []) (n := 9) (by decide +kernel)
def mjSm_track4x_12 : MjSm := ([(3, 209, 209, 0, 0), (0, 15, 17, 0, 0), (0, 0, 0, 0, 0)], [], [((7, 0, 0, 0, 0), [], [])], [(210, 9)], 1)
set_option maxRecDepth 100000 in
theorem mjC_track4x_12 : mjCtr (mjSW 0 240 mjWd_track4x) 92 mjSm_track4x_12 := aiOk_ctr mjUW_ok (env := []) (fun e he => (by cases he)) (pr := []) (cuts := []) (n := 16) (by decide +kernel)
def mjSm_track4x_13 : MjSm := ([(0, 3, 3, 0, 0), (0, 1, 2, 0, 0)], [], [((0, 16, 17, 0, 0), [], [])], [], 1)
set_option maxRecDepth 100000 in
theorem mjC_track4x_13 : mjCtr (mjSW 0 240 mjWd_track4x) 48 mjSm_track4x_13 := aiOk_ctr mjUW_ok (env := []) (fun e he => (by cases he)) (pr := []) (cuts := []) (n := 9) (by decide +kernel)
def mjSm_track4x_14 : MjSm := ([(3, 209, 209, 0, 0), (0, 16, 17, 0, 0), (0, 0, 0, 0, 0)], [], [((7, 0, 0, 0, 0), [], [])], [(210, 9)], 1)
set_option maxRecDepth 100000 in
theorem mjC_track4x_14 : mjCtr (mjSW 0 240 mjWd_track4x) 92 mjSm_track4x_14 := aiOk_ctr mjUW_ok (env := []) (fun e he => (by cases he)) (pr := []) (cuts := []) (n := 16) (by decide +kernel)
def mjSm_track4x_15 : MjSm := ([(3, 209, 209, 0, 0), (0, 3, 3, 0, 0), (0, 0, 2, 0, 0), (0, 0, 0, 0, 0)], [(209, 8, (0, 0, 0, 0, 0))], [((7, 0, 0, 0, 0), [], [(209, 8, (0, 3, 3, 0, 0))])], [(210, 8), (210, 9)], 2)
set_option maxRecDepth 100000 in
theorem mjC_track4x_15 : mjCtr (mjSW 0 240 mjWd_track4x) 91 mjSm_track4x_15 := aiOk_ctr mjUW_ok (env := [(69, mjSm_track4x_0), (92, mjSm_track4x_14), (48, mjSm_track4x_13), (48, mjSm_track4x_11), (92, mjSm_track4x_12)]) (mjEnvC mjC_track4x_0 (mjEnvC mjC_track4x_14 (mjEnvC mjC_track4x_13 (mjEnvC mjC_track4x_11 (mjEnvC mjC_track4x_12 (fun e he => (by cases he))))))) (pr := []) (cuts := [(25, ([(3, 209, 209, 0, 0), (0, 3, 3, 0, 0), (0, 0, 2, 0, 0), (0, 0, 0, 0, 0), (0, 1, 3, 0, 0), (9, 0, 0, 0, 0)], [], [(209, 8, (0, 3, 3, 0, 0))]), [(0, 0, 49975), (1, 4, 2147483647), (0, 0, 60000), (0, 0, 0), (0, 0, 0), (0, 0, 0), (0, 0, 0), (0, 0, 0)])]) (n := 43) (by decide +kernel)
def mjSm_track4x_16 : MjSm := ([(3, 209, 209, 0, 0), (0, 3, 3, 0, 0), (0, 0, 2, 0, 0)], [(209, 8, (0, 0, 0, 0, 0))], [((7, 0, 0, 0, 0), [], [(209, 8, (0, 3, 3, 0, 0))])], [(210, 8), (210, 9)], 3)
set_option maxRecDepth 100000 in
theorem mjC_track4x_16 : mjCtr (mjSW 0 240 mjWd_track4x) 119 mjSm_track4x_16 := aiOk_ctr mjUW_ok (env := [(91, mjSm_track4x_15)]) (mjEnvC mjC_track4x_15 (fun e he => (by cases he))) (pr := []) (cuts := []) (n := 9) (by decide +kernel)
def mjSm_track4x_17 : MjSm := ([(3, 0, 0, 0, 0), (0, 3, 3, 0, 0), (0, -2147483648, 2147483647, 0, 0), (0, -2147483648, 2147483647, 0, 0)], [(209, 8, (0, 0, 0, 0, 0))], [((0, -2, -2, 0, 0), [(2, -2147483648, -1)], [(209, 8, (0, 0, 0, 0, 0))]), ((0, -2, -2, 0, 0), [(2, 3, 2147483647)], [(209, 8, (0, 0, 0, 0, 0))]), ((0, -2, -2, 0, 0), [(2, 0, 2), (3, 2, 2147483647)], [(209, 8, (0, 0, 0, 0, 0))]), ((0, 3, 3, 0, 0), [(2, 0, 2), (3, 0, 0)], [(209, 8, (0, 3, 3, 0, 0))]), ((0, 0, 0, 0, 0), [(2, 0, 2), (3, 1, 1)], [(209, 8, (0, 3, 3, 0, 0))]), ((0, -2, -2, 0, 0), [(2, 0, 2), (3, -2147483648, -1)], [(209, 8, (0, 0, 0, 0, 0))])], [(210, 2), (210, 3), (210, 7), (210, 8), (210, 9), (211, 3), (211, 4), (211, 5), (211, 6), (211, 7), (212, 255), (213, 255), (214, 255), (216, 255), (217, 255), (218, 255)], 20)
set_option maxRecDepth 100000 in
theorem mjC_track4x_17 : mjCtr (mjSW 0 240 mjWd_track4x) 118 mjSm_track4x_17 := aiOk_ctr mjUW_ok (env := [(119, mjSm_track4x_16), (70, mjSm_track4x_2), (72, mjSm_track4x_10), (68, mjSm_track4x_1)]) (mjEnvC mjC_track4x_16 (mjEnvC mjC_track4x_2 (mjEnvC mjC_track4x_10 (mjEnvC mjC_track4x_1 (fun e he => (by cases he)))))) (pr := [2, 3]) (cuts := []) (n := 34) (by decide +kernel)
def mjWd_track4m : MjWd := [(240, 57, (0, 0, 3))]
theorem mjWd_track4m_ok : mjWdB mjWd_track4m = true := by decide +kernel
def mjSm_track4m_0 : MjSm := ([(3, 240, 240, 0, 0)], [], [((0, 4, 4, 0, 0), [], [])], [], 1)
set_option maxRecDepth 100000 in
theorem mjC_track4m_0 : mjCtr (mjSW 240 290 mjWd_track4m) 220 mjSm_track4m_0 := aiOk_ctr mjUW_ok (env := []) (fun e he => (by cases he)) (pr := []) (cuts := []) (n := 9) (by decide +kernel)
def mjSm_track4m_1 : MjSm := ([(0, 3, 3, 0, 0), (0, 0, 0, 0, 0), (0, 3, 3, 0, 0)], [], [((0, 1, 1, 0, 0), [], [])], [], 1)
set_option maxRecDepth 100000 in
theorem mjC_track4m_1 : mjCtr (mjSW 240 290 mjWd_track4m) 221 mjSm_track4m_1 := aiOk_ctr mjUW_ok (env := []) (fun e he => (by cases he)) (pr := []) (cuts := []) (n := 12) (by decide +kernel)
def mjSm_track4m_2 : MjSm := ([(3, 240, 240, 0, 0), (0, 3, 3, 0, 0)], [], [((0, 1, 1, 0, 0), [], [])], [], 2)
set_option maxRecDepth 100000 in
theorem mjC_track4m_2 : mjCtr (mjSW 240 290 mjWd_track4m) 219 mjSm_track4m_2 := aiOk_ctr mjUW_ok (env := [(221, mjSm_track4m_1), (220, mjSm_track4m_0)]) (mjEnvC mjC_track4m_1 (mjEnvC mjC_track4m_0 (fun e he => (by cases he)))) (pr := []) (cuts := []) (n := 11) (by decide +kernel)
def mjSm_track4m_3 : MjSm := ([(3, 240, 240, 0, 0)], [], [((0, 3, 3, 0, 0), [], [])], [], 1)
set_option maxRecDepth 100000 in
theorem mjC_track4m_3 : mjCtr (mjSW 240 290 mjWd_track4m) 222 mjSm_track4m_3 := aiOk_ctr mjUW_ok (env := []) (fun e he => (by cases he)) (pr := []) (cuts := []) (n := 9) (by decide +kernel)
def mjSm_track4m_4 : MjSm := ([(0, -2147483648, 2147483647, 0, 0), (0, 0, 0, 0, 0), (0, 2, 2, 0, 0)], [], [((0, 1, 1, 0, 0), [(0, 0, 2)], []), ((0, 0, 0, 0, 0), [(0, 3, 2147483647)], []), ((0, 0, 0, 0, 0), [(0, -2147483648, -1)], [])], [], 1)
set_option maxRecDepth 100000 in
theorem mjC_track4m_4 : mjCtr (mjSW 240 290 mjWd_track4m) 221 mjSm_track4m_4 := aiOk_ctr mjUW_ok (env := []) (fun e he => (by cases he)) (pr := [0]) (cuts := []) (n := 12) (by decide +kernel)
def mjSm_track4m_5 : MjSm := ([(3, 240, 240, 0, 0), (0, 3, 3, 0, 0), (0, -2147483648, 2147483647, 0, 0)], [], [((0, 0, 0, 0, 0), [(2, -2147483648, -1)], []), ((0, 0, 0, 0, 0), [(2, 3, 2147483647)], []), ((0, 1, 1, 0, 0), [(2, 0, 2)], [])], [], 3)
set_option maxRecDepth 100000 in
theorem mjC_track4m_5 : mjCtr (mjSW 240 290 mjWd_track4m) 218 mjSm_track4m_5 := aiOk_ctr mjUW_ok (env := [(219, mjSm_track4m_2), (222, mjSm_track4m_3), (221, mjSm_track4m_4)]) (mjEnvC mjC_track4m_2 (mjEnvC mjC_track4m_3 (mjEnvC mjC_track4m_4 (fun e he => (by cases he))))) (pr := [2]) (cuts := []) (n := 18) (by decide +kernel)
def mjSm_track4m_6 : MjSm := ([(0, -2147483648, 2147483647, 0, 0), (0, 0, 0, 0, 0), (0, 1, 1, 0, 0)], [], [((0, 1, 1, 0, 0), [(0, 0, 1)], []), ((0, 0, 0, 0, 0), [(0, 2, 2147483647)], []), ((0, 0, 0, 0, 0), [(0, -2147483648, -1)], [])], [], 1)
set_option maxRecDepth 100000 in
theorem mjC_track4m_6 : mjCtr (mjSW 240 290 mjWd_track4m) 221 mjSm_track4m_6 := aiOk_ctr mjUW_ok (env := []) (fun e he => (by cases he)) (pr := [0]) (cuts := []) (n := 12) (by decide +kernel)
def mjSm_track4m_7 : MjSm := ([(3, 240, 240, 0, 0), (0, 3, 3, 0, 0), (0, 0, 2, 0, 0)], [], [((0, 0, 0, 0, 0), [], [])], [], 1)
set_option maxRecDepth 100000 in
theorem mjC_track4m_7 : mjCtr (mjSW 240 290 mjWd_track4m) 223 mjSm_track4m_7 := aiOk_ctr mjUW_ok (env := []) (fun e he => (by cases he)) (pr := []) (cuts := []) (n := 14) (by decide +kernel)
def mjSm_track4m_8 : MjSm := ([(3, 240, 240, 0, 0), (0, 3, 3, 0, 0), (0, 1, 2, 0, 0)], [], [((0, 0, 0, 0, 0), [], [])], [], 1)
set_option maxRecDepth 100000 in
theorem mjC_track4m_8 : mjCtr (mjSW 240 290 mjWd_track4m) 224 mjSm_track4m_8 := aiOk_ctr mjUW_ok (env := []) (fun e he => (by cases he)) (pr := []) (cuts := []) (n := 14) (by decide +kernel)
def mjSm_track4m_9 : MjSm := ([(3, 240, 240, 0, 0), (0, 3, 3, 0, 0), (0, 1, 2, 0, 0)], [], [((0, 0, 0, 0, 0), [], [])], [], 1)
set_option maxRecDepth 100000 in
theorem mjC_track4m_9 : mjCtr (mjSW 240 290 mjWd_track4m) 223 mjSm_track4m_9 := aiOk_ctr mjUW_ok (env := []) (fun e he => (by cases he)) (pr := []) (cuts := []) (n := 14) (by decide +kernel)
def mjSm_track4m_10 : MjSm := ([(3, 240, 240, 0, 0), (0, 3, 3, 0, 0), (0, 0, 2, 0, 0), (0, 0, 0, 0, 0)], [(240, 57, (0, 0, 0, 0, 0))], [((7, 0, 0, 0, 0), [], [(240, 57, (0, 3, 3, 0, 0))])], [(241, 57), (241, 58)], 3)
set_option maxRecDepth 100000 in
theorem mjC_track4m_10 : mjCtr (mjSW 240 290 mjWd_track4m) 241 mjSm_track4m_10 := aiOk_ctr mjUW_ok (env := [(219, mjSm_track4m_2), (222, mjSm_track4m_3), (224, mjSm_track4m_8), (223, mjSm_track4m_9), (223, mjSm_track4m_7)]) (mjEnvC mjC_track4m_2 (mjEnvC mjC_track4m_3 (mjEnvC mjC_track4m_8 (mjEnvC mjC_track4m_9 (mjEnvC mjC_track4m_7 (fun e he => (by cases he))))))) (pr := []) (cuts := [(37, ([(3, 240, 240, 0, 0), (0, 3, 3, 0, 0), (0, 0, 2, 0, 0), (0, 0, 0, 0, 0), (0, 1, 3, 0, 0), (9, 0, 0, 0, 0)], [], [(240, 57, (0, 3, 3, 0, 0))]), [(0, 0, 49963), (1, 4, 2147483647), (0, 0, 60000), (0, 0, 0), (0, 0, 0), (0, 0, 0), (0, 0, 0), (0, 0, 0)])]) (n := 47) (by decide +kernel)
def mjSm_track4m_11 : MjSm := ([(3, 240, 240, 0, 0), (0, 3, 3, 0, 0), (0, -2147483648, 2147483647, 0, 0), (0, -2147483648, 2147483647, 0, 0)], [(240, 57, (0, 0, 0, 0, 0))], [((0, -2, -2, 0, 0), [(2, 0, 2), (3, -2147483648, -1)], [(240, 57, (0, 0, 0, 0, 0))]), ((0, -2, -2, 0, 0), [(2, 0, 2), (3, 2, 2147483647)], [(240, 57, (0, 0, 0, 0, 0))]), ((0, 3, 3, 0, 0), [(2, 0, 2), (3, 0, 0)], [(240, 57, (0, 3, 3, 0, 0))]), ((0, 0, 0, 0, 0), [(2, 0, 2), (3, 1, 1)], [(240, 57, (0, 3, 3, 0, 0))]), ((0, -2, -2, 0, 0), [(2, 3, 2147483647)], [(240, 57, (0, 0, 0, 0, 0))]), ((0, -2, -2, 0, 0), [(2, -2147483648, -1)], [(240, 57, (0, 0, 0, 0, 0))])], [(241, 57), (241, 58)], 20)
set_option maxRecDepth 100000 in
theorem mjC_track4m_11 : mjCtr (mjSW 240 290 mjWd_track4m) 240 mjSm_track4m_11 := aiOk_ctr mjUW_ok (env := [(241, mjSm_track4m_10), (218, mjSm_track4m_5), (221, mjSm_track4m_6)]) (mjEnvC mjC_track4m_10 (mjEnvC mjC_track4m_5 (mjEnvC mjC_track4m_6 (fun e he => (by cases he))))) (pr := [2, 3]) (cuts := []) (n := 24) (by decide +kernel)
set_option maxRecDepth 100000 in
theorem mjPair_track_4 (sc : List Int32) (s1 s2 s3 : Int32) (h : mjB s1 (3) (3)) : ∃ (v : Int32) (n1 : Nat) (w1 : MjW) (n2 : Nat) (w2 : MjW), mjEx mjTb mjMt sc n1 20 118 0 (mjEntry mjM_118.2.2.1 (.ref 0 :: [.int s1, .int s2, .int s3])) [] mjW0 = some (some (.int v), w1) ∧ mjEx mjTb mjMt sc n2 20 240 0 (mjEntry mjM_240.2.2.1 (.ref 240 :: [.int s1, .int s2, .int s3])) [] w1 = some (some (.int v), w2) ∧ mjShp w1 = mjShp mjW0 ∧ mjShp w2 = mjShp mjW0 := mj_pair (smx := mjSm_track4x_17) (smm := mjSm_track4m_11) mjC_track4x_17 mjC_track4m_11 mjWd_track4x_ok mjWd_track4m_ok (by decide +kernel) (by decide +kernel) (by decide +kernel) (by decide +kernel) (by decide +kernel) ⟨⟨0, rfl, rfl⟩, ⟨⟨s1, rfl, h⟩, ⟨⟨s2, rfl, mjB.all s2⟩, ⟨⟨s3, rfl, mjB.all s3⟩, trivial⟩⟩⟩⟩ ⟨⟨240, rfl, rfl⟩, ⟨⟨s1, rfl, h⟩, ⟨⟨s2, rfl, mjB.all s2⟩, ⟨⟨s3, rfl, mjB.all s3⟩, trivial⟩⟩⟩⟩ rfl rfl
def mjWd_track5x : MjWd := []
theorem mjWd_track5x_ok : mjWdB mjWd_track5x = true := by decide +kernel
def mjSm_track5x_0 : MjSm := ([(3, 193, 193, 0, 0), (0, 4, 2147483647, 0, 0)], [], [((0, 0, 0, 0, 0), [], [])], [], 1)
set_option maxRecDepth 100000 in
theorem mjC_track5x_0 : mjCtr (mjSW 0 240 mjWd_track5x) 69 mjSm_track5x_0 := aiOk_ctr mjUW_ok (env := []) (fun e he => (by cases he)) (pr := []) (cuts := []) (n := 11) (by decide +kernel)
def mjSm_track5x_1 : MjSm := ([(3, 193, 193, 0, 0), (0, 4, 2147483647, 0, 0), (0, -2147483648, 2147483647, 0, 0)], [], [((0, 0, 0, 0, 0), [], [])], [], 2)
set_option maxRecDepth 100000 in
theorem mjC_track5x_1 : mjCtr (mjSW 0 240 mjWd_track5x) 68 mjSm_track5x_1 := aiOk_ctr mjUW_ok (env := [(69, mjSm_track5x_0)]) (mjEnvC mjC_track5x_0 (fun e he => (by cases he))) (pr := []) (cuts := []) (n := 9) (by decide +kernel)
def mjSm_track5x_2 : MjSm := ([(3, 0, 0, 0, 0), (0, 4, 2147483647, 0, 0), (0, -2147483648, 2147483647, 0, 0), (0, -2147483648, 2147483647, 0, 0)], [], [((0, -2, -2, 0, 0), [], [])], [], 20)
set_option maxRecDepth 100000 in
theorem mjC_track5x_2 : mjCtr (mjSW 0 240 mjWd_track5x) 118 mjSm_track5x_2 := aiOk_ctr mjUW_ok (env := [(68, mjSm_track5x_1)]) (mjEnvC mjC_track5x_1 (fun e he => (by cases he))) (pr := []) (cuts := []) (n := 11) (by decide +kernel)
def mjWd_track5m : MjWd := []
theorem mjWd_track5m_ok : mjWdB mjWd_track5m = true := by decide +kernel
def mjSm_track5m_0 : MjSm := ([(3, 240, 240, 0, 0)], [], [((0, 4, 4, 0, 0), [], [])], [], 1)
set_option maxRecDepth 100000 in
theorem mjC_track5m_0 : mjCtr (mjSW 240 290 mjWd_track5m) 220 mjSm_track5m_0 := aiOk_ctr mjUW_ok (env := []) (fun e he => (by cases he)) (pr := []) (cuts := []) (n := 9) (by decide +kernel)
def mjSm_track5m_1 : MjSm := ([(0, 4, 2147483647, 0, 0), (0, 0, 0, 0, 0), (0, 3, 3, 0, 0)], [], [((0, 0, 0, 0, 0), [], [])], [], 1)
set_option maxRecDepth 100000 in
theorem mjC_track5m_1 : mjCtr (mjSW 240 290 mjWd_track5m) 221 mjSm_track5m_1 := aiOk_ctr mjUW_ok (env := []) (fun e he => (by cases he)) (pr := []) (cuts := []) (n := 11) (by decide +kernel)
def mjSm_track5m_2 : MjSm := ([(3, 240, 240, 0, 0), (0, 4, 2147483647, 0, 0)], [], [((0, 0, 0, 0, 0), [], [])], [], 2)
set_option maxRecDepth 100000 in
theorem mjC_track5m_2 : mjCtr (mjSW 240 290 mjWd_track5m) 219 mjSm_track5m_2 := aiOk_ctr mjUW_ok (env := [(220, mjSm_track5m_0), (221, mjSm_track5m_1)]) (mjEnvC mjC_track5m_0 (mjEnvC mjC_track5m_1 (fun e he => (by cases he)))) (pr := []) (cuts := []) (n := 11) (by decide +kernel)
def mjSm_track5m_3 : MjSm := ([(3, 240, 240, 0, 0), (0, 4, 2147483647, 0, 0), (0, -2147483648, 2147483647, 0, 0)], [], [((0, 0, 0, 0, 0), [], [])], [], 3)
set_option maxRecDepth 100000 in
theorem mjC_track5m_3 : mjCtr (mjSW 240 290 mjWd_track5m) 218 mjSm_track5m_3 := aiOk_ctr mjUW_ok (env := [(219, mjSm_track5m_2)]) (mjEnvC mjC_track5m_2 (fun e he => (by cases he))) (pr := []) (cuts := []) (n := 9) (by decide +kernel)
def mjSm_track5m_4 : MjSm := ([(3, 240, 240, 0, 0), (0, 4, 2147483647, 0, 0), (0, -2147483648, 2147483647, 0, 0), (0, -2147483648, 2147483647, 0, 0)], [], [((0, -2, -2, 0, 0), [], [])], [], 20)
set_option maxRecDepth 100000 in
theorem mjC_track5m_4 : mjCtr (mjSW 240 290 mjWd_track5m) 240 mjSm_track5m_4 := aiOk_ctr mjUW_ok (env := [(218, mjSm_track5m_3)]) (mjEnvC mjC_track5m_3 (fun e he => (by cases he))) (pr := []) (cuts := []) (n := 10) (by decide +kernel)
set_option maxRecDepth 100000 in
theorem mjPair_track_5 (sc : List Int32) (s1 s2 s3 : Int32) (h : mjB s1 (4) (2147483647)) : ∃ (v : Int32) (n1 : Nat) (w1 : MjW) (n2 : Nat) (w2 : MjW), mjEx mjTb mjMt sc n1 20 118 0 (mjEntry mjM_118.2.2.1 (.ref 0 :: [.int s1, .int s2, .int s3])) [] mjW0 = some (some (.int v), w1) ∧ mjEx mjTb mjMt sc n2 20 240 0 (mjEntry mjM_240.2.2.1 (.ref 240 :: [.int s1, .int s2, .int s3])) [] w1 = some (some (.int v), w2) ∧ mjShp w1 = mjShp mjW0 ∧ mjShp w2 = mjShp mjW0 := mj_pair (smx := mjSm_track5x_2) (smm := mjSm_track5m_4) mjC_track5x_2 mjC_track5m_4 mjWd_track5x_ok mjWd_track5m_ok (by decide +kernel) (by decide +kernel) (by decide +kernel) (by decide +kernel) (by decide +kernel) ⟨⟨0, rfl, rfl⟩, ⟨⟨s1, rfl, h⟩, ⟨⟨s2, rfl, mjB.all s2⟩, ⟨⟨s3, rfl, mjB.all s3⟩, trivial⟩⟩⟩⟩ ⟨⟨240, rfl, rfl⟩, ⟨⟨s1, rfl, h⟩, ⟨⟨s2, rfl, mjB.all s2⟩, ⟨⟨s3, rfl, mjB.all s3⟩, trivial⟩⟩⟩⟩ rfl rfl
theorem mjPair_track (sc : List Int32) (s1 s2 s3 : Int32) : ∃ (v : Int32) (n1 : Nat) (w1 : MjW) (n2 : Nat) (w2 : MjW), mjEx mjTb mjMt sc n1 20 118 0 (mjEntry mjM_118.2.2.1 (.ref 0 :: [.int s1, .int s2, .int s3])) [] mjW0 = some (some (.int v), w1) ∧ mjEx mjTb mjMt sc n2 20 240 0 (mjEntry mjM_240.2.2.1 (.ref 240 :: [.int s1, .int s2, .int s3])) [] w1 = some (some (.int v), w2) ∧ mjShp w1 = mjShp mjW0 ∧ mjShp w2 = mjShp mjW0 := by
  have a := mjB.all s1
  have a1 := a.1
  have a2 := a.2
  by_cases c0 : s1.toInt ≤ (-1)
  · exact mjPair_track_0 sc s1 s2 s3 ⟨by omega, by omega⟩
  by_cases c1 : s1.toInt ≤ (0)
  · exact mjPair_track_1 sc s1 s2 s3 ⟨by omega, by omega⟩
  by_cases c2 : s1.toInt ≤ (1)
  · exact mjPair_track_2 sc s1 s2 s3 ⟨by omega, by omega⟩
  by_cases c3 : s1.toInt ≤ (2)
  · exact mjPair_track_3 sc s1 s2 s3 ⟨by omega, by omega⟩
  by_cases c4 : s1.toInt ≤ (3)
  · exact mjPair_track_4 sc s1 s2 s3 ⟨by omega, by omega⟩
  exact mjPair_track_5 sc s1 s2 s3 ⟨by omega, by omega⟩
