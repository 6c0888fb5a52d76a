def mjWd_shovelx : MjWd := []
theorem mjWd_shovelx_ok : mjWdB mjWd_shovelx = true := by decide +kernel
def mjSm_shovelx_0 : MjSm := ([(3, 193, 193, 0, 0), (0, -2147483648, 2147483647, 0, 0)], [], [((0, 1, 1, 0, 0), [(1, 0, 3)], []), ((0, 0, 0, 0, 0), [(1, 4, 2147483647)], []), ((0, 0, 0, 0, 0), [(1, -2147483648, -1)], [])], [], 1)
set_option maxRecDepth 100000 in
theorem mjC_shovelx_0 : mjCtr (mjSW 0 240 mjWd_shovelx) 69 mjSm_shovelx_0 := aiOk_ctr mjUW_ok (env := []) (fun e he => (by cases he)) (pr := [1]) (cuts := []) (n := 15) (by decide +kernel)
def mjSm_shovelx_1 : MjSm := ([(3, 193, 193, 0, 0), (0, -2147483648, 2147483647, 0, 0), (0, -2147483648, 2147483647, 0, 0)], [], [((0, 0, 0, 0, 0), [(1, -2147483648, -1)], []), ((0, 0, 0, 0, 0), [(1, 4, 2147483647)], []), ((0, 1, 1, 0, 0), [(1, 0, 3), (2, 0, 2)], []), ((0, 0, 0, 0, 0), [(1, 0, 3), (2, 3, 2147483647)], []), ((0, 0, 0, 0, 0), [(1, 0, 3), (2, -2147483648, -1)], [])], [], 2)
set_option maxRecDepth 100000 in
theorem mjC_shovelx_1 : mjCtr (mjSW 0 240 mjWd_shovelx) 68 mjSm_shovelx_1 := aiOk_ctr mjUW_ok (env := [(69, mjSm_shovelx_0)]) (mjEnvC mjC_shovelx_0 (fun e he => (by cases he))) (pr := [1, 2]) (cuts := []) (n := 19) (by decide +kernel)
def mjSm_shovelx_2 : MjSm := ([(0, 0, 3, 0, 0), (0, 0, 2, 0, 0)], [], [((0, 0, 17, 0, 0), [], [])], [], 1)
set_option maxRecDepth 100000 in
theorem mjC_shovelx_2 : mjCtr (mjSW 0 240 mjWd_shovelx) 48 mjSm_shovelx_2 := aiOk_ctr mjUW_ok (env := []) (fun e he => (by cases he)) (pr := []) (cuts := []) (n := 9) (by decide +kernel)
def mjSm_shovelx_3 : MjSm := ([(3, 18, 18, 0, 0)], [], [((3, 20, 20, 0, 0), [], [])], [], 1)
set_option maxRecDepth 100000 in
theorem mjC_shovelx_3 : mjCtr (mjSW 0 240 mjWd_shovelx) 70 mjSm_shovelx_3 := aiOk_ctr mjUW_ok (env := []) (fun e he => (by cases he)) (pr := []) (cuts := []) (n := 9) (by decide +kernel)
def mjSm_shovelx_4 : MjSm := ([(3, 0, 0, 0, 0), (0, -2147483648, 2147483647, 0, 0), (0, -2147483648, 2147483647, 0, 0)], [], [((0, -1, -1, 0, 0), [(1, 0, 3), (2, -2147483648, -1)], []), ((0, -1, -1, 0, 0), [(1, 0, 3), (2, 3, 2147483647)], []), ((0, -1, -1, 0, 0), [(1, 0, 3), (2, 0, 2)], []), ((0, -1, -1, 0, 0), [(1, 4, 2147483647)], []), ((0, -1, -1, 0, 0), [(1, -2147483648, -1)], [])], [], 3)
set_option maxRecDepth 100000 in
theorem mjC_shovelx_4 : mjCtr (mjSW 0 240 mjWd_shovelx) 103 mjSm_shovelx_4 := aiOk_ctr mjUW_ok (env := [(70, mjSm_shovelx_3), (48, mjSm_shovelx_2), (68, mjSm_shovelx_1)]) (mjEnvC mjC_shovelx_3 (mjEnvC mjC_shovelx_2 (mjEnvC mjC_shovelx_1 (fun e he => (by cases he))))) (pr := [1, 2]) (cuts := []) (n := 24) (by decide +kernel)
def mjWd_shovelm : MjWd := []
theorem mjWd_shovelm_ok : mjWdB mjWd_shovelm = true := by decide +kernel
def mjSm_shovelm_0 : MjSm := ([(3, 240, 240, 0, 0)], [], [((0, 4, 4, 0, 0), [], [])], [], 1)
set_option maxRecDepth 100000 in
theorem mjC_shovelm_0 : mjCtr (mjSW 240 290 mjWd_shovelm) 220 mjSm_shovelm_0 := aiOk_ctr mjUW_ok (env := []) (fun e he => (by cases he)) (pr := []) (cuts := []) (n := 9) (by decide +kernel)
def mjSm_shovelm_1 : MjSm := ([(0, -2147483648, 2147483647, 0, 0), (0, 0, 0, 0, 0), (0, 3, 3, 0, 0)], [], [((0, 1, 1, 0, 0), [(0, 0, 3)], []), ((0, 0, 0, 0, 0), [(0, 4, 2147483647)], []), ((0, 0, 0, 0, 0), [(0, -2147483648, -1)], [])], [], 1)
set_option maxRecDepth 100000 in
theorem mjC_shovelm_1 : mjCtr (mjSW 240 290 mjWd_shovelm) 221 mjSm_shovelm_1 := aiOk_ctr mjUW_ok (env := []) (fun e he => (by cases he)) (pr := [0]) (cuts := []) (n := 12) (by decide +kernel)
def mjSm_shovelm_2 : MjSm := ([(3, 240, 240, 0, 0), (0, -2147483648, 2147483647, 0, 0)], [], [((0, 0, 0, 0, 0), [(1, -2147483648, -1)], []), ((0, 0, 0, 0, 0), [(1, 4, 2147483647)], []), ((0, 1, 1, 0, 0), [(1, 0, 3)], [])], [], 2)
set_option maxRecDepth 100000 in
theorem mjC_shovelm_2 : mjCtr (mjSW 240 290 mjWd_shovelm) 219 mjSm_shovelm_2 := aiOk_ctr mjUW_ok (env := [(220, mjSm_shovelm_0), (221, mjSm_shovelm_1)]) (mjEnvC mjC_shovelm_0 (mjEnvC mjC_shovelm_1 (fun e he => (by cases he)))) (pr := [1]) (cuts := []) (n := 11) (by decide +kernel)
def mjSm_shovelm_3 : MjSm := ([(3, 240, 240, 0, 0)], [], [((0, 3, 3, 0, 0), [], [])], [], 1)
set_option maxRecDepth 100000 in
theorem mjC_shovelm_3 : mjCtr (mjSW 240 290 mjWd_shovelm) 222 mjSm_shovelm_3 := aiOk_ctr mjUW_ok (env := []) (fun e he => (by cases he)) (pr := []) (cuts := []) (n := 9) (by decide +kernel)
def mjSm_shovelm_4 : MjSm := ([(0, -2147483648, 2147483647, 0, 0), (0, 0, 0, 0, 0), (0, 2, 2, 0, 0)], [], [((0, 1, 1, 0, 0), [(0, 0, 2)], []), ((0, 0, 0, 0, 0), [(0, 3, 2147483647)], []), ((0, 0, 0, 0, 0), [(0, -2147483648, -1)], [])], [], 1)
set_option maxRecDepth 100000 in
theorem mjC_shovelm_4 : mjCtr (mjSW 240 290 mjWd_shovelm) 221 mjSm_shovelm_4 := aiOk_ctr mjUW_ok (env := []) (fun e he => (by cases he)) (pr := [0]) (cuts := []) (n := 12) (by decide +kernel)
def mjSm_shovelm_5 : MjSm := ([(3, 240, 240, 0, 0), (0, -2147483648, 2147483647, 0, 0), (0, -2147483648, 2147483647, 0, 0)], [], [((0, 0, 0, 0, 0), [(1, 0, 3), (2, -2147483648, -1)], []), ((0, 0, 0, 0, 0), [(1, 0, 3), (2, 3, 2147483647)], []), ((0, 1, 1, 0, 0), [(1, 0, 3), (2, 0, 2)], []), ((0, 0, 0, 0, 0), [(1, 4, 2147483647)], []), ((0, 0, 0, 0, 0), [(1, -2147483648, -1)], [])], [], 3)
set_option maxRecDepth 100000 in
theorem mjC_shovelm_5 : mjCtr (mjSW 240 290 mjWd_shovelm) 218 mjSm_shovelm_5 := aiOk_ctr mjUW_ok (env := [(222, mjSm_shovelm_3), (221, mjSm_shovelm_4), (219, mjSm_shovelm_2)]) (mjEnvC mjC_shovelm_3 (mjEnvC mjC_shovelm_4 (mjEnvC mjC_shovelm_2 (fun e he => (by cases he))))) (pr := [1, 2]) (cuts := []) (n := 18) (by decide +kernel)
def mjSm_shovelm_6 : MjSm := ([(3, 240, 240, 0, 0), (0, 0, 3, 0, 0), (0, 0, 2, 0, 0)], [], [((0, 0, 0, 0, 0), [], [])], [], 1)
set_option maxRecDepth 100000 in
theorem mjC_shovelm_6 : mjCtr (mjSW 240 290 mjWd_shovelm) 223 mjSm_shovelm_6 := aiOk_ctr mjUW_ok (env := []) (fun e he => (by cases he)) (pr := []) (cuts := []) (n := 14) (by decide +kernel)
def mjSm_shovelm_7 : MjSm := ([(3, 240, 240, 0, 0), (0, -2147483648, 2147483647, 0, 0), (0, -2147483648, 2147483647, 0, 0)], [], [((0, -1, -1, 0, 0), [(1, -2147483648, -1)], []), ((0, -1, -1, 0, 0), [(1, 4, 2147483647)], []), ((0, -1, -1, 0, 0), [(1, 0, 3), (2, 0, 2)], []), ((0, -1, -1, 0, 0), [(1, 0, 3), (2, 3, 2147483647)], []), ((0, -1, -1, 0, 0), [(1, 0, 3), (2, -2147483648, -1)], [])], [], 4)
set_option maxRecDepth 100000 in
theorem mjC_shovelm_7 : mjCtr (mjSW 240 290 mjWd_shovelm) 261 mjSm_shovelm_7 := aiOk_ctr mjUW_ok (env := [(223, mjSm_shovelm_6), (218, mjSm_shovelm_5)]) (mjEnvC mjC_shovelm_6 (mjEnvC mjC_shovelm_5 (fun e he => (by cases he)))) (pr := [1, 2]) (cuts := []) (n := 15) (by decide +kernel)
set_option maxRecDepth 100000 in
theorem mjPair_shovel (sc : List Int32) (s1 s2 : Int32)  : ∃ (v : Int32) (n1 : Nat) (w1 : MjW) (n2 : Nat) (w2 : MjW), mjEx mjTb mjMt sc n1 3 103 0 (mjEntry mjM_103.2.2.1 (.ref 0 :: [.int s1, .int s2])) [] mjW0 = some (some (.int v), w1) ∧ mjEx mjTb mjMt sc n2 4 261 0 (mjEntry mjM_261.2.2.1 (.ref 240 :: [.int s1, .int s2])) [] w1 = some (some (.int v), w2) ∧ mjShp w1 = mjShp mjW0 ∧ mjShp w2 = mjShp mjW0 := mj_pair (smx := mjSm_shovelx_4) (smm := mjSm_shovelm_7) mjC_shovelx_4 mjC_shovelm_7 mjWd_shovelx_ok mjWd_shovelm_ok (by decide +kernel) (by decide +kernel) (by decide +kernel) (by decide +kernel) (by decide +kernel) ⟨⟨0, rfl, rfl⟩, ⟨⟨s1, rfl, mjB.all s1⟩, ⟨⟨s2, rfl, mjB.all s2⟩, trivial⟩⟩⟩ ⟨⟨240, rfl, rfl⟩, ⟨⟨s1, rfl, mjB.all s1⟩, ⟨⟨s2, rfl, mjB.all s2⟩, trivial⟩⟩⟩ rfl rfl
