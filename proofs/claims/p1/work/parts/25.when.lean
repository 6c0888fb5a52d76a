def mjWd_whenx : MjWd := []
theorem mjWd_whenx_ok : mjWdB mjWd_whenx = true := by decide +kernel
def mjSm_whenx_0 : MjSm := ([(3, 193, 193, 0, 0), (0, -2147483648, 2147483647, 0, 0)], [], [((0, 0, 0, 0, 0), [(1, 0, 2147483647)], []), ((0, 0, 0, 0, 0), [(1, -2147483648, -1)], [])], [], 1)
set_option maxRecDepth 100000 in
theorem mjC_whenx_0 : mjCtr (mjSW 0 240 mjWd_whenx) 80 mjSm_whenx_0 := aiOk_ctr mjUW_ok (env := []) (fun e he => (by cases he)) (pr := [1]) (cuts := []) (n := 11) (by decide +kernel)
def mjSm_whenx_1 : MjSm := ([(3, 0, 0, 0, 0), (0, -2147483648, 2147483647, 0, 0)], [], [((0, -1, -1, 0, 0), [(1, -2147483648, -1)], []), ((0, -1, -1, 0, 0), [(1, 0, 2147483647)], [])], [], 2)
set_option maxRecDepth 100000 in
theorem mjC_whenx_1 : mjCtr (mjSW 0 240 mjWd_whenx) 114 mjSm_whenx_1 := aiOk_ctr mjUW_ok (env := [(80, mjSm_whenx_0)]) (mjEnvC mjC_whenx_0 (fun e he => (by cases he))) (pr := [1]) (cuts := []) (n := 10) (by decide +kernel)
def mjWd_whenm : MjWd := []
theorem mjWd_whenm_ok : mjWdB mjWd_whenm = true := by decide +kernel
def mjSm_whenm_0 : MjSm := ([(3, 240, 240, 0, 0)], [], [((0, 0, 0, 0, 0), [], [])], [], 1)
set_option maxRecDepth 100000 in
theorem mjC_whenm_0 : mjCtr (mjSW 240 290 mjWd_whenm) 179 mjSm_whenm_0 := aiOk_ctr mjUW_ok (env := []) (fun e he => (by cases he)) (pr := []) (cuts := []) (n := 9) (by decide +kernel)
def mjSm_whenm_1 : MjSm := ([(0, -2147483648, 2147483647, 0, 0), (0, 0, 0, 0, 0), (0, -1, -1, 0, 0)], [], [((0, 0, 0, 0, 0), [(0, 0, 2147483647)], []), ((0, 0, 0, 0, 0), [(0, -2147483648, -1)], [])], [], 1)
set_option maxRecDepth 100000 in
theorem mjC_whenm_1 : mjCtr (mjSW 240 290 mjWd_whenm) 221 mjSm_whenm_1 := aiOk_ctr mjUW_ok (env := []) (fun e he => (by cases he)) (pr := [0]) (cuts := []) (n := 11) (by decide +kernel)
def mjSm_whenm_2 : MjSm := ([(3, 240, 240, 0, 0), (0, -2147483648, 2147483647, 0, 0)], [], [((0, 0, 0, 0, 0), [(1, -2147483648, -1)], []), ((0, 0, 0, 0, 0), [(1, 0, 2147483647)], [])], [], 2)
set_option maxRecDepth 100000 in
theorem mjC_whenm_2 : mjCtr (mjSW 240 290 mjWd_whenm) 234 mjSm_whenm_2 := aiOk_ctr mjUW_ok (env := [(179, mjSm_whenm_0), (221, mjSm_whenm_1)]) (mjEnvC mjC_whenm_0 (mjEnvC mjC_whenm_1 (fun e he => (by cases he)))) (pr := [1]) (cuts := []) (n := 11) (by decide +kernel)
def mjSm_whenm_3 : MjSm := ([(3, 240, 240, 0, 0), (0, -2147483648, 2147483647, 0, 0)], [], [((0, -1, -1, 0, 0), [(1, 0, 2147483647)], []), ((0, -1, -1, 0, 0), [(1, -2147483648, -1)], [])], [], 3)
set_option maxRecDepth 100000 in
theorem mjC_whenm_3 : mjCtr (mjSW 240 290 mjWd_whenm) 274 mjSm_whenm_3 := aiOk_ctr mjUW_ok (env := [(234, mjSm_whenm_2)]) (mjEnvC mjC_whenm_2 (fun e he => (by cases he))) (pr := [1]) (cuts := []) (n := 9) (by decide +kernel)
set_option maxRecDepth 100000 in
theorem mjPair_when (sc : List Int32) (s1 : Int32)  : ∃ (v : Int32) (n1 : Nat) (w1 : MjW) (n2 : Nat) (w2 : MjW), mjEx mjTb mjMt sc n1 2 114 0 (mjEntry mjM_114.2.2.1 (.ref 0 :: [.int s1])) [] mjW0 = some (some (.int v), w1) ∧ mjEx mjTb mjMt sc n2 3 274 0 (mjEntry mjM_274.2.2.1 (.ref 240 :: [.int s1])) [] w1 = some (some (.int v), w2) ∧ mjShp w1 = mjShp mjW0 ∧ mjShp w2 = mjShp mjW0 := mj_pair (smx := mjSm_whenx_1) (smm := mjSm_whenm_3) mjC_whenx_1 mjC_whenm_3 mjWd_whenx_ok mjWd_whenm_ok (by decide +kernel) (by decide +kernel) (by decide +kernel) (by decide +kernel) (by decide +kernel) ⟨⟨0, rfl, rfl⟩, ⟨⟨s1, rfl, mjB.all s1⟩, trivial⟩⟩ ⟨⟨240, rfl, rfl⟩, ⟨⟨s1, rfl, mjB.all s1⟩, trivial⟩⟩ rfl rfl
