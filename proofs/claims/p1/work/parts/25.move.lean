def mjWd_movex : MjWd := []
theorem mjWd_movex_ok : mjWdB mjWd_movex = true := by decide +kernel
def mjSm_movex_0 : MjSm := ([(3, 193, 193, 0, 0), (0, -2147483648, 2147483647, 0, 0)], [], [((0, 0, 0, 0, 0), [(1, 0, 2147483647)], []), ((0, 0, 0, 0, 0), [(1, -2147483648, -1)], [])], [], 1)
set_option maxRecDepth 100000 in
theorem mjC_movex_0 : mjCtr (mjSW 0 240 mjWd_movex) 80 mjSm_movex_0 := aiOk_ctr mjUW_ok (env := []) (fun e he => (by cases he)) (pr := [1]) (cuts := []) (n := 11) (by decide +kernel)
def mjSm_movex_1 : MjSm := ([(3, 0, 0, 0, 0), (0, -2147483648, 2147483647, 0, 0), (0, -2147483648, 2147483647, 0, 0)], [], [((0, -1, -1, 0, 0), [(1, -2147483648, -1)], []), ((0, -1, -1, 0, 0), [(1, 0, 2147483647)], [])], [], 2)
set_option maxRecDepth 100000 in
theorem mjC_movex_1 : mjCtr (mjSW 0 240 mjWd_movex) 97 mjSm_movex_1 := aiOk_ctr mjUW_ok (env := [(80, mjSm_movex_0)]) (mjEnvC mjC_movex_0 (fun e he => (by cases he))) (pr := [1]) (cuts := []) (n := 10) (by decide +kernel)
def mjWd_movem : MjWd := []
theorem mjWd_movem_ok : mjWdB mjWd_movem = true := by decide +kernel
def mjSm_movem_0 : MjSm := ([(3, 240, 240, 0, 0)], [], [((0, 0, 0, 0, 0), [], [])], [], 1)
set_option maxRecDepth 100000 in
theorem mjC_movem_0 : mjCtr (mjSW 240 290 mjWd_movem) 179 mjSm_movem_0 := aiOk_ctr mjUW_ok (env := []) (fun e he => (by cases he)) (pr := []) (cuts := []) (n := 9) (by decide +kernel)
def mjSm_movem_1 : MjSm := ([(0, -2147483648, 2147483647, 0, 0), (0, 0, 0, 0, 0), (0, -1, -1, 0, 0)], [], [((0, 0, 0, 0, 0), [(0, 0, 2147483647)], []), ((0, 0, 0, 0, 0), [(0, -2147483648, -1)], [])], [], 1)
set_option maxRecDepth 100000 in
theorem mjC_movem_1 : mjCtr (mjSW 240 290 mjWd_movem) 221 mjSm_movem_1 := aiOk_ctr mjUW_ok (env := []) (fun e he => (by cases he)) (pr := [0]) (cuts := []) (n := 11) (by decide +kernel)
def mjSm_movem_2 : MjSm := ([(3, 240, 240, 0, 0), (0, -2147483648, 2147483647, 0, 0)], [], [((0, 0, 0, 0, 0), [(1, -2147483648, -1)], []), ((0, 0, 0, 0, 0), [(1, 0, 2147483647)], [])], [], 2)
set_option maxRecDepth 100000 in
theorem mjC_movem_2 : mjCtr (mjSW 240 290 mjWd_movem) 234 mjSm_movem_2 := aiOk_ctr mjUW_ok (env := [(179, mjSm_movem_0), (221, mjSm_movem_1)]) (mjEnvC mjC_movem_0 (mjEnvC mjC_movem_1 (fun e he => (by cases he)))) (pr := [1]) (cuts := []) (n := 11) (by decide +kernel)
def mjSm_movem_3 : MjSm := ([(3, 240, 240, 0, 0), (0, -2147483648, 2147483647, 0, 0), (0, -2147483648, 2147483647, 0, 0)], [], [((0, -1, -1, 0, 0), [(1, 0, 2147483647)], []), ((0, -1, -1, 0, 0), [(1, -2147483648, -1)], [])], [], 3)
set_option maxRecDepth 100000 in
theorem mjC_movem_3 : mjCtr (mjSW 240 290 mjWd_movem) 254 mjSm_movem_3 := aiOk_ctr mjUW_ok (env := [(234, mjSm_movem_2)]) (mjEnvC mjC_movem_2 (fun e he => (by cases he))) (pr := [1]) (cuts := []) (n := 9) (by decide +kernel)
set_option maxRecDepth 100000 in
theorem mjPair_move (sc : List Int32) (s1 s2 : Int32)  : ∃ (v : Int32) (n1 : Nat) (w1 : MjW) (n2 : Nat) (w2 : MjW), mjEx mjTb mjMt sc n1 2 97 0 (mjEntry mjM_97.2.2.1 (.ref 0 :: [.int s1, .int s2])) [] mjW0 = some (some (.int v), w1) ∧ mjEx mjTb mjMt sc n2 3 254 0 (mjEntry mjM_254.2.2.1 (.ref 240 :: [.int s1, .int s2])) [] w1 = some (some (.int v), w2) ∧ mjShp w1 = mjShp mjW0 ∧ mjShp w2 = mjShp mjW0 := mj_pair (smx := mjSm_movex_1) (smm := mjSm_movem_3) mjC_movex_1 mjC_movem_3 mjWd_movex_ok mjWd_movem_ok (by decide +kernel) (by decide +kernel) (by decide +kernel) (by decide +kernel) (by decide +kernel) ⟨⟨0, rfl, rfl⟩, ⟨⟨s1, rfl, mjB.all s1⟩, ⟨⟨s2, rfl, mjB.all s2⟩, trivial⟩⟩⟩ ⟨⟨240, rfl, rfl⟩, ⟨⟨s1, rfl, mjB.all s1⟩, ⟨⟨s2, rfl, mjB.all s2⟩, trivial⟩⟩⟩ rfl rfl
