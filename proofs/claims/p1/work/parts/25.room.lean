def mjWd_roomx : MjWd := []
theorem mjWd_roomx_ok : mjWdB mjWd_roomx = true := by decide +kernel
def mjSm_roomx_0 : MjSm := ([(3, 193, 193, 0, 0), (0, -2147483648, 2147483647, 0, 0)], [], [((0, 0, 0, 0, 0), [(1, 0, 2147483647)], []), ((0, 0, 0, 0, 0), [(1, -2147483648, -1)], [])], [], 1)
set_option maxRecDepth 100000 in
theorem mjC_roomx_0 : mjCtr (mjSW 0 240 mjWd_roomx) 80 mjSm_roomx_0 := aiOk_ctr mjUW_ok (env := []) (fun e he => (by cases he)) (pr := [1]) (cuts := []) (n := 11) (by decide +kernel)
def mjSm_roomx_1 : MjSm := ([(3, 0, 0, 0, 0), (0, -2147483648, 2147483647, 0, 0), (0, -2147483648, 2147483647, 0, 0)], [], [((0, -1, -1, 0, 0), [(1, -2147483648, -1)], []), ((0, -1, -1, 0, 0), [(1, 0, 2147483647)], [])], [], 2)
set_option maxRecDepth 100000 in
theorem mjC_roomx_1 : mjCtr (mjSW 0 240 mjWd_roomx) 79 mjSm_roomx_1 := aiOk_ctr mjUW_ok (env := [(80, mjSm_roomx_0)]) (mjEnvC mjC_roomx_0 (fun e he => (by cases he))) (pr := [1]) (cuts := []) (n := 10) (by decide +kernel)
def mjWd_roomm : MjWd := []
theorem mjWd_roomm_ok : mjWdB mjWd_roomm = true := by decide +kernel
def mjSm_roomm_0 : MjSm := ([(3, 240, 240, 0, 0)], [], [((0, 0, 0, 0, 0), [], [])], [], 1)
set_option maxRecDepth 100000 in
theorem mjC_roomm_0 : mjCtr (mjSW 240 290 mjWd_roomm) 179 mjSm_roomm_0 := aiOk_ctr mjUW_ok (env := []) (fun e he => (by cases he)) (pr := []) (cuts := []) (n := 9) (by decide +kernel)
def mjSm_roomm_1 : MjSm := ([(0, -2147483648, 2147483647, 0, 0), (0, 0, 0, 0, 0), (0, -1, -1, 0, 0)], [], [((0, 0, 0, 0, 0), [(0, 0, 2147483647)], []), ((0, 0, 0, 0, 0), [(0, -2147483648, -1)], [])], [], 1)
set_option maxRecDepth 100000 in
theorem mjC_roomm_1 : mjCtr (mjSW 240 290 mjWd_roomm) 221 mjSm_roomm_1 := aiOk_ctr mjUW_ok (env := []) (fun e he => (by cases he)) (pr := [0]) (cuts := []) (n := 11) (by decide +kernel)
def mjSm_roomm_2 : MjSm := ([(3, 240, 240, 0, 0), (0, -2147483648, 2147483647, 0, 0)], [], [((0, 0, 0, 0, 0), [(1, -2147483648, -1)], []), ((0, 0, 0, 0, 0), [(1, 0, 2147483647)], [])], [], 2)
set_option maxRecDepth 100000 in
theorem mjC_roomm_2 : mjCtr (mjSW 240 290 mjWd_roomm) 234 mjSm_roomm_2 := aiOk_ctr mjUW_ok (env := [(179, mjSm_roomm_0), (221, mjSm_roomm_1)]) (mjEnvC mjC_roomm_0 (mjEnvC mjC_roomm_1 (fun e he => (by cases he)))) (pr := [1]) (cuts := []) (n := 11) (by decide +kernel)
def mjSm_roomm_3 : MjSm := ([(3, 240, 240, 0, 0), (0, -2147483648, 2147483647, 0, 0), (0, -2147483648, 2147483647, 0, 0)], [], [((0, -1, -1, 0, 0), [(1, 0, 2147483647)], []), ((0, -1, -1, 0, 0), [(1, -2147483648, -1)], [])], [], 3)
set_option maxRecDepth 100000 in
theorem mjC_roomm_3 : mjCtr (mjSW 240 290 mjWd_roomm) 233 mjSm_roomm_3 := aiOk_ctr mjUW_ok (env := [(234, mjSm_roomm_2)]) (mjEnvC mjC_roomm_2 (fun e he => (by cases he))) (pr := [1]) (cuts := []) (n := 9) (by decide +kernel)
set_option maxRecDepth 100000 in
theorem mjPair_room (sc : List Int32) (s1 s2 : Int32)  : ∃ (v : Int32) (n1 : Nat) (w1 : MjW) (n2 : Nat) (w2 : MjW), mjEx mjTb mjMt sc n1 2 79 0 (mjEntry mjM_79.2.2.1 (.ref 0 :: [.int s1, .int s2])) [] mjW0 = some (some (.int v), w1) ∧ mjEx mjTb mjMt sc n2 3 233 0 (mjEntry mjM_233.2.2.1 (.ref 240 :: [.int s1, .int s2])) [] w1 = some (some (.int v), w2) ∧ mjShp w1 = mjShp mjW0 ∧ mjShp w2 = mjShp mjW0 := mj_pair (smx := mjSm_roomx_1) (smm := mjSm_roomm_3) mjC_roomx_1 mjC_roomm_3 mjWd_roomx_ok mjWd_roomm_ok (by decide +kernel) (by decide +kernel) (by decide +kernel) (by decide +kernel) (by decide +kernel) ⟨⟨0, rfl, rfl⟩, ⟨⟨s1, rfl, mjB.all s1⟩, ⟨⟨s2, rfl, mjB.all s2⟩, trivial⟩⟩⟩ ⟨⟨240, rfl, rfl⟩, ⟨⟨s1, rfl, mjB.all s1⟩, ⟨⟨s2, rfl, mjB.all s2⟩, trivial⟩⟩⟩ rfl rfl
