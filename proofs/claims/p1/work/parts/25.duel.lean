def mjWd_duelx : MjWd := []
theorem mjWd_duelx_ok : mjWdB mjWd_duelx = true := by decide +kernel
def mjSm_duelx_0 : MjSm := ([(3, 193, 193, 0, 0), (0, -2147483648, 2147483647, 0, 0)], [], [((0, 0, 0, 0, 0), [(1, 0, 2147483647)], []), ((0, 0, 0, 0, 0), [(1, -2147483648, -1)], [])], [], 1)
set_option maxRecDepth 100000 in
theorem mjC_duelx_0 : mjCtr (mjSW 0 240 mjWd_duelx) 83 mjSm_duelx_0 := aiOk_ctr mjUW_ok (env := []) (fun e he => (by cases he)) (pr := [1]) (cuts := []) (n := 11) (by decide +kernel)
def mjSm_duelx_1 : MjSm := ([(3, 0, 0, 0, 0), (0, -2147483648, 2147483647, 0, 0), (0, -2147483648, 2147483647, 0, 0)], [], [((0, -1, -1, 0, 0), [(1, -2147483648, -1)], []), ((0, -1, -1, 0, 0), [(1, 0, 2147483647)], [])], [(1, 12)], 2)
set_option maxRecDepth 100000 in
theorem mjC_duelx_1 : mjCtr (mjSW 0 240 mjWd_duelx) 144 mjSm_duelx_1 := aiOk_ctr mjUW_ok (env := [(83, mjSm_duelx_0)]) (mjEnvC mjC_duelx_0 (fun e he => (by cases he))) (pr := [1]) (cuts := []) (n := 13) (by decide +kernel)
def mjWd_duelm : MjWd := []
theorem mjWd_duelm_ok : mjWdB mjWd_duelm = true := by decide +kernel
def mjSm_duelm_0 : MjSm := ([(0, -2147483648, 2147483647, 0, 0), (0, 0, 0, 0, 0), (0, -1, -1, 0, 0)], [], [((0, 0, 0, 0, 0), [(0, 0, 2147483647)], []), ((0, 0, 0, 0, 0), [(0, -2147483648, -1)], [])], [], 1)
set_option maxRecDepth 100000 in
theorem mjC_duelm_0 : mjCtr (mjSW 240 290 mjWd_duelm) 221 mjSm_duelm_0 := aiOk_ctr mjUW_ok (env := []) (fun e he => (by cases he)) (pr := [0]) (cuts := []) (n := 11) (by decide +kernel)
def mjSm_duelm_1 : MjSm := ([(3, 240, 240, 0, 0), (0, -2147483648, 2147483647, 0, 0)], [], [((0, 0, 0, 0, 0), [(1, -2147483648, -1)], []), ((0, 0, 0, 0, 0), [(1, 0, 2147483647)], [])], [], 2)
set_option maxRecDepth 100000 in
theorem mjC_duelm_1 : mjCtr (mjSW 240 290 mjWd_duelm) 236 mjSm_duelm_1 := aiOk_ctr mjUW_ok (env := [(221, mjSm_duelm_0)]) (mjEnvC mjC_duelm_0 (fun e he => (by cases he))) (pr := [1]) (cuts := []) (n := 14) (by decide +kernel)
def mjSm_duelm_2 : MjSm := ([(3, 240, 240, 0, 0), (0, -2147483648, 2147483647, 0, 0), (0, -2147483648, 2147483647, 0, 0)], [], [((0, -1, -1, 0, 0), [(1, 0, 2147483647)], []), ((0, -1, -1, 0, 0), [(1, -2147483648, -1)], [])], [(241, 63)], 3)
set_option maxRecDepth 100000 in
theorem mjC_duelm_2 : mjCtr (mjSW 240 290 mjWd_duelm) 293 mjSm_duelm_2 := aiOk_ctr mjUW_ok (env := [(236, mjSm_duelm_1)]) (mjEnvC mjC_duelm_1 (fun e he => (by cases he))) (pr := [1]) (cuts := []) (n := 12) (by decide +kernel)
set_option maxRecDepth 100000 in
theorem mjPair_duel (sc : List Int32) (s1 s2 : Int32)  : ∃ (v : Int32) (n1 : Nat) (w1 : MjW) (n2 : Nat) (w2 : MjW), mjEx mjTb mjMt sc n1 2 144 0 (mjEntry mjM_144.2.2.1 (.ref 0 :: [.int s1, .int s2])) [] mjW0 = some (some (.int v), w1) ∧ mjEx mjTb mjMt sc n2 3 293 0 (mjEntry mjM_293.2.2.1 (.ref 240 :: [.int s1, .int s2])) [] w1 = some (some (.int v), w2) ∧ mjShp w1 = mjShp mjW0 ∧ mjShp w2 = mjShp mjW0 := mj_pair (smx := mjSm_duelx_1) (smm := mjSm_duelm_2) mjC_duelx_1 mjC_duelm_2 mjWd_duelx_ok mjWd_duelm_ok (by decide +kernel) (by decide +kernel) (by decide +kernel) (by decide +kernel) (by decide +kernel) ⟨⟨0, rfl, rfl⟩, ⟨⟨s1, rfl, mjB.all s1⟩, ⟨⟨s2, rfl, mjB.all s2⟩, trivial⟩⟩⟩ ⟨⟨240, rfl, rfl⟩, ⟨⟨s1, rfl, mjB.all s1⟩, ⟨⟨s2, rfl, mjB.all s2⟩, trivial⟩⟩⟩ rfl rfl
