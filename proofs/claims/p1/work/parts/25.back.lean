def mjWd_backx : MjWd := []
theorem mjWd_backx_ok : mjWdB mjWd_backx = true := by decide +kernel
def mjSm_backx_0 : MjSm := ([(3, 0, 0, 0, 0), (0, -2147483648, 2147483647, 0, 0)], [], [((0, -1, -1, 0, 0), [(1, 0, 2)], []), ((0, -1, -1, 0, 0), [(1, 3, 2147483647)], []), ((0, -1, -1, 0, 0), [(1, -2147483648, -1)], [])], [], 1)
set_option maxRecDepth 100000 in
theorem mjC_backx_0 : mjCtr (mjSW 0 240 mjWd_backx) 173 mjSm_backx_0 := aiOk_ctr mjUW_ok (env := []) (fun e he => (by cases he)) (pr := [1]) (cuts := []) (n := 17) (by decide +kernel)
def mjWd_backm : MjWd := []
theorem mjWd_backm_ok : mjWdB mjWd_backm = true := by decide +kernel
def mjSm_backm_0 : MjSm := ([(0, -2147483648, 2147483647, 0, 0), (0, 0, 0, 0, 0), (0, 2, 2, 0, 0)], [], [((0, 1, 1, 0, 0), [(0, 0, 2)], []), ((0, 0, 0, 0, 0), [(0, 3, 2147483647)], []), ((0, 0, 0, 0, 0), [(0, -2147483648, -1)], [])], [], 1)
set_option maxRecDepth 100000 in
theorem mjC_backm_0 : mjCtr (mjSW 240 290 mjWd_backm) 221 mjSm_backm_0 := aiOk_ctr mjUW_ok (env := []) (fun e he => (by cases he)) (pr := [0]) (cuts := []) (n := 12) (by decide +kernel)
def mjSm_backm_1 : MjSm := ([(3, 240, 240, 0, 0), (0, -2147483648, 2147483647, 0, 0)], [], [((0, -1, -1, 0, 0), [(1, -2147483648, -1)], []), ((0, -1, -1, 0, 0), [(1, 3, 2147483647)], []), ((0, -1, -1, 0, 0), [(1, 0, 2)], [])], [], 2)
set_option maxRecDepth 100000 in
theorem mjC_backm_1 : mjCtr (mjSW 240 290 mjWd_backm) 309 mjSm_backm_1 := aiOk_ctr mjUW_ok (env := [(221, mjSm_backm_0)]) (mjEnvC mjC_backm_0 (fun e he => (by cases he))) (pr := [1]) (cuts := []) (n := 15) (by decide +kernel)
set_option maxRecDepth 100000 in
theorem mjPair_back (sc : List Int32) (s1 : Int32)  : ∃ (v : Int32) (n1 : Nat) (w1 : MjW) (n2 : Nat) (w2 : MjW), mjEx mjTb mjMt sc n1 1 173 0 (mjEntry mjM_173.2.2.1 (.ref 0 :: [.int s1])) [] mjW0 = some (some (.int v), w1) ∧ mjEx mjTb mjMt sc n2 2 309 0 (mjEntry mjM_309.2.2.1 (.ref 240 :: [.int s1])) [] w1 = some (some (.int v), w2) ∧ mjShp w1 = mjShp mjW0 ∧ mjShp w2 = mjShp mjW0 := mj_pair (smx := mjSm_backx_0) (smm := mjSm_backm_1) mjC_backx_0 mjC_backm_1 mjWd_backx_ok mjWd_backm_ok (by decide +kernel) (by decide +kernel) (by decide +kernel) (by decide +kernel) (by decide +kernel) ⟨⟨0, rfl, rfl⟩, ⟨⟨s1, rfl, mjB.all s1⟩, trivial⟩⟩ ⟨⟨240, rfl, rfl⟩, ⟨⟨s1, rfl, mjB.all s1⟩, trivial⟩⟩ rfl rfl
