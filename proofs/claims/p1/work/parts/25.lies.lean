def mjWd_liesx : MjWd := []
theorem mjWd_liesx_ok : mjWdB mjWd_liesx = true := by decide +kernel
def mjSm_liesx_0 : MjSm := ([(3, 0, 0, 0, 0), (0, -2147483648, 2147483647, 0, 0)], [], [((0, -2, -2, 0, 0), [(1, 0, 2147483647)], []), ((0, -2, -2, 0, 0), [(1, -2147483648, -1)], [])], [], 1)
set_option maxRecDepth 100000 in
theorem mjC_liesx_0 : mjCtr (mjSW 0 240 mjWd_liesx) 157 mjSm_liesx_0 := aiOk_ctr mjUW_ok (env := []) (fun e he => (by cases he)) (pr := [1]) (cuts := []) (n := 12) (by decide +kernel)
def mjWd_liesm : MjWd := []
theorem mjWd_liesm_ok : mjWdB mjWd_liesm = true := by decide +kernel
def mjSm_liesm_0 : MjSm := ([(0, -2147483648, 2147483647, 0, 0), (0, 0, 0, 0, 0), (0, -1, -1, 0, 0)], [], [((0, 0, 0, 0, 0), [(0, 0, 2147483647)], []), ((0, 0, 0, 0, 0), [(0, -2147483648, -1)], [])], [], 1)
set_option maxRecDepth 100000 in
theorem mjC_liesm_0 : mjCtr (mjSW 240 290 mjWd_liesm) 221 mjSm_liesm_0 := aiOk_ctr mjUW_ok (env := []) (fun e he => (by cases he)) (pr := [0]) (cuts := []) (n := 11) (by decide +kernel)
def mjSm_liesm_1 : MjSm := ([(3, 240, 240, 0, 0), (0, -2147483648, 2147483647, 0, 0)], [], [((0, -2, -2, 0, 0), [(1, -2147483648, -1)], []), ((0, -2, -2, 0, 0), [(1, 0, 2147483647)], [])], [], 2)
set_option maxRecDepth 100000 in
theorem mjC_liesm_1 : mjCtr (mjSW 240 290 mjWd_liesm) 284 mjSm_liesm_1 := aiOk_ctr mjUW_ok (env := [(221, mjSm_liesm_0)]) (mjEnvC mjC_liesm_0 (fun e he => (by cases he))) (pr := [1]) (cuts := []) (n := 13) (by decide +kernel)
set_option maxRecDepth 100000 in
theorem mjPair_lies (sc : List Int32) (s1 : Int32)  : ∃ (v : Int32) (n1 : Nat) (w1 : MjW) (n2 : Nat) (w2 : MjW), mjEx mjTb mjMt sc n1 1 157 0 (mjEntry mjM_157.2.2.1 (.ref 0 :: [.int s1])) [] mjW0 = some (some (.int v), w1) ∧ mjEx mjTb mjMt sc n2 2 284 0 (mjEntry mjM_284.2.2.1 (.ref 240 :: [.int s1])) [] w1 = some (some (.int v), w2) ∧ mjShp w1 = mjShp mjW0 ∧ mjShp w2 = mjShp mjW0 := mj_pair (smx := mjSm_liesx_0) (smm := mjSm_liesm_1) mjC_liesx_0 mjC_liesm_1 mjWd_liesx_ok mjWd_liesm_ok (by decide +kernel) (by decide +kernel) (by decide +kernel) (by decide +kernel) (by decide +kernel) ⟨⟨0, rfl, rfl⟩, ⟨⟨s1, rfl, mjB.all s1⟩, trivial⟩⟩ ⟨⟨240, rfl, rfl⟩, ⟨⟨s1, rfl, mjB.all s1⟩, trivial⟩⟩ rfl rfl
