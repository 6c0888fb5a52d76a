def mjWd_untellx : MjWd := []
theorem mjWd_untellx_ok : mjWdB mjWd_untellx = true := by decide +kernel
def mjSm_untellx_0 : MjSm := ([(3, 185, 185, 0, 0), (0, -2147483648, 2147483647, 0, 0)], [], [((0, 0, 0, 0, 0), [(1, 0, 2147483647)], []), ((0, 0, 0, 0, 0), [(1, -2147483648, -1)], [])], [], 1)
set_option maxRecDepth 100000 in
theorem mjC_untellx_0 : mjCtr (mjSW 0 240 mjWd_untellx) 161 mjSm_untellx_0 := aiOk_ctr mjUW_ok (env := []) (fun e he => (by cases he)) (pr := [1]) (cuts := []) (n := 11) (by decide +kernel)
def mjSm_untellx_1 : MjSm := ([(3, 0, 0, 0, 0), (0, -2147483648, 2147483647, 0, 0)], [], [((0, 0, 0, 0, 0), [(1, -2147483648, -1)], []), ((0, 0, 0, 0, 0), [(1, 0, 2147483647)], [])], [], 2)
set_option maxRecDepth 100000 in
theorem mjC_untellx_1 : mjCtr (mjSW 0 240 mjWd_untellx) 160 mjSm_untellx_1 := aiOk_ctr mjUW_ok (env := [(161, mjSm_untellx_0)]) (mjEnvC mjC_untellx_0 (fun e he => (by cases he))) (pr := [1]) (cuts := []) (n := 8) (by decide +kernel)
def mjWd_untellm : MjWd := []
theorem mjWd_untellm_ok : mjWdB mjWd_untellm = true := by decide +kernel
def mjSm_untellm_0 : MjSm := ([(0, -2147483648, 2147483647, 0, 0), (0, 0, 0, 0, 0), (0, -1, -1, 0, 0)], [], [((0, 0, 0, 0, 0), [(0, 0, 2147483647)], []), ((0, 0, 0, 0, 0), [(0, -2147483648, -1)], [])], [], 1)
set_option maxRecDepth 100000 in
theorem mjC_untellm_0 : mjCtr (mjSW 240 290 mjWd_untellm) 221 mjSm_untellm_0 := aiOk_ctr mjUW_ok (env := []) (fun e he => (by cases he)) (pr := [0]) (cuts := []) (n := 11) (by decide +kernel)
def mjSm_untellm_1 : MjSm := ([(3, 240, 240, 0, 0), (0, -2147483648, 2147483647, 0, 0)], [], [((0, 0, 0, 0, 0), [(1, -2147483648, -1)], []), ((0, 0, 0, 0, 0), [(1, 0, 2147483647)], [])], [], 2)
set_option maxRecDepth 100000 in
theorem mjC_untellm_1 : mjCtr (mjSW 240 290 mjWd_untellm) 299 mjSm_untellm_1 := aiOk_ctr mjUW_ok (env := [(221, mjSm_untellm_0)]) (mjEnvC mjC_untellm_0 (fun e he => (by cases he))) (pr := [1]) (cuts := []) (n := 13) (by decide +kernel)
set_option maxRecDepth 100000 in
theorem mjPair_untell (sc : List Int32) (s1 : Int32)  : ∃ (v : Int32) (n1 : Nat) (w1 : MjW) (n2 : Nat) (w2 : MjW), mjEx mjTb mjMt sc n1 2 160 0 (mjEntry mjM_160.2.2.1 (.ref 0 :: [.int s1])) [] mjW0 = some (some (.int v), w1) ∧ mjEx mjTb mjMt sc n2 2 299 0 (mjEntry mjM_299.2.2.1 (.ref 240 :: [.int s1])) [] w1 = some (some (.int v), w2) ∧ mjShp w1 = mjShp mjW0 ∧ mjShp w2 = mjShp mjW0 := mj_pair (smx := mjSm_untellx_1) (smm := mjSm_untellm_1) mjC_untellx_1 mjC_untellm_1 mjWd_untellx_ok mjWd_untellm_ok (by decide +kernel) (by decide +kernel) (by decide +kernel) (by decide +kernel) (by decide +kernel) ⟨⟨0, rfl, rfl⟩, ⟨⟨s1, rfl, mjB.all s1⟩, trivial⟩⟩ ⟨⟨240, rfl, rfl⟩, ⟨⟨s1, rfl, mjB.all s1⟩, trivial⟩⟩ rfl rfl
