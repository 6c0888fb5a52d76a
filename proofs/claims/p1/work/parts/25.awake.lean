def mjWd_awakex : MjWd := []
theorem mjWd_awakex_ok : mjWdB mjWd_awakex = true := by decide +kernel
def mjSm_awakex_0 : MjSm := ([(3, 18, 18, 0, 0)], [], [((3, 20, 20, 0, 0), [], [])], [], 1)
set_option maxRecDepth 100000 in
theorem mjC_awakex_0 : mjCtr (mjSW 0 240 mjWd_awakex) 70 mjSm_awakex_0 := aiOk_ctr mjUW_ok (env := []) (fun e he => (by cases he)) (pr := []) (cuts := []) (n := 9) (by decide +kernel)
def mjSm_awakex_1 : MjSm := ([(3, 193, 193, 0, 0), (3, 20, 20, 0, 0), (0, 0, 47, 0, 0)], [], [((0, 0, 0, 0, 0), [], [])], [], 1)
set_option maxRecDepth 100000 in
theorem mjC_awakex_1 : mjCtr (mjSW 0 240 mjWd_awakex) 75 mjSm_awakex_1 := aiOk_ctr mjUW_ok (env := []) (fun e he => (by cases he)) (pr := []) (cuts := [(5, ([(3, 193, 193, 0, 0), (3, 20, 20, 0, 0), (0, 0, 47, 0, 0), (0, 0, 0, 0, 0), (0, 0, 0, 0, 0), (9, 0, 0, 0, 0)], [], []), [(0, 0, 49995), (1, 4, 2147483647), (0, 0, 60000), (0, 0, 0), (0, 0, 0), (0, 0, 0), (0, 0, 0), (0, 0, 0)])]) (n := 9) (by decide +kernel)
def mjSm_awakex_2 : MjSm := ([(3, 0, 0, 0, 0), (0, -2147483648, 2147483647, 0, 0)], [], [((0, -1, -1, 0, 0), [(1, 48, 2147483647)], []), ((0, 0, 0, 0, 0), [(1, 0, 47)], []), ((0, -1, -1, 0, 0), [(1, -2147483648, -1)], [])], [], 2)
set_option maxRecDepth 100000 in
theorem mjC_awakex_2 : mjCtr (mjSW 0 240 mjWd_awakex) 152 mjSm_awakex_2 := aiOk_ctr mjUW_ok (env := [(70, mjSm_awakex_0), (75, mjSm_awakex_1)]) (mjEnvC mjC_awakex_0 (mjEnvC mjC_awakex_1 (fun e he => (by cases he)))) (pr := [1]) (cuts := []) (n := 16) (by decide +kernel)
def mjWd_awakem : MjWd := []
theorem mjWd_awakem_ok : mjWdB mjWd_awakem = true := by decide +kernel
def mjSm_awakem_0 : MjSm := ([(0, -2147483648, 2147483647, 0, 0), (0, 0, 0, 0, 0), (0, 47, 47, 0, 0)], [], [((0, 1, 1, 0, 0), [(0, 0, 47)], []), ((0, 0, 0, 0, 0), [(0, 48, 2147483647)], []), ((0, 0, 0, 0, 0), [(0, -2147483648, -1)], [])], [], 1)
set_option maxRecDepth 100000 in
theorem mjC_awakem_0 : mjCtr (mjSW 240 290 mjWd_awakem) 221 mjSm_awakem_0 := aiOk_ctr mjUW_ok (env := []) (fun e he => (by cases he)) (pr := [0]) (cuts := []) (n := 12) (by decide +kernel)
def mjSm_awakem_1 : MjSm := ([(3, 240, 240, 0, 0), (0, -2147483648, 2147483647, 0, 0)], [], [((0, -1, -1, 0, 0), [(1, -2147483648, -1)], []), ((0, -1, -1, 0, 0), [(1, 48, 2147483647)], []), ((0, 0, 0, 0, 0), [(1, 0, 47)], [])], [], 2)
set_option maxRecDepth 100000 in
theorem mjC_awakem_1 : mjCtr (mjSW 240 290 mjWd_awakem) 238 mjSm_awakem_1 := aiOk_ctr mjUW_ok (env := [(221, mjSm_awakem_0)]) (mjEnvC mjC_awakem_0 (fun e he => (by cases he))) (pr := [1]) (cuts := []) (n := 21) (by decide +kernel)
set_option maxRecDepth 100000 in
theorem mjPair_awake (sc : List Int32) (s1 : Int32)  : ∃ (v : Int32) (n1 : Nat) (w1 : MjW) (n2 : Nat) (w2 : MjW), mjEx mjTb mjMt sc n1 2 152 0 (mjEntry mjM_152.2.2.1 (.ref 0 :: [.int s1])) [] mjW0 = some (some (.int v), w1) ∧ mjEx mjTb mjMt sc n2 2 238 0 (mjEntry mjM_238.2.2.1 (.ref 240 :: [.int s1])) [] w1 = some (some (.int v), w2) ∧ mjShp w1 = mjShp mjW0 ∧ mjShp w2 = mjShp mjW0 := mj_pair (smx := mjSm_awakex_2) (smm := mjSm_awakem_1) mjC_awakex_2 mjC_awakem_1 mjWd_awakex_ok mjWd_awakem_ok (by decide +kernel) (by decide +kernel) (by decide +kernel) (by decide +kernel) (by decide +kernel) ⟨⟨0, rfl, rfl⟩, ⟨⟨s1, rfl, mjB.all s1⟩, trivial⟩⟩ ⟨⟨240, rfl, rfl⟩, ⟨⟨s1, rfl, mjB.all s1⟩, trivial⟩⟩ rfl rfl
