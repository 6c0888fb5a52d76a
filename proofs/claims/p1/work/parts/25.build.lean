def mjWd_buildx : MjWd := []
theorem mjWd_buildx_ok : mjWdB mjWd_buildx = true := by decide +kernel
def mjSm_buildx_0 : MjSm := ([(3, 193, 193, 0, 0), (0, -2147483648, 2147483647, 0, 0)], [], [((0, 0, 0, 0, 0), [(1, 0, 2147483647)], []), ((0, 0, 0, 0, 0), [(1, -2147483648, -1)], [])], [], 1)
set_option maxRecDepth 100000 in
theorem mjC_buildx_0 : mjCtr (mjSW 0 240 mjWd_buildx) 80 mjSm_buildx_0 := aiOk_ctr mjUW_ok (env := []) (fun e he => (by cases he)) (pr := [1]) (cuts := []) (n := 11) (by decide +kernel)
def mjSm_buildx_1 : MjSm := ([(3, 0, 0, 0, 0), (0, -2147483648, 2147483647, 0, 0)], [], [((0, -1, -1, 0, 0), [(1, -2147483648, -1)], []), ((0, -1, -1, 0, 0), [(1, 0, 2147483647)], [])], [], 2)
set_option maxRecDepth 100000 in
theorem mjC_buildx_1 : mjCtr (mjSW 0 240 mjWd_buildx) 98 mjSm_buildx_1 := aiOk_ctr mjUW_ok (env := [(80, mjSm_buildx_0)]) (mjEnvC mjC_buildx_0 (fun e he => (by cases he))) (pr := [1]) (cuts := []) (n := 10) (by decide +kernel)
def mjWd_buildm : MjWd := []
theorem mjWd_buildm_ok : mjWdB mjWd_buildm = true := by decide +kernel
def mjSm_buildm_0 : MjSm := ([(3, 240, 240, 0, 0)], [], [((0, 0, 0, 0, 0), [], [])], [], 1)
set_option maxRecDepth 100000 in
theorem mjC_buildm_0 : mjCtr (mjSW 240 290 mjWd_buildm) 179 mjSm_buildm_0 := aiOk_ctr mjUW_ok (env := []) (fun e he => (by cases he)) (pr := []) (cuts := []) (n := 9) (by decide +kernel)
def mjSm_buildm_1 : MjSm := ([(0, -2147483648, 2147483647, 0, 0), (0, 0, 0, 0, 0), (0, -1, -1, 0, 0)], [], [((0, 0, 0, 0, 0), [(0, 0, 2147483647)], []), ((0, 0, 0, 0, 0), [(0, -2147483648, -1)], [])], [], 1)
set_option maxRecDepth 100000 in
theorem mjC_buildm_1 : mjCtr (mjSW 240 290 mjWd_buildm) 221 mjSm_buildm_1 := aiOk_ctr mjUW_ok (env := []) (fun e he => (by cases he)) (pr := [0]) (cuts := []) (n := 11) (by decide +kernel)
def mjSm_buildm_2 : MjSm := ([(3, 240, 240, 0, 0), (0, -2147483648, 2147483647, 0, 0)], [], [((0, 0, 0, 0, 0), [(1, -2147483648, -1)], []), ((0, 0, 0, 0, 0), [(1, 0, 2147483647)], [])], [], 2)
set_option maxRecDepth 100000 in
theorem mjC_buildm_2 : mjCtr (mjSW 240 290 mjWd_buildm) 234 mjSm_buildm_2 := aiOk_ctr mjUW_ok (env := [(179, mjSm_buildm_0), (221, mjSm_buildm_1)]) (mjEnvC mjC_buildm_0 (mjEnvC mjC_buildm_1 (fun e he => (by cases he)))) (pr := [1]) (cuts := []) (n := 11) (by decide +kernel)
def mjSm_buildm_3 : MjSm := ([(3, 240, 240, 0, 0), (0, -2147483648, 2147483647, 0, 0)], [], [((0, -1, -1, 0, 0), [(1, 0, 2147483647)], []), ((0, -1, -1, 0, 0), [(1, -2147483648, -1)], [])], [], 3)
set_option maxRecDepth 100000 in
theorem mjC_buildm_3 : mjCtr (mjSW 240 290 mjWd_buildm) 255 mjSm_buildm_3 := aiOk_ctr mjUW_ok (env := [(234, mjSm_buildm_2)]) (mjEnvC mjC_buildm_2 (fun e he => (by cases he))) (pr := [1]) (cuts := []) (n := 9) (by decide +kernel)
set_option maxRecDepth 100000 in
theorem mjPair_build (sc : List Int32) (s1 : Int32)  : ∃ (v : Int32) (n1 : Nat) (w1 : MjW) (n2 : Nat) (w2 : MjW), mjEx mjTb mjMt sc n1 2 98 0 (mjEntry mjM_98.2.2.1 (.ref 0 :: [.int s1])) [] mjW0 = some (some (.int v), w1) ∧ mjEx mjTb mjMt sc n2 3 255 0 (mjEntry mjM_255.2.2.1 (.ref 240 :: [.int s1])) [] w1 = some (some (.int v), w2) ∧ mjShp w1 = mjShp mjW0 ∧ mjShp w2 = mjShp mjW0 := mj_pair (smx := mjSm_buildx_1) (smm := mjSm_buildm_3) mjC_buildx_1 mjC_buildm_3 mjWd_buildx_ok mjWd_buildm_ok (by decide +kernel) (by decide +kernel) (by decide +kernel) (by decide +kernel) (by decide +kernel) ⟨⟨0, rfl, rfl⟩, ⟨⟨s1, rfl, mjB.all s1⟩, trivial⟩⟩ ⟨⟨240, rfl, rfl⟩, ⟨⟨s1, rfl, mjB.all s1⟩, trivial⟩⟩ rfl rfl
