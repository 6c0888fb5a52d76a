def mjWd_seenx : MjWd := []
theorem mjWd_seenx_ok : mjWdB mjWd_seenx = true := by decide +kernel
def mjSm_seenx_0 : MjSm := ([(3, 193, 193, 0, 0), (0, -2147483648, 2147483647, 0, 0)], [], [((0, 0, 0, 0, 0), [(1, 0, 2147483647)], []), ((0, 0, 0, 0, 0), [(1, -2147483648, -1)], [])], [], 1)
set_option maxRecDepth 100000 in
theorem mjC_seenx_0 : mjCtr (mjSW 0 240 mjWd_seenx) 80 mjSm_seenx_0 := aiOk_ctr mjUW_ok (env := []) (fun e he => (by cases he)) (pr := [1]) (cuts := []) (n := 11) (by decide +kernel)
def mjSm_seenx_1 : MjSm := ([(3, 0, 0, 0, 0), (0, -2147483648, 2147483647, 0, 0), (0, -2147483648, 2147483647, 0, 0), (0, 0, 1, 0, 0)], [], [((0, -1, -1, 0, 0), [(1, 0, 24), (2, -2147483648, -1)], []), ((0, -1, -1, 0, 0), [(1, 0, 24), (2, 0, 2147483647)], []), ((0, -1, -1, 0, 0), [(1, 25, 2147483647)], []), ((0, -1, -1, 0, 0), [(1, -2147483648, -1)], [])], [], 2)
set_option maxRecDepth 100000 in
theorem mjC_seenx_1 : mjCtr (mjSW 0 240 mjWd_seenx) 158 mjSm_seenx_1 := aiOk_ctr mjUW_ok (env := [(80, mjSm_seenx_0)]) (mjEnvC mjC_seenx_0 (fun e he => (by cases he))) (pr := [1, 2]) (cuts := []) (n := 15) (by decide +kernel)
def mjWd_seenm : MjWd := []
theorem mjWd_seenm_ok : mjWdB mjWd_seenm = true := by decide +kernel
def mjSm_seenm_0 : MjSm := ([(0, -2147483648, 2147483647, 0, 0), (0, 0, 0, 0, 0), (0, 24, 24, 0, 0)], [], [((0, 1, 1, 0, 0), [(0, 0, 24)], []), ((0, 0, 0, 0, 0), [(0, 25, 2147483647)], []), ((0, 0, 0, 0, 0), [(0, -2147483648, -1)], [])], [], 1)
set_option maxRecDepth 100000 in
theorem mjC_seenm_0 : mjCtr (mjSW 240 290 mjWd_seenm) 221 mjSm_seenm_0 := aiOk_ctr mjUW_ok (env := []) (fun e he => (by cases he)) (pr := [0]) (cuts := []) (n := 12) (by decide +kernel)
def mjSm_seenm_1 : MjSm := ([(3, 240, 240, 0, 0)], [], [((0, 0, 0, 0, 0), [], [])], [], 1)
set_option maxRecDepth 100000 in
theorem mjC_seenm_1 : mjCtr (mjSW 240 290 mjWd_seenm) 179 mjSm_seenm_1 := aiOk_ctr mjUW_ok (env := []) (fun e he => (by cases he)) (pr := []) (cuts := []) (n := 9) (by decide +kernel)
def mjSm_seenm_2 : MjSm := ([(0, -2147483648, 2147483647, 0, 0), (0, 0, 0, 0, 0), (0, -1, -1, 0, 0)], [], [((0, 0, 0, 0, 0), [(0, 0, 2147483647)], []), ((0, 0, 0, 0, 0), [(0, -2147483648, -1)], [])], [], 1)
set_option maxRecDepth 100000 in
theorem mjC_seenm_2 : mjCtr (mjSW 240 290 mjWd_seenm) 221 mjSm_seenm_2 := aiOk_ctr mjUW_ok (env := []) (fun e he => (by cases he)) (pr := [0]) (cuts := []) (n := 11) (by decide +kernel)
def mjSm_seenm_3 : MjSm := ([(3, 240, 240, 0, 0), (0, -2147483648, 2147483647, 0, 0)], [], [((0, 0, 0, 0, 0), [(1, -2147483648, -1)], []), ((0, 0, 0, 0, 0), [(1, 0, 2147483647)], [])], [], 2)
set_option maxRecDepth 100000 in
theorem mjC_seenm_3 : mjCtr (mjSW 240 290 mjWd_seenm) 234 mjSm_seenm_3 := aiOk_ctr mjUW_ok (env := [(179, mjSm_seenm_1), (221, mjSm_seenm_2)]) (mjEnvC mjC_seenm_1 (mjEnvC mjC_seenm_2 (fun e he => (by cases he)))) (pr := [1]) (cuts := []) (n := 11) (by decide +kernel)
def mjSm_seenm_4 : MjSm := ([(3, 240, 240, 0, 0), (0, -2147483648, 2147483647, 0, 0), (0, -2147483648, 2147483647, 0, 0), (0, 0, 1, 0, 0)], [], [((0, -1, -1, 0, 0), [(1, -2147483648, -1)], []), ((0, -1, -1, 0, 0), [(1, 25, 2147483647)], []), ((0, -1, -1, 0, 0), [(1, 0, 24), (2, 0, 2147483647)], []), ((0, -1, -1, 0, 0), [(1, 0, 24), (2, -2147483648, -1)], [])], [], 3)
set_option maxRecDepth 100000 in
theorem mjC_seenm_4 : mjCtr (mjSW 240 290 mjWd_seenm) 298 mjSm_seenm_4 := aiOk_ctr mjUW_ok (env := [(234, mjSm_seenm_3), (221, mjSm_seenm_0)]) (mjEnvC mjC_seenm_3 (mjEnvC mjC_seenm_0 (fun e he => (by cases he)))) (pr := [1, 2]) (cuts := []) (n := 14) (by decide +kernel)
set_option maxRecDepth 100000 in
theorem mjPair_seen (sc : List Int32) (s1 s2 s3 : Int32) (h3 : mjB s3 0 1) : ∃ (v : Int32) (n1 : Nat) (w1 : MjW) (n2 : Nat) (w2 : MjW), mjEx mjTb mjMt sc n1 2 158 0 (mjEntry mjM_158.2.2.1 (.ref 0 :: [.int s1, .int s2, .int s3])) [] mjW0 = some (some (.int v), w1) ∧ mjEx mjTb mjMt sc n2 3 298 0 (mjEntry mjM_298.2.2.1 (.ref 240 :: [.int s1, .int s2, .int s3])) [] w1 = some (some (.int v), w2) ∧ mjShp w1 = mjShp mjW0 ∧ mjShp w2 = mjShp mjW0 := mj_pair (smx := mjSm_seenx_1) (smm := mjSm_seenm_4) mjC_seenx_1 mjC_seenm_4 mjWd_seenx_ok mjWd_seenm_ok (by decide +kernel) (by decide +kernel) (by decide +kernel) (by decide +kernel) (by decide +kernel) ⟨⟨0, rfl, rfl⟩, ⟨⟨s1, rfl, mjB.all s1⟩, ⟨⟨s2, rfl, mjB.all s2⟩, ⟨⟨s3, rfl, h3⟩, trivial⟩⟩⟩⟩ ⟨⟨240, rfl, rfl⟩, ⟨⟨s1, rfl, mjB.all s1⟩, ⟨⟨s2, rfl, mjB.all s2⟩, ⟨⟨s3, rfl, h3⟩, trivial⟩⟩⟩⟩ rfl rfl
