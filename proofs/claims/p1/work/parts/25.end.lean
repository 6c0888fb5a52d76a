def mjWd_endx : MjWd := []
theorem mjWd_endx_ok : mjWdB mjWd_endx = true := by decide +kernel
def mjSm_endx_0 : MjSm := ([(3, 0, 0, 0, 0), (0, -2147483648, 2147483647, 0, 0)], [], [((0, -1, -1, 0, 0), [(1, 1, 2147483647)], []), ((0, 0, 0, 0, 0), [(1, 0, 0)], []), ((0, -1, -1, 0, 0), [(1, -2147483648, -1)], [])], [(1, 1)], 1)
set_option maxRecDepth 100000 in
theorem mjC_endx_0 : mjCtr (mjSW 0 240 mjWd_endx) 25 mjSm_endx_0 := aiOk_ctr mjUW_ok (env := []) (fun e he => (by cases he)) (pr := [1]) (cuts := []) (n := 14) (by decide +kernel)
def mjWd_endm : MjWd := []
theorem mjWd_endm_ok : mjWdB mjWd_endm = true := by decide +kernel
def mjSm_endm_0 : MjSm := ([(3, 240, 240, 0, 0), (0, -2147483648, 2147483647, 0, 0)], [], [((0, -1, -1, 0, 0), [(1, 1, 2147483647)], []), ((0, 0, 0, 0, 0), [(1, 0, 0)], []), ((0, -1, -1, 0, 0), [(1, -2147483648, -1)], [])], [(241, 2)], 1)
set_option maxRecDepth 100000 in
theorem mjC_endm_0 : mjCtr (mjSW 240 290 mjWd_endm) 312 mjSm_endm_0 := aiOk_ctr mjUW_ok (env := []) (fun e he => (by cases he)) (pr := [1]) (cuts := []) (n := 14) (by decide +kernel)
set_option maxRecDepth 100000 in
theorem mjPair_end (sc : List Int32) (s1 : Int32)  : ∃ (v : Int32) (n1 : Nat) (w1 : MjW) (n2 : Nat) (w2 : MjW), mjEx mjTb mjMt sc n1 1 25 0 (mjEntry mjM_25.2.2.1 (.ref 0 :: [.int s1])) [] mjW0 = some (some (.int v), w1) ∧ mjEx mjTb mjMt sc n2 1 312 0 (mjEntry mjM_312.2.2.1 (.ref 240 :: [.int s1])) [] w1 = some (some (.int v), w2) ∧ mjShp w1 = mjShp mjW0 ∧ mjShp w2 = mjShp mjW0 := mj_pair (smx := mjSm_endx_0) (smm := mjSm_endm_0) mjC_endx_0 mjC_endm_0 mjWd_endx_ok mjWd_endm_ok (by decide +kernel) (by decide +kernel) (by decide +kernel) (by decide +kernel) (by decide +kernel) ⟨⟨0, rfl, rfl⟩, ⟨⟨s1, rfl, mjB.all s1⟩, trivial⟩⟩ ⟨⟨240, rfl, rfl⟩, ⟨⟨s1, rfl, mjB.all s1⟩, trivial⟩⟩ rfl rfl
