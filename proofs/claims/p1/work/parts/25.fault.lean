def mjWd_faultx : MjWd := []
theorem mjWd_faultx_ok : mjWdB mjWd_faultx = true := by decide +kernel
def mjSm_faultx_0 : MjSm := ([(3, 0, 0, 0, 0), (0, -2147483648, 2147483647, 0, 0)], [], [((0, -1, -1, 0, 0), [(1, 2, 2147483647)], []), ((0, -1, -1, 0, 0), [(1, 1, 1)], []), ((0, 0, 0, 0, 0), [(1, 0, 0)], []), ((0, -1, -1, 0, 0), [(1, -2147483648, -1)], [])], [], 1)
set_option maxRecDepth 100000 in
theorem mjC_faultx_0 : mjCtr (mjSW 0 240 mjWd_faultx) 66 mjSm_faultx_0 := aiOk_ctr mjUW_ok (env := []) (fun e he => (by cases he)) (pr := [1]) (cuts := []) (n := 10) (by decide +kernel)
def mjWd_faultm : MjWd := []
theorem mjWd_faultm_ok : mjWdB mjWd_faultm = true := by decide +kernel
def mjSm_faultm_0 : MjSm := ([(3, 240, 240, 0, 0), (0, -2147483648, 2147483647, 0, 0)], [], [((0, 0, 0, 0, 0), [(1, 0, 0)], []), ((0, -1, -1, 0, 0), [(1, 1, 1)], []), ((0, -1, -1, 0, 0), [(1, 2, 2147483647)], []), ((0, -1, -1, 0, 0), [(1, -2147483648, -1)], [])], [], 1)
set_option maxRecDepth 100000 in
theorem mjC_faultm_0 : mjCtr (mjSW 240 290 mjWd_faultm) 216 mjSm_faultm_0 := aiOk_ctr mjUW_ok (env := []) (fun e he => (by cases he)) (pr := [1]) (cuts := []) (n := 12) (by decide +kernel)
set_option maxRecDepth 100000 in
theorem mjPair_fault (sc : List Int32) (s1 : Int32)  : ∃ (v : Int32) (n1 : Nat) (w1 : MjW) (n2 : Nat) (w2 : MjW), mjEx mjTb mjMt sc n1 1 66 0 (mjEntry mjM_66.2.2.1 (.ref 0 :: [.int s1])) [] mjW0 = some (some (.int v), w1) ∧ mjEx mjTb mjMt sc n2 1 216 0 (mjEntry mjM_216.2.2.1 (.ref 240 :: [.int s1])) [] w1 = some (some (.int v), w2) ∧ mjShp w1 = mjShp mjW0 ∧ mjShp w2 = mjShp mjW0 := mj_pair (smx := mjSm_faultx_0) (smm := mjSm_faultm_0) mjC_faultx_0 mjC_faultm_0 mjWd_faultx_ok mjWd_faultm_ok (by decide +kernel) (by decide +kernel) (by decide +kernel) (by decide +kernel) (by decide +kernel) ⟨⟨0, rfl, rfl⟩, ⟨⟨s1, rfl, mjB.all s1⟩, trivial⟩⟩ ⟨⟨240, rfl, rfl⟩, ⟨⟨s1, rfl, mjB.all s1⟩, trivial⟩⟩ rfl rfl
