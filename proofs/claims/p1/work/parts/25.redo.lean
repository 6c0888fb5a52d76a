def mjWd_redox : MjWd := []
theorem mjWd_redox_ok : mjWdB mjWd_redox = true := by decide +kernel
def mjSm_redox_0 : MjSm := ([(3, 18, 18, 0, 0)], [], [((0, 0, 0, 0, 0), [], [])], [], 1)
set_option maxRecDepth 100000 in
theorem mjC_redox_0 : mjCtr (mjSW 0 240 mjWd_redox) 107 mjSm_redox_0 := aiOk_ctr mjUW_ok (env := []) (fun e he => (by cases he)) (pr := []) (cuts := []) (n := 8) (by decide +kernel)
def mjSm_redox_1 : MjSm := ([(3, 0, 0, 0, 0)], [], [((0, 0, 0, 0, 0), [], [])], [], 2)
set_option maxRecDepth 100000 in
theorem mjC_redox_1 : mjCtr (mjSW 0 240 mjWd_redox) 106 mjSm_redox_1 := aiOk_ctr mjUW_ok (env := [(107, mjSm_redox_0)]) (mjEnvC mjC_redox_0 (fun e he => (by cases he))) (pr := []) (cuts := []) (n := 7) (by decide +kernel)
def mjWd_redom : MjWd := []
theorem mjWd_redom_ok : mjWdB mjWd_redom = true := by decide +kernel
def mjSm_redom_0 : MjSm := ([(3, 240, 240, 0, 0)], [], [((0, 0, 0, 0, 0), [], [])], [], 1)
set_option maxRecDepth 100000 in
theorem mjC_redom_0 : mjCtr (mjSW 240 290 mjWd_redom) 264 mjSm_redom_0 := aiOk_ctr mjUW_ok (env := []) (fun e he => (by cases he)) (pr := []) (cuts := []) (n := 8) (by decide +kernel)
set_option maxRecDepth 100000 in
theorem mjPair_redo (sc : List Int32)  : ∃ (v : Int32) (n1 : Nat) (w1 : MjW) (n2 : Nat) (w2 : MjW), mjEx mjTb mjMt sc n1 2 106 0 (mjEntry mjM_106.2.2.1 (.ref 0 :: [])) [] mjW0 = some (some (.int v), w1) ∧ mjEx mjTb mjMt sc n2 1 264 0 (mjEntry mjM_264.2.2.1 (.ref 240 :: [])) [] w1 = some (some (.int v), w2) ∧ mjShp w1 = mjShp mjW0 ∧ mjShp w2 = mjShp mjW0 := mj_pair (smx := mjSm_redox_1) (smm := mjSm_redom_0) mjC_redox_1 mjC_redom_0 mjWd_redox_ok mjWd_redom_ok (by decide +kernel) (by decide +kernel) (by decide +kernel) (by decide +kernel) (by decide +kernel) ⟨⟨0, rfl, rfl⟩, trivial⟩ ⟨⟨240, rfl, rfl⟩, trivial⟩ rfl rfl
