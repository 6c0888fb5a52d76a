def mjWd_undox : MjWd := []
theorem mjWd_undox_ok : mjWdB mjWd_undox = true := by decide +kernel
def mjSm_undox_0 : MjSm := ([(3, 18, 18, 0, 0)], [], [((0, 0, 0, 0, 0), [], [])], [], 1)
set_option maxRecDepth 100000 in
theorem mjC_undox_0 : mjCtr (mjSW 0 240 mjWd_undox) 105 mjSm_undox_0 := aiOk_ctr mjUW_ok (env := []) (fun e he => (by cases he)) (pr := []) (cuts := []) (n := 8) (by decide +kernel)
def mjSm_undox_1 : MjSm := ([(3, 0, 0, 0, 0)], [], [((0, 0, 0, 0, 0), [], [])], [], 2)
set_option maxRecDepth 100000 in
theorem mjC_undox_1 : mjCtr (mjSW 0 240 mjWd_undox) 104 mjSm_undox_1 := aiOk_ctr mjUW_ok (env := [(105, mjSm_undox_0)]) (mjEnvC mjC_undox_0 (fun e he => (by cases he))) (pr := []) (cuts := []) (n := 7) (by decide +kernel)
def mjWd_undom : MjWd := []
theorem mjWd_undom_ok : mjWdB mjWd_undom = true := by decide +kernel
def mjSm_undom_0 : MjSm := ([(3, 240, 240, 0, 0)], [], [((0, 0, 0, 0, 0), [], [])], [], 1)
set_option maxRecDepth 100000 in
theorem mjC_undom_0 : mjCtr (mjSW 240 290 mjWd_undom) 262 mjSm_undom_0 := aiOk_ctr mjUW_ok (env := []) (fun e he => (by cases he)) (pr := []) (cuts := []) (n := 8) (by decide +kernel)
set_option maxRecDepth 100000 in
theorem mjPair_undo (sc : List Int32)  : ∃ (v : Int32) (n1 : Nat) (w1 : MjW) (n2 : Nat) (w2 : MjW), mjEx mjTb mjMt sc n1 2 104 0 (mjEntry mjM_104.2.2.1 (.ref 0 :: [])) [] mjW0 = some (some (.int v), w1) ∧ mjEx mjTb mjMt sc n2 1 262 0 (mjEntry mjM_262.2.2.1 (.ref 240 :: [])) [] w1 = some (some (.int v), w2) ∧ mjShp w1 = mjShp mjW0 ∧ mjShp w2 = mjShp mjW0 := mj_pair (smx := mjSm_undox_1) (smm := mjSm_undom_0) mjC_undox_1 mjC_undom_0 mjWd_undox_ok mjWd_undom_ok (by decide +kernel) (by decide +kernel) (by decide +kernel) (by decide +kernel) (by decide +kernel) ⟨⟨0, rfl, rfl⟩, trivial⟩ ⟨⟨240, rfl, rfl⟩, trivial⟩ rfl rfl
