def mjWd_guestx : MjWd := []
theorem mjWd_guestx_ok : mjWdB mjWd_guestx = true := by decide +kernel
def mjSm_guestx_0 : MjSm := ([(3, 193, 193, 0, 0), (0, -2147483648, 2147483647, 0, 0)], [], [((0, 0, 0, 0, 0), [(1, 0, 2147483647)], []), ((0, 0, 0, 0, 0), [(1, -2147483648, -1)], [])], [], 1)
set_option maxRecDepth 100000 in
theorem mjC_guestx_0 : mjCtr (mjSW 0 240 mjWd_guestx) 83 mjSm_guestx_0 := aiOk_ctr mjUW_ok (env := []) (fun e he => (by cases he)) (pr := [1]) (cuts := []) (n := 11) (by decide +kernel)
def mjSm_guestx_1 : MjSm := ([(3, 0, 0, 0, 0), (0, -2147483648, 2147483647, 0, 0), (0, -2147483648, 2147483647, 0, 0)], [], [((0, -1, -1, 0, 0), [(1, -2147483648, -1)], []), ((0, -1, -1, 0, 0), [(1, 0, 2147483647)], [])], [], 2)
set_option maxRecDepth 100000 in
theorem mjC_guestx_1 : mjCtr (mjSW 0 240 mjWd_guestx) 82 mjSm_guestx_1 := aiOk_ctr mjUW_ok (env := [(83, mjSm_guestx_0)]) (mjEnvC mjC_guestx_0 (fun e he => (by cases he))) (pr := [1]) (cuts := []) (n := 10) (by decide +kernel)
def mjWd_guestm : MjWd := []
theorem mjWd_guestm_ok : mjWdB mjWd_guestm = true := by decide +kernel
def mjSm_guestm_0 : MjSm := ([(0, -2147483648, 2147483647, 0, 0), (0, 0, 0, 0, 0), (0, -1, -1, 0, 0)], [], [((0, 0, 0, 0, 0), [(0, 0, 2147483647)], []), ((0, 0, 0, 0, 0), [(0, -2147483648, -1)], [])], [], 1)
set_option maxRecDepth 100000 in
theorem mjC_guestm_0 : mjCtr (mjSW 240 290 mjWd_guestm) 221 mjSm_guestm_0 := aiOk_ctr mjUW_ok (env := []) (fun e he => (by cases he)) (pr := [0]) (cuts := []) (n := 11) (by decide +kernel)
def mjSm_guestm_1 : MjSm := ([(3, 240, 240, 0, 0), (0, -2147483648, 2147483647, 0, 0)], [], [((0, 0, 0, 0, 0), [(1, -2147483648, -1)], []), ((0, 0, 0, 0, 0), [(1, 0, 2147483647)], [])], [], 2)
set_option maxRecDepth 100000 in
theorem mjC_guestm_1 : mjCtr (mjSW 240 290 mjWd_guestm) 236 mjSm_guestm_1 := aiOk_ctr mjUW_ok (env := [(221, mjSm_guestm_0)]) (mjEnvC mjC_guestm_0 (fun e he => (by cases he))) (pr := [1]) (cuts := []) (n := 14) (by decide +kernel)
def mjSm_guestm_2 : MjSm := ([(3, 240, 240, 0, 0), (0, -2147483648, 2147483647, 0, 0), (0, -2147483648, 2147483647, 0, 0)], [], [((0, -1, -1, 0, 0), [(1, 0, 2147483647)], []), ((0, -1, -1, 0, 0), [(1, -2147483648, -1)], [])], [], 3)
set_option maxRecDepth 100000 in
theorem mjC_guestm_2 : mjCtr (mjSW 240 290 mjWd_guestm) 235 mjSm_guestm_2 := aiOk_ctr mjUW_ok (env := [(236, mjSm_guestm_1)]) (mjEnvC mjC_guestm_1 (fun e he => (by cases he))) (pr := [1]) (cuts := []) (n := 9) (by decide +kernel)
set_option maxRecDepth 100000 in
theorem mjPair_guest (sc : List Int32) (s1 s2 : Int32)  : ∃ (v : Int32) (n1 : Nat) (w1 : MjW) (n2 : Nat) (w2 : MjW), mjEx mjTb mjMt sc n1 2 82 0 (mjEntry mjM_82.2.2.1 (.ref 0 :: [.int s1, .int s2])) [] mjW0 = some (some (.int v), w1) ∧ mjEx mjTb mjMt sc n2 3 235 0 (mjEntry mjM_235.2.2.1 (.ref 240 :: [.int s1, .int s2])) [] w1 = some (some (.int v), w2) ∧ mjShp w1 = mjShp mjW0 ∧ mjShp w2 = mjShp mjW0 := mj_pair (smx := mjSm_guestx_1) (smm := mjSm_guestm_2) mjC_guestx_1 mjC_guestm_2 mjWd_guestx_ok mjWd_guestm_ok (by decide +kernel) (by decide +kernel) (by decide +kernel) (by decide +kernel) (by decide +kernel) ⟨⟨0, rfl, rfl⟩, ⟨⟨s1, rfl, mjB.all s1⟩, ⟨⟨s2, rfl, mjB.all s2⟩, trivial⟩⟩⟩ ⟨⟨240, rfl, rfl⟩, ⟨⟨s1, rfl, mjB.all s1⟩, ⟨⟨s2, rfl, mjB.all s2⟩, trivial⟩⟩⟩ rfl rfl
