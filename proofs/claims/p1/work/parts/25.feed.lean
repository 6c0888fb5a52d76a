def mjWd_feedx : MjWd := [(0, 1, (0, 0, 23)), (1, 255, (0, -128, 127))]
theorem mjWd_feedx_ok : mjWdB mjWd_feedx = true := by decide +kernel
def mjSm_feedx_0 : MjSm := ([(3, 0, 0, 0, 0), (0, -2147483648, 2147483647, 0, 0)], [(0, 1, (0, 0, 0, 0, 0))], [((7, 0, 0, 0, 0), [], [(0, 1, (0, 4, 4, 0, 0))])], [(1, 1), (2, 255)], 1)
set_option maxRecDepth 100000 in
theorem mjC_feedx_0 : mjCtr (mjSW 0 240 mjWd_feedx) 24 mjSm_feedx_0 := aiOk_ctr mjUW_ok (env := []) (fun e he => (by cases he)) (pr := []) (cuts := []) (n := 100) (by decide +kernel)
def mjSm_feedx_1 : MjSm := ([(3, 0, 0, 0, 0), (0, -2147483648, 2147483647, 0, 0)], [(0, 1, (0, 4, 4, 0, 0))], [((7, 0, 0, 0, 0), [], [(0, 1, (0, 8, 8, 0, 0))])], [(1, 1), (2, 255)], 1)
set_option maxRecDepth 100000 in
theorem mjC_feedx_1 : mjCtr (mjSW 0 240 mjWd_feedx) 24 mjSm_feedx_1 := aiOk_ctr mjUW_ok (env := []) (fun e he => (by cases he)) (pr := []) (cuts := []) (n := 100) (by decide +kernel)
def mjSm_feedx_2 : MjSm := ([(3, 0, 0, 0, 0), (0, -2147483648, 2147483647, 0, 0)], [(0, 1, (0, 8, 8, 0, 0))], [((7, 0, 0, 0, 0), [], [(0, 1, (0, 12, 12, 0, 0))])], [(1, 1), (2, 255)], 1)
set_option maxRecDepth 100000 in
theorem mjC_feedx_2 : mjCtr (mjSW 0 240 mjWd_feedx) 24 mjSm_feedx_2 := aiOk_ctr mjUW_ok (env := []) (fun e he => (by cases he)) (pr := []) (cuts := []) (n := 100) (by decide +kernel)
def mjSm_feedx_3 : MjSm := ([(3, 0, 0, 0, 0), (0, -2147483648, 2147483647, 0, 0)], [(0, 1, (0, 12, 12, 0, 0))], [((7, 0, 0, 0, 0), [], [(0, 1, (0, 16, 16, 0, 0))])], [(1, 1), (2, 255)], 1)
set_option maxRecDepth 100000 in
theorem mjC_feedx_3 : mjCtr (mjSW 0 240 mjWd_feedx) 24 mjSm_feedx_3 := aiOk_ctr mjUW_ok (env := []) (fun e he => (by cases he)) (pr := []) (cuts := []) (n := 100) (by decide +kernel)
def mjSm_feedx_4 : MjSm := ([(3, 0, 0, 0, 0), (0, -2147483648, 2147483647, 0, 0)], [(0, 1, (0, 16, 16, 0, 0))], [((7, 0, 0, 0, 0), [], [(0, 1, (0, 20, 20, 0, 0))])], [(1, 1), (2, 255)], 1)
set_option maxRecDepth 100000 in
theorem mjC_feedx_4 : mjCtr (mjSW 0 240 mjWd_feedx) 24 mjSm_feedx_4 := aiOk_ctr mjUW_ok (env := []) (fun e he => (by cases he)) (pr := []) (cuts := []) (n := 100) (by decide +kernel)
def mjSm_feedx_5 : MjSm := ([(3, 0, 0, 0, 0), (0, -2147483648, 2147483647, 0, 0), (0, -2147483648, 2147483647, 0, 0), (0, -2147483648, 2147483647, 0, 0), (0, -2147483648, 2147483647, 0, 0), (0, -2147483648, 2147483647, 0, 0)], [(0, 1, (0, 0, 0, 0, 0))], [((0, 20, 20, 0, 0), [], [(0, 1, (0, 20, 20, 0, 0))])], [(1, 1), (2, 255)], 2)
set_option maxRecDepth 100000 in
theorem mjC_feedx_5 : mjCtr (mjSW 0 240 mjWd_feedx) 23 mjSm_feedx_5 := aiOk_ctr mjUW_ok (env := [(24, mjSm_feedx_4), (24, mjSm_feedx_0), (24, mjSm_feedx_1), (24, mjSm_feedx_3), (24, mjSm_feedx_2)]) (mjEnvC mjC_feedx_4 (mjEnvC mjC_feedx_0 (mjEnvC mjC_feedx_1 (mjEnvC mjC_feedx_3 (mjEnvC mjC_feedx_2 (fun e he => (by cases he))))))) (pr := []) (cuts := []) (n := 27) (by decide +kernel)
def mjWd_feedm : MjWd := [(240, 2, (0, 0, 20)), (241, 255, (0, -128, 127))]
theorem mjWd_feedm_ok : mjWdB mjWd_feedm = true := by decide +kernel
def mjSm_feedm_0 : MjSm := ([(3, 240, 240, 0, 0), (0, -2147483648, 2147483647, 0, 0), (0, -2147483648, 2147483647, 0, 0), (0, -2147483648, 2147483647, 0, 0), (0, -2147483648, 2147483647, 0, 0), (0, -2147483648, 2147483647, 0, 0)], [(240, 2, (0, 0, 0, 0, 0))], [((0, 20, 20, 0, 0), [], [(240, 2, (0, 20, 20, 0, 0))])], [(241, 2), (242, 255)], 1)
set_option maxRecDepth 100000 in
theorem mjC_feedm_0 : mjCtr (mjSW 240 290 mjWd_feedm) 311 mjSm_feedm_0 := aiOk_ctr mjUW_ok (env := []) (fun e he => (by cases he)) (pr := []) (cuts := [(18, ([(3, 240, 240, 0, 0), (0, -2147483648, 2147483647, 0, 0), (0, -2147483648, 2147483647, 0, 0), (0, -2147483648, 2147483647, 0, 0), (0, -2147483648, 2147483647, 0, 0), (0, -2147483648, 2147483647, 0, 0), (0, 0, 20, 0, 0), (9, 0, 0, 0, 0)], [], [(240, 2, (0, 0, 0, 0, 0))]), [(0, 0, 49982), (1, 6, 2147483647), (0, 0, 60000), (0, 0, 0), (0, 0, 0), (0, 0, 0), (0, 0, 0), (0, 0, 0)])]) (n := 40) (by decide +kernel)
set_option maxRecDepth 100000 in
theorem mjPair_feed (sc : List Int32) (s1 s2 s3 s4 s5 : Int32)  : ∃ (v : Int32) (n1 : Nat) (w1 : MjW) (n2 : Nat) (w2 : MjW), mjEx mjTb mjMt sc n1 2 23 0 (mjEntry mjM_23.2.2.1 (.ref 0 :: [.int s1, .int s2, .int s3, .int s4, .int s5])) [] mjW0 = some (some (.int v), w1) ∧ mjEx mjTb mjMt sc n2 1 311 0 (mjEntry mjM_311.2.2.1 (.ref 240 :: [.int s1, .int s2, .int s3, .int s4, .int s5])) [] w1 = some (some (.int v), w2) ∧ mjShp w1 = mjShp mjW0 ∧ mjShp w2 = mjShp mjW0 := mj_pair (smx := mjSm_feedx_5) (smm := mjSm_feedm_0) mjC_feedx_5 mjC_feedm_0 mjWd_feedx_ok mjWd_feedm_ok (by decide +kernel) (by decide +kernel) (by decide +kernel) (by decide +kernel) (by decide +kernel) ⟨⟨0, rfl, rfl⟩, ⟨⟨s1, rfl, mjB.all s1⟩, ⟨⟨s2, rfl, mjB.all s2⟩, ⟨⟨s3, rfl, mjB.all s3⟩, ⟨⟨s4, rfl, mjB.all s4⟩, ⟨⟨s5, rfl, mjB.all s5⟩, trivial⟩⟩⟩⟩⟩⟩ ⟨⟨240, rfl, rfl⟩, ⟨⟨s1, rfl, mjB.all s1⟩, ⟨⟨s2, rfl, mjB.all s2⟩, ⟨⟨s3, rfl, mjB.all s3⟩, ⟨⟨s4, rfl, mjB.all s4⟩, ⟨⟨s5, rfl, mjB.all s5⟩, trivial⟩⟩⟩⟩⟩⟩ rfl rfl
