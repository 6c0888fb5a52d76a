def mjWd_aboutx : MjWd := []
theorem mjWd_aboutx_ok : mjWdB mjWd_aboutx = true := by decide +kernel
def mjSm_aboutx_0 : MjSm := ([(3, 18, 18, 0, 0)], [], [((3, 20, 20, 0, 0), [], [])], [], 1)
set_option maxRecDepth 100000 in
theorem mjC_aboutx_0 : mjCtr (mjSW 0 240 mjWd_aboutx) 70 mjSm_aboutx_0 := aiOk_ctr mjUW_ok (env := []) (fun e he => (by cases he)) (pr := []) (cuts := []) (n := 9) (by decide +kernel)
def mjSm_aboutx_1 : MjSm := ([(3, 0, 0, 0, 0), (0, -2147483648, 2147483647, 0, 0)], [], [((0, 0, 0, 0, 0), [(1, 17, 17)], []), ((0, 1, 1, 0, 0), [(1, 16, 16)], []), ((0, 0, 0, 0, 0), [(1, 15, 15)], []), ((0, 0, 0, 0, 0), [(1, 14, 14)], []), ((0, 0, 0, 0, 0), [(1, 13, 13)], []), ((0, 0, 0, 0, 0), [(1, 12, 12)], []), ((0, 0, 0, 0, 0), [(1, 11, 11)], []), ((0, 0, 0, 0, 0), [(1, 10, 10)], []), ((0, 0, 0, 0, 0), [(1, 9, 9)], []), ((0, 0, 0, 0, 0), [(1, 8, 8)], []), ((0, 0, 0, 0, 0), [(1, 7, 7)], []), ((0, 0, 0, 0, 0), [(1, 6, 6)], []), ((0, 0, 0, 0, 0), [(1, 5, 5)], []), ((0, 0, 0, 0, 0), [(1, 4, 4)], []), ((0, 3, 3, 0, 0), [(1, 3, 3)], []), ((0, 4, 4, 0, 0), [(1, 2, 2)], []), ((0, 0, 0, 0, 0), [(1, 1, 1)], []), ((0, 0, 0, 0, 0), [(1, 0, 0)], []), ((0, -1, -1, 0, 0), [(1, 18, 2147483647)], []), ((0, -1, -1, 0, 0), [(1, -2147483648, -1)], [])], [], 2)
set_option maxRecDepth 100000 in
theorem mjC_aboutx_1 : mjCtr (mjSW 0 240 mjWd_aboutx) 174 mjSm_aboutx_1 := aiOk_ctr mjUW_ok (env := [(70, mjSm_aboutx_0)]) (mjEnvC mjC_aboutx_0 (fun e he => (by cases he))) (pr := [1]) (cuts := []) (n := 15) (by decide +kernel)
def mjWd_aboutm : MjWd := []
theorem mjWd_aboutm_ok : mjWdB mjWd_aboutm = true := by decide +kernel
def mjSm_aboutm_0 : MjSm := ([(3, 240, 240, 0, 0)], [], [((0, 3, 3, 0, 0), [], [])], [], 1)
set_option maxRecDepth 100000 in
theorem mjC_aboutm_0 : mjCtr (mjSW 240 290 mjWd_aboutm) 222 mjSm_aboutm_0 := aiOk_ctr mjUW_ok (env := []) (fun e he => (by cases he)) (pr := []) (cuts := []) (n := 9) (by decide +kernel)
def mjSm_aboutm_1 : MjSm := ([(3, 240, 240, 0, 0)], [], [((0, 4, 4, 0, 0), [], [])], [], 1)
set_option maxRecDepth 100000 in
theorem mjC_aboutm_1 : mjCtr (mjSW 240 290 mjWd_aboutm) 220 mjSm_aboutm_1 := aiOk_ctr mjUW_ok (env := []) (fun e he => (by cases he)) (pr := []) (cuts := []) (n := 9) (by decide +kernel)
def mjSm_aboutm_2 : MjSm := ([(3, 240, 240, 0, 0)], [], [((0, 0, 0, 0, 0), [], [])], [], 1)
set_option maxRecDepth 100000 in
theorem mjC_aboutm_2 : mjCtr (mjSW 240 290 mjWd_aboutm) 179 mjSm_aboutm_2 := aiOk_ctr mjUW_ok (env := []) (fun e he => (by cases he)) (pr := []) (cuts := []) (n := 9) (by decide +kernel)
def mjSm_aboutm_3 : MjSm := ([(3, 240, 240, 0, 0), (0, -2147483648, 2147483647, 0, 0)], [], [((0, 0, 0, 0, 0), [(1, 17, 17)], []), ((0, 1, 1, 0, 0), [(1, 16, 16)], []), ((0, 0, 0, 0, 0), [(1, 15, 15)], []), ((0, 0, 0, 0, 0), [(1, 14, 14)], []), ((0, 0, 0, 0, 0), [(1, 13, 13)], []), ((0, 0, 0, 0, 0), [(1, 12, 12)], []), ((0, 0, 0, 0, 0), [(1, 11, 11)], []), ((0, 0, 0, 0, 0), [(1, 10, 10)], []), ((0, 0, 0, 0, 0), [(1, 9, 9)], []), ((0, 0, 0, 0, 0), [(1, 8, 8)], []), ((0, 0, 0, 0, 0), [(1, 7, 7)], []), ((0, 0, 0, 0, 0), [(1, 6, 6)], []), ((0, 0, 0, 0, 0), [(1, 5, 5)], []), ((0, 0, 0, 0, 0), [(1, 4, 4)], []), ((0, 3, 3, 0, 0), [(1, 3, 3)], []), ((0, 4, 4, 0, 0), [(1, 2, 2)], []), ((0, 0, 0, 0, 0), [(1, 1, 1)], []), ((0, 0, 0, 0, 0), [(1, 0, 0)], []), ((0, -1, -1, 0, 0), [(1, 18, 2147483647)], []), ((0, -1, -1, 0, 0), [(1, -2147483648, -1)], [])], [], 2)
set_option maxRecDepth 100000 in
theorem mjC_aboutm_3 : mjCtr (mjSW 240 290 mjWd_aboutm) 310 mjSm_aboutm_3 := aiOk_ctr mjUW_ok (env := [(222, mjSm_aboutm_0), (179, mjSm_aboutm_2), (220, mjSm_aboutm_1)]) (mjEnvC mjC_aboutm_0 (mjEnvC mjC_aboutm_2 (mjEnvC mjC_aboutm_1 (fun e he => (by cases he))))) (pr := [1]) (cuts := []) (n := 11) (by decide +kernel)
set_option maxRecDepth 100000 in
theorem mjPair_about (sc : List Int32) (s1 : Int32)  : ∃ (v : Int32) (n1 : Nat) (w1 : MjW) (n2 : Nat) (w2 : MjW), mjEx mjTb mjMt sc n1 2 174 0 (mjEntry mjM_174.2.2.1 (.ref 0 :: [.int s1])) [] mjW0 = some (some (.int v), w1) ∧ mjEx mjTb mjMt sc n2 2 310 0 (mjEntry mjM_310.2.2.1 (.ref 240 :: [.int s1])) [] w1 = some (some (.int v), w2) ∧ mjShp w1 = mjShp mjW0 ∧ mjShp w2 = mjShp mjW0 := mj_pair (smx := mjSm_aboutx_1) (smm := mjSm_aboutm_3) mjC_aboutx_1 mjC_aboutm_3 mjWd_aboutx_ok mjWd_aboutm_ok (by decide +kernel) (by decide +kernel) (by decide +kernel) (by decide +kernel) (by decide +kernel) ⟨⟨0, rfl, rfl⟩, ⟨⟨s1, rfl, mjB.all s1⟩, trivial⟩⟩ ⟨⟨240, rfl, rfl⟩, ⟨⟨s1, rfl, mjB.all s1⟩, trivial⟩⟩ rfl rfl
