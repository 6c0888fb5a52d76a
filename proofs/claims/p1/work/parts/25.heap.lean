def mjWd_heapx : MjWd := []
theorem mjWd_heapx_ok : mjWdB mjWd_heapx = true := by decide +kernel
def mjSm_heapx_0 : MjSm := ([(3, 193, 193, 0, 0), (0, -2147483648, 2147483647, 0, 0)], [], [((0, 1, 1, 0, 0), [(1, 0, 3)], []), ((0, 0, 0, 0, 0), [(1, 4, 2147483647)], []), ((0, 0, 0, 0, 0), [(1, -2147483648, -1)], [])], [], 1)
set_option maxRecDepth 100000 in
theorem mjC_heapx_0 : mjCtr (mjSW 0 240 mjWd_heapx) 69 mjSm_heapx_0 := aiOk_ctr mjUW_ok (env := []) (fun e he => (by cases he)) (pr := [1]) (cuts := []) (n := 15) (by decide +kernel)
def mjSm_heapx_1 : MjSm := ([(3, 18, 18, 0, 0)], [], [((3, 20, 20, 0, 0), [], [])], [], 1)
set_option maxRecDepth 100000 in
theorem mjC_heapx_1 : mjCtr (mjSW 0 240 mjWd_heapx) 70 mjSm_heapx_1 := aiOk_ctr mjUW_ok (env := []) (fun e he => (by cases he)) (pr := []) (cuts := []) (n := 9) (by decide +kernel)
def mjSm_heapx_2 : MjSm := ([(0, 0, 3, 0, 0), (0, 0, 0, 0, 0)], [], [((0, 0, 15, 0, 0), [], [])], [], 1)
set_option maxRecDepth 100000 in
theorem mjC_heapx_2 : mjCtr (mjSW 0 240 mjWd_heapx) 48 mjSm_heapx_2 := aiOk_ctr mjUW_ok (env := []) (fun e he => (by cases he)) (pr := []) (cuts := []) (n := 9) (by decide +kernel)
def mjSm_heapx_3 : MjSm := ([(0, 0, 3, 0, 0), (0, 1, 1, 0, 0)], [], [((0, 1, 16, 0, 0), [], [])], [], 1)
set_option maxRecDepth 100000 in
theorem mjC_heapx_3 : mjCtr (mjSW 0 240 mjWd_heapx) 48 mjSm_heapx_3 := aiOk_ctr mjUW_ok (env := []) (fun e he => (by cases he)) (pr := []) (cuts := []) (n := 9) (by decide +kernel)
def mjSm_heapx_4 : MjSm := ([(0, 0, 3, 0, 0), (0, 2, 2, 0, 0)], [], [((0, 2, 17, 0, 0), [], [])], [], 1)
set_option maxRecDepth 100000 in
theorem mjC_heapx_4 : mjCtr (mjSW 0 240 mjWd_heapx) 48 mjSm_heapx_4 := aiOk_ctr mjUW_ok (env := []) (fun e he => (by cases he)) (pr := []) (cuts := []) (n := 9) (by decide +kernel)
def mjSm_heapx_5 : MjSm := ([(3, 0, 0, 0, 0), (0, -2147483648, 2147483647, 0, 0)], [], [((0, -1, -1, 0, 0), [(1, -2147483648, -1)], []), ((0, -1, -1, 0, 0), [(1, 4, 2147483647)], []), ((0, 0, 0, 0, 0), [(1, 0, 3)], [])], [], 2)
set_option maxRecDepth 100000 in
theorem mjC_heapx_5 : mjCtr (mjSW 0 240 mjWd_heapx) 153 mjSm_heapx_5 := aiOk_ctr mjUW_ok (env := [(70, mjSm_heapx_1), (48, mjSm_heapx_3), (48, mjSm_heapx_4), (48, mjSm_heapx_2), (69, mjSm_heapx_0)]) (mjEnvC mjC_heapx_1 (mjEnvC mjC_heapx_3 (mjEnvC mjC_heapx_4 (mjEnvC mjC_heapx_2 (mjEnvC mjC_heapx_0 (fun e he => (by cases he))))))) (pr := [1]) (cuts := []) (n := 73) (by decide +kernel)
def mjWd_heapm : MjWd := []
theorem mjWd_heapm_ok : mjWdB mjWd_heapm = true := by decide +kernel
def mjSm_heapm_0 : MjSm := ([(3, 240, 240, 0, 0)], [], [((0, 4, 4, 0, 0), [], [])], [], 1)
set_option maxRecDepth 100000 in
theorem mjC_heapm_0 : mjCtr (mjSW 240 290 mjWd_heapm) 220 mjSm_heapm_0 := aiOk_ctr mjUW_ok (env := []) (fun e he => (by cases he)) (pr := []) (cuts := []) (n := 9) (by decide +kernel)
def mjSm_heapm_1 : MjSm := ([(0, -2147483648, 2147483647, 0, 0), (0, 0, 0, 0, 0), (0, 3, 3, 0, 0)], [], [((0, 1, 1, 0, 0), [(0, 0, 3)], []), ((0, 0, 0, 0, 0), [(0, 4, 2147483647)], []), ((0, 0, 0, 0, 0), [(0, -2147483648, -1)], [])], [], 1)
set_option maxRecDepth 100000 in
theorem mjC_heapm_1 : mjCtr (mjSW 240 290 mjWd_heapm) 221 mjSm_heapm_1 := aiOk_ctr mjUW_ok (env := []) (fun e he => (by cases he)) (pr := [0]) (cuts := []) (n := 12) (by decide +kernel)
def mjSm_heapm_2 : MjSm := ([(3, 240, 240, 0, 0), (0, -2147483648, 2147483647, 0, 0)], [], [((0, 0, 0, 0, 0), [(1, -2147483648, -1)], []), ((0, 0, 0, 0, 0), [(1, 4, 2147483647)], []), ((0, 1, 1, 0, 0), [(1, 0, 3)], [])], [], 2)
set_option maxRecDepth 100000 in
theorem mjC_heapm_2 : mjCtr (mjSW 240 290 mjWd_heapm) 219 mjSm_heapm_2 := aiOk_ctr mjUW_ok (env := [(220, mjSm_heapm_0), (221, mjSm_heapm_1)]) (mjEnvC mjC_heapm_0 (mjEnvC mjC_heapm_1 (fun e he => (by cases he)))) (pr := [1]) (cuts := []) (n := 11) (by decide +kernel)
def mjSm_heapm_3 : MjSm := ([(3, 240, 240, 0, 0)], [], [((0, 3, 3, 0, 0), [], [])], [], 1)
set_option maxRecDepth 100000 in
theorem mjC_heapm_3 : mjCtr (mjSW 240 290 mjWd_heapm) 222 mjSm_heapm_3 := aiOk_ctr mjUW_ok (env := []) (fun e he => (by cases he)) (pr := []) (cuts := []) (n := 9) (by decide +kernel)
def mjSm_heapm_4 : MjSm := ([(3, 240, 240, 0, 0), (0, 0, 3, 0, 0), (0, 0, 0, 0, 0)], [], [((0, 0, 0, 0, 0), [], [])], [], 1)
set_option maxRecDepth 100000 in
theorem mjC_heapm_4 : mjCtr (mjSW 240 290 mjWd_heapm) 223 mjSm_heapm_4 := aiOk_ctr mjUW_ok (env := []) (fun e he => (by cases he)) (pr := []) (cuts := []) (n := 14) (by decide +kernel)
def mjSm_heapm_5 : MjSm := ([(3, 240, 240, 0, 0), (0, 0, 3, 0, 0), (0, 1, 1, 0, 0)], [], [((0, 0, 0, 0, 0), [], [])], [], 1)
set_option maxRecDepth 100000 in
theorem mjC_heapm_5 : mjCtr (mjSW 240 290 mjWd_heapm) 223 mjSm_heapm_5 := aiOk_ctr mjUW_ok (env := []) (fun e he => (by cases he)) (pr := []) (cuts := []) (n := 14) (by decide +kernel)
def mjSm_heapm_6 : MjSm := ([(3, 240, 240, 0, 0), (0, 0, 3, 0, 0), (0, 2, 2, 0, 0)], [], [((0, 0, 0, 0, 0), [], [])], [], 1)
set_option maxRecDepth 100000 in
theorem mjC_heapm_6 : mjCtr (mjSW 240 290 mjWd_heapm) 223 mjSm_heapm_6 := aiOk_ctr mjUW_ok (env := []) (fun e he => (by cases he)) (pr := []) (cuts := []) (n := 14) (by decide +kernel)
def mjSm_heapm_7 : MjSm := ([(3, 240, 240, 0, 0), (0, -2147483648, 2147483647, 0, 0)], [], [((0, 0, 0, 0, 0), [(1, 0, 3)], []), ((0, -1, -1, 0, 0), [(1, 4, 2147483647)], []), ((0, -1, -1, 0, 0), [(1, -2147483648, -1)], [])], [], 3)
set_option maxRecDepth 100000 in
theorem mjC_heapm_7 : mjCtr (mjSW 240 290 mjWd_heapm) 239 mjSm_heapm_7 := aiOk_ctr mjUW_ok (env := [(222, mjSm_heapm_3), (223, mjSm_heapm_6), (223, mjSm_heapm_5), (223, mjSm_heapm_4), (219, mjSm_heapm_2)]) (mjEnvC mjC_heapm_3 (mjEnvC mjC_heapm_6 (mjEnvC mjC_heapm_5 (mjEnvC mjC_heapm_4 (mjEnvC mjC_heapm_2 (fun e he => (by cases he))))))) (pr := [1]) (cuts := []) (n := 56) (by decide +kernel)
set_option maxRecDepth 100000 in
theorem mjPair_heap (sc : List Int32) (s1 : Int32)  : ∃ (v : Int32) (n1 : Nat) (w1 : MjW) (n2 : Nat) (w2 : MjW), mjEx mjTb mjMt sc n1 2 153 0 (mjEntry mjM_153.2.2.1 (.ref 0 :: [.int s1])) [] mjW0 = some (some (.int v), w1) ∧ mjEx mjTb mjMt sc n2 3 239 0 (mjEntry mjM_239.2.2.1 (.ref 240 :: [.int s1])) [] w1 = some (some (.int v), w2) ∧ mjShp w1 = mjShp mjW0 ∧ mjShp w2 = mjShp mjW0 := mj_pair (smx := mjSm_heapx_5) (smm := mjSm_heapm_7) mjC_heapx_5 mjC_heapm_7 mjWd_heapx_ok mjWd_heapm_ok (by decide +kernel) (by decide +kernel) (by decide +kernel) (by decide +kernel) (by decide +kernel) ⟨⟨0, rfl, rfl⟩, ⟨⟨s1, rfl, mjB.all s1⟩, trivial⟩⟩ ⟨⟨240, rfl, rfl⟩, ⟨⟨s1, rfl, mjB.all s1⟩, trivial⟩⟩ rfl rfl
