def mjWd_image0x : MjWd := []
theorem mjWd_image0x_ok : mjWdB mjWd_image0x = true := by decide +kernel
def mjSm_image0x_0 : MjSm := ([(3, 0, 0, 0, 0), (0, -2147483648, -1, 0, 0)], [], [((0, -1, -1, 0, 0), [], [])], [], 20)
set_option maxRecDepth 100000 in
theorem mjC_image0x_0 : mjCtr (mjSW 0 240 mjWd_image0x) 172 mjSm_image0x_0 := aiOk_ctr mjUW_ok (env := []) (fun e he => (by cases he)) (pr := []) (cuts := []) (n := 7) (by decide +kernel)
def mjWd_image0m : MjWd := []
theorem mjWd_image0m_ok : mjWdB mjWd_image0m = true := by decide +kernel
def mjSm_image0m_0 : MjSm := ([(0, -2147483648, -1, 0, 0), (0, 0, 0, 0, 0), (0, 2, 2, 0, 0)], [], [((0, 0, 0, 0, 0), [], [])], [], 1)
set_option maxRecDepth 100000 in
theorem mjC_image0m_0 : mjCtr (mjSW 240 290 mjWd_image0m) 221 mjSm_image0m_0 := aiOk_ctr mjUW_ok (env := []) (fun e he => (by cases he)) (pr := []) (cuts := []) (n := 8) (by decide +kernel)
def mjSm_image0m_1 : MjSm := ([(3, 240, 240, 0, 0), (0, -2147483648, -1, 0, 0)], [], [((0, -1, -1, 0, 0), [], [])], [], 20)
set_option maxRecDepth 100000 in
theorem mjC_image0m_1 : mjCtr (mjSW 240 290 mjWd_image0m) 308 mjSm_image0m_1 := aiOk_ctr mjUW_ok (env := [(221, mjSm_image0m_0)]) (mjEnvC mjC_image0m_0 (fun e he => (by cases he))) (pr := []) (cuts := []) (n := 10) (by decide +kernel)
set_option maxRecDepth 100000 in
theorem mjPair_image_0 (sc : List Int32) (s1 : Int32) (h : mjB s1 (-2147483648) (-1)) : ∃ (v : Int32) (n1 : Nat) (w1 : MjW) (n2 : Nat) (w2 : MjW), mjEx mjTb mjMt sc n1 20 172 0 (mjEntry mjM_172.2.2.1 (.ref 0 :: [.int s1])) [] mjW0 = some (some (.int v), w1) ∧ mjEx mjTb mjMt sc n2 20 308 0 (mjEntry mjM_308.2.2.1 (.ref 240 :: [.int s1])) [] w1 = some (some (.int v), w2) ∧ mjShp w1 = mjShp mjW0 ∧ mjShp w2 = mjShp mjW0 := mj_pair (smx := mjSm_image0x_0) (smm := mjSm_image0m_1) mjC_image0x_0 mjC_image0m_1 mjWd_image0x_ok mjWd_image0m_ok (by decide +kernel) (by decide +kernel) (by decide +kernel) (by decide +kernel) (by decide +kernel) ⟨⟨0, rfl, rfl⟩, ⟨⟨s1, rfl, h⟩, trivial⟩⟩ ⟨⟨240, rfl, rfl⟩, ⟨⟨s1, rfl, h⟩, trivial⟩⟩ rfl rfl
def mjWd_image1x : MjWd := [(0, 7, (0, 0, 1))]
theorem mjWd_image1x_ok : mjWdB mjWd_image1x = true := by decide +kernel
def mjSm_image1x_0 : MjSm := ([(3, 18, 18, 0, 0)], [], [((3, 20, 20, 0, 0), [], [])], [], 1)
set_option maxRecDepth 100000 in
theorem mjC_image1x_0 : mjCtr (mjSW 0 240 mjWd_image1x) 70 mjSm_image1x_0 := aiOk_ctr mjUW_ok (env := []) (fun e he => (by cases he)) (pr := []) (cuts := []) (n := 9) (by decide +kernel)
def mjSm_image1x_1 : MjSm := ([(3, 228, 228, 0, 0), (3, 20, 20, 0, 0)], [], [((7, 0, 0, 0, 0), [], [])], [(229, 3), (229, 4), (229, 5), (229, 6), (229, 7), (230, 255), (231, 255), (232, 255)], 1)
set_option maxRecDepth 100000 in
theorem mjC_image1x_1 : mjCtr (mjSW 0 240 mjWd_image1x) 64 mjSm_image1x_1 := aiOk_ctr mjUW_ok (env := []) (fun e he => (by cases he)) (pr := []) (cuts := []) (n := 48) (by decide +kernel)
def mjSm_image1x_2 : MjSm := ([(3, 0, 0, 0, 0), (0, 0, 0, 0, 0)], [(0, 7, (0, 0, 0, 0, 0))], [((0, 0, 0, 0, 0), [], [(0, 7, (0, 1, 1, 0, 0))])], [(1, 7), (229, 3), (229, 4), (229, 5), (229, 6), (229, 7), (230, 255), (231, 255), (232, 255)], 20)
set_option maxRecDepth 100000 in
theorem mjC_image1x_2 : mjCtr (mjSW 0 240 mjWd_image1x) 172 mjSm_image1x_2 := aiOk_ctr mjUW_ok (env := [(70, mjSm_image1x_0), (64, mjSm_image1x_1)]) (mjEnvC mjC_image1x_0 (mjEnvC mjC_image1x_1 (fun e he => (by cases he)))) (pr := []) (cuts := []) (n := 29) (by decide +kernel)
def mjWd_image1m : MjWd := [(289, 255, (0, 0, 1))]
theorem mjWd_image1m_ok : mjWdB mjWd_image1m = true := by decide +kernel
def mjSm_image1m_0 : MjSm := ([(0, 0, 0, 0, 0), (0, 0, 0, 0, 0), (0, 2, 2, 0, 0)], [], [((0, 1, 1, 0, 0), [], [])], [], 1)
set_option maxRecDepth 100000 in
theorem mjC_image1m_0 : mjCtr (mjSW 240 290 mjWd_image1m) 221 mjSm_image1m_0 := aiOk_ctr mjUW_ok (env := []) (fun e he => (by cases he)) (pr := []) (cuts := []) (n := 12) (by decide +kernel)
def mjSm_image1m_1 : MjSm := ([(3, 240, 240, 0, 0), (0, 0, 0, 0, 0)], [], [((0, 0, 0, 0, 0), [], [])], [(289, 255), (290, 255)], 20)
set_option maxRecDepth 100000 in
theorem mjC_image1m_1 : mjCtr (mjSW 240 290 mjWd_image1m) 308 mjSm_image1m_1 := aiOk_ctr mjUW_ok (env := [(221, mjSm_image1m_0)]) (mjEnvC mjC_image1m_0 (fun e he => (by cases he))) (pr := []) (cuts := [(13, ([(3, 240, 240, 0, 0), (0, 0, 0, 0, 0), (0, 0, 70, 0, 0)], [], []), [(0, 0, 49987), (1, 2, 2147483647), (0, 0, 60000), (0, 0, 0), (0, 0, 0), (0, 0, 0), (0, 0, 0), (0, 0, 0)])]) (n := 20) (by decide +kernel)
set_option maxRecDepth 100000 in
theorem mjPair_image_1 (sc : List Int32) (s1 : Int32) (h : mjB s1 (0) (0)) : ∃ (v : Int32) (n1 : Nat) (w1 : MjW) (n2 : Nat) (w2 : MjW), mjEx mjTb mjMt sc n1 20 172 0 (mjEntry mjM_172.2.2.1 (.ref 0 :: [.int s1])) [] mjW0 = some (some (.int v), w1) ∧ mjEx mjTb mjMt sc n2 20 308 0 (mjEntry mjM_308.2.2.1 (.ref 240 :: [.int s1])) [] w1 = some (some (.int v), w2) ∧ mjShp w1 = mjShp mjW0 ∧ mjShp w2 = mjShp mjW0 := mj_pair (smx := mjSm_image1x_2) (smm := mjSm_image1m_1) mjC_image1x_2 mjC_image1m_1 mjWd_image1x_ok mjWd_image1m_ok (by decide +kernel) (by decide +kernel) (by decide +kernel) (by decide +kernel) (by decide +kernel) ⟨⟨0, rfl, rfl⟩, ⟨⟨s1, rfl, h⟩, trivial⟩⟩ ⟨⟨240, rfl, rfl⟩, ⟨⟨s1, rfl, h⟩, trivial⟩⟩ rfl rfl
def mjWd_image2x : MjWd := [(0, 7, (0, 0, 2))]
theorem mjWd_image2x_ok : mjWdB mjWd_image2x = true := by decide +kernel
def mjSm_image2x_0 : MjSm := ([(3, 18, 18, 0, 0)], [], [((3, 20, 20, 0, 0), [], [])], [], 1)
set_option maxRecDepth 100000 in
theorem mjC_image2x_0 : mjCtr (mjSW 0 240 mjWd_image2x) 70 mjSm_image2x_0 := aiOk_ctr mjUW_ok (env := []) (fun e he => (by cases he)) (pr := []) (cuts := []) (n := 9) (by decide +kernel)
def mjSm_image2x_1 : MjSm := ([(3, 232, 232, 0, 0), (3, 20, 20, 0, 0)], [], [((7, 0, 0, 0, 0), [], [])], [(233, 3), (233, 4), (233, 5), (233, 6), (233, 7), (234, 255), (235, 255), (236, 255)], 1)
set_option maxRecDepth 100000 in
theorem mjC_image2x_1 : mjCtr (mjSW 0 240 mjWd_image2x) 64 mjSm_image2x_1 := aiOk_ctr mjUW_ok (env := []) (fun e he => (by cases he)) (pr := []) (cuts := []) (n := 48) (by decide +kernel)
def mjSm_image2x_2 : MjSm := ([(3, 0, 0, 0, 0), (0, 1, 1, 0, 0)], [(0, 7, (0, 0, 0, 0, 0))], [((0, 0, 0, 0, 0), [], [(0, 7, (0, 2, 2, 0, 0))])], [(1, 7), (233, 3), (233, 4), (233, 5), (233, 6), (233, 7), (234, 255), (235, 255), (236, 255)], 20)
set_option maxRecDepth 100000 in
theorem mjC_image2x_2 : mjCtr (mjSW 0 240 mjWd_image2x) 172 mjSm_image2x_2 := aiOk_ctr mjUW_ok (env := [(64, mjSm_image2x_1), (70, mjSm_image2x_0)]) (mjEnvC mjC_image2x_1 (mjEnvC mjC_image2x_0 (fun e he => (by cases he)))) (pr := []) (cuts := []) (n := 29) (by decide +kernel)
def mjWd_image2m : MjWd := [(289, 255, (0, 0, 1))]
theorem mjWd_image2m_ok : mjWdB mjWd_image2m = true := by decide +kernel
def mjSm_image2m_0 : MjSm := ([(0, 1, 1, 0, 0), (0, 0, 0, 0, 0), (0, 2, 2, 0, 0)], [], [((0, 1, 1, 0, 0), [], [])], [], 1)
set_option maxRecDepth 100000 in
theorem mjC_image2m_0 : mjCtr (mjSW 240 290 mjWd_image2m) 221 mjSm_image2m_0 := aiOk_ctr mjUW_ok (env := []) (fun e he => (by cases he)) (pr := []) (cuts := []) (n := 12) (by decide +kernel)
def mjSm_image2m_1 : MjSm := ([(3, 240, 240, 0, 0), (0, 1, 1, 0, 0)], [], [((0, 0, 0, 0, 0), [], [])], [(289, 255), (290, 255)], 20)
set_option maxRecDepth 100000 in
theorem mjC_image2m_1 : mjCtr (mjSW 240 290 mjWd_image2m) 308 mjSm_image2m_1 := aiOk_ctr mjUW_ok (env := [(221, mjSm_image2m_0)]) (mjEnvC mjC_image2m_0 (fun e he => (by cases he))) (pr := []) (cuts := [(13, ([(3, 240, 240, 0, 0), (0, 1, 1, 0, 0), (0, 0, 70, 0, 0)], [], []), [(0, 0, 49987), (1, 2, 2147483647), (0, 0, 60000), (0, 0, 0), (0, 0, 0), (0, 0, 0), (0, 0, 0), (0, 0, 0)])]) (n := 20) (by decide +kernel)
set_option maxRecDepth 100000 in
theorem mjPair_image_2 (sc : List Int32) (s1 : Int32) (h : mjB s1 (1) (1)) : ∃ (v : Int32) (n1 : Nat) (w1 : MjW) (n2 : Nat) (w2 : MjW), mjEx mjTb mjMt sc n1 20 172 0 (mjEntry mjM_172.2.2.1 (.ref 0 :: [.int s1])) [] mjW0 = some (some (.int v), w1) ∧ mjEx mjTb mjMt sc n2 20 308 0 (mjEntry mjM_308.2.2.1 (.ref 240 :: [.int s1])) [] w1 = some (some (.int v), w2) ∧ mjShp w1 = mjShp mjW0 ∧ mjShp w2 = mjShp mjW0 := mj_pair (smx := mjSm_image2x_2) (smm := mjSm_image2m_1) mjC_image2x_2 mjC_image2m_1 mjWd_image2x_ok mjWd_image2m_ok (by decide +kernel) (by decide +kernel) (by decide +kernel) (by decide +kernel) (by decide +kernel) ⟨⟨0, rfl, rfl⟩, ⟨⟨s1, rfl, h⟩, trivial⟩⟩ ⟨⟨240, rfl, rfl⟩, ⟨⟨s1, rfl, h⟩, trivial⟩⟩ rfl rfl
def mjWd_image3x : MjWd := [(0, 7, (0, 0, 4))]
theorem mjWd_image3x_ok : mjWdB mjWd_image3x = true := by decide +kernel
def mjSm_image3x_0 : MjSm := ([(3, 18, 18, 0, 0)], [], [((3, 20, 20, 0, 0), [], [])], [], 1)
set_option maxRecDepth 100000 in
theorem mjC_image3x_0 : mjCtr (mjSW 0 240 mjWd_image3x) 70 mjSm_image3x_0 := aiOk_ctr mjUW_ok (env := []) (fun e he => (by cases he)) (pr := []) (cuts := []) (n := 9) (by decide +kernel)
def mjSm_image3x_1 : MjSm := ([(3, 236, 236, 0, 0), (3, 20, 20, 0, 0)], [], [((7, 0, 0, 0, 0), [], [])], [(237, 3), (237, 4), (237, 5), (237, 6), (237, 7), (238, 255), (239, 255), (240, 255)], 1)
set_option maxRecDepth 100000 in
theorem mjC_image3x_1 : mjCtr (mjSW 0 240 mjWd_image3x) 64 mjSm_image3x_1 := aiOk_ctr mjUW_ok (env := []) (fun e he => (by cases he)) (pr := []) (cuts := []) (n := 48) (by decide +kernel)
def mjSm_image3x_2 : MjSm := ([(3, 0, 0, 0, 0), (0, 2, 2, 0, 0)], [(0, 7, (0, 0, 0, 0, 0))], [((0, 0, 0, 0, 0), [], [(0, 7, (0, 4, 4, 0, 0))])], [(1, 7), (237, 3), (237, 4), (237, 5), (237, 6), (237, 7), (238, 255), (239, 255), (240, 255)], 20)
set_option maxRecDepth 100000 in
theorem mjC_image3x_2 : mjCtr (mjSW 0 240 mjWd_image3x) 172 mjSm_image3x_2 := aiOk_ctr mjUW_ok (env := [(70, mjSm_image3x_0), (64, mjSm_image3x_1)]) (mjEnvC mjC_image3x_0 (mjEnvC mjC_image3x_1 (fun e he => (by cases he)))) (pr := []) (cuts := []) (n := 29) (by decide +kernel)
def mjWd_image3m : MjWd := [(289, 255, (0, 0, 1))]
theorem mjWd_image3m_ok : mjWdB mjWd_image3m = true := by decide +kernel
def mjSm_image3m_0 : MjSm := ([(0, 2, 2, 0, 0), (0, 0, 0, 0, 0), (0, 2, 2, 0, 0)], [], [((0, 1, 1, 0, 0), [], [])], [], 1)
set_option maxRecDepth 100000 in
theorem mjC_image3m_0 : mjCtr (mjSW 240 290 mjWd_image3m) 221 mjSm_image3m_0 := aiOk_ctr mjUW_ok (env := []) (fun e he => (by cases he)) (pr := []) (cuts := []) (n := 12) (by decide +kernel)
def mjSm_image3m_1 : MjSm := ([(3, 240, 240, 0, 0), (0, 2, 2, 0, 0)], [], [((0, 0, 0, 0, 0), [], [])], [(289, 255), (290, 255)], 20)
set_option maxRecDepth 100000 in
theorem mjC_image3m_1 : mjCtr (mjSW 240 290 mjWd_image3m) 308 mjSm_image3m_1 := aiOk_ctr mjUW_ok (env := [(221, mjSm_image3m_0)]) (mjEnvC mjC_image3m_0 (fun e he => (by cases he))) (pr := []) (cuts := [(13, ([(3, 240, 240, 0, 0), (0, 2, 2, 0, 0), (0, 0, 70, 0, 0)], [], []), [(0, 0, 49987), (1, 2, 2147483647), (0, 0, 60000), (0, 0, 0), (0, 0, 0), (0, 0, 0), (0, 0, 0), (0, 0, 0)])]) (n := 20) (by decide +kernel)
set_option maxRecDepth 100000 in
theorem mjPair_image_3 (sc : List Int32) (s1 : Int32) (h : mjB s1 (2) (2)) : ∃ (v : Int32) (n1 : Nat) (w1 : MjW) (n2 : Nat) (w2 : MjW), mjEx mjTb mjMt sc n1 20 172 0 (mjEntry mjM_172.2.2.1 (.ref 0 :: [.int s1])) [] mjW0 = some (some (.int v), w1) ∧ mjEx mjTb mjMt sc n2 20 308 0 (mjEntry mjM_308.2.2.1 (.ref 240 :: [.int s1])) [] w1 = some (some (.int v), w2) ∧ mjShp w1 = mjShp mjW0 ∧ mjShp w2 = mjShp mjW0 := mj_pair (smx := mjSm_image3x_2) (smm := mjSm_image3m_1) mjC_image3x_2 mjC_image3m_1 mjWd_image3x_ok mjWd_image3m_ok (by decide +kernel) (by decide +kernel) (by decide +kernel) (by decide +kernel) (by decide +kernel) ⟨⟨0, rfl, rfl⟩, ⟨⟨s1, rfl, h⟩, trivial⟩⟩ ⟨⟨240, rfl, rfl⟩, ⟨⟨s1, rfl, h⟩, trivial⟩⟩ rfl rfl
def mjWd_image4x : MjWd := []
theorem mjWd_image4x_ok : mjWdB mjWd_image4x = true := by decide +kernel
def mjSm_image4x_0 : MjSm := ([(3, 0, 0, 0, 0), (0, 3, 2147483647, 0, 0)], [], [((0, -1, -1, 0, 0), [], [])], [], 20)
set_option maxRecDepth 100000 in
theorem mjC_image4x_0 : mjCtr (mjSW 0 240 mjWd_image4x) 172 mjSm_image4x_0 := aiOk_ctr mjUW_ok (env := []) (fun e he => (by cases he)) (pr := []) (cuts := []) (n := 10) (by decide +kernel)
def mjWd_image4m : MjWd := []
theorem mjWd_image4m_ok : mjWdB mjWd_image4m = true := by decide +kernel
def mjSm_image4m_0 : MjSm := ([(0, 3, 2147483647, 0, 0), (0, 0, 0, 0, 0), (0, 2, 2, 0, 0)], [], [((0, 0, 0, 0, 0), [], [])], [], 1)
set_option maxRecDepth 100000 in
theorem mjC_image4m_0 : mjCtr (mjSW 240 290 mjWd_image4m) 221 mjSm_image4m_0 := aiOk_ctr mjUW_ok (env := []) (fun e he => (by cases he)) (pr := []) (cuts := []) (n := 11) (by decide +kernel)
def mjSm_image4m_1 : MjSm := ([(3, 240, 240, 0, 0), (0, 3, 2147483647, 0, 0)], [], [((0, -1, -1, 0, 0), [], [])], [], 20)
set_option maxRecDepth 100000 in
theorem mjC_image4m_1 : mjCtr (mjSW 240 290 mjWd_image4m) 308 mjSm_image4m_1 := aiOk_ctr mjUW_ok (env := [(221, mjSm_image4m_0)]) (mjEnvC mjC_image4m_0 (fun e he => (by cases he))) (pr := []) (cuts := []) (n := 10) (by decide +kernel)
set_option maxRecDepth 100000 in
theorem mjPair_image_4 (sc : List Int32) (s1 : Int32) (h : mjB s1 (3) (2147483647)) : ∃ (v : Int32) (n1 : Nat) (w1 : MjW) (n2 : Nat) (w2 : MjW), mjEx mjTb mjMt sc n1 20 172 0 (mjEntry mjM_172.2.2.1 (.ref 0 :: [.int s1])) [] mjW0 = some (some (.int v), w1) ∧ mjEx mjTb mjMt sc n2 20 308 0 (mjEntry mjM_308.2.2.1 (.ref 240 :: [.int s1])) [] w1 = some (some (.int v), w2) ∧ mjShp w1 = mjShp mjW0 ∧ mjShp w2 = mjShp mjW0 := mj_pair (smx := mjSm_image4x_0) (smm := mjSm_image4m_1) mjC_image4x_0 mjC_image4m_1 mjWd_image4x_ok mjWd_image4m_ok (by decide +kernel) (by decide +kernel) (by decide +kernel) (by decide +kernel) (by decide +kernel) ⟨⟨0, rfl, rfl⟩, ⟨⟨s1, rfl, h⟩, trivial⟩⟩ ⟨⟨240, rfl, rfl⟩, ⟨⟨s1, rfl, h⟩, trivial⟩⟩ rfl rfl
theorem mjPair_image (sc : List Int32) (s1 : Int32) : ∃ (v : Int32) (n1 : Nat) (w1 : MjW) (n2 : Nat) (w2 : MjW), mjEx mjTb mjMt sc n1 20 172 0 (mjEntry mjM_172.2.2.1 (.ref 0 :: [.int s1])) [] mjW0 = some (some (.int v), w1) ∧ mjEx mjTb mjMt sc n2 20 308 0 (mjEntry mjM_308.2.2.1 (.ref 240 :: [.int s1])) [] w1 = some (some (.int v), w2) ∧ mjShp w1 = mjShp mjW0 ∧ mjShp w2 = mjShp mjW0 := by
  have a := mjB.all s1
  have a1 := a.1
  have a2 := a.2
  by_cases c0 : s1.toInt ≤ (-1)
  · exact mjPair_image_0 sc s1 ⟨by omega, by omega⟩
  by_cases c1 : s1.toInt ≤ (0)
  · exact mjPair_image_1 sc s1 ⟨by omega, by omega⟩
  by_cases c2 : s1.toInt ≤ (1)
  · exact mjPair_image_2 sc s1 ⟨by omega, by omega⟩
  by_cases c3 : s1.toInt ≤ (2)
  · exact mjPair_image_3 sc s1 ⟨by omega, by omega⟩
  exact mjPair_image_4 sc s1 ⟨by omega, by omega⟩
