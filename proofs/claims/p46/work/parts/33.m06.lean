def mjSm_m_623 : MjSm := ([(0, 2, 2, 0, 0), (0, 0, 0, 0, 0), (0, 2, 2, 0, 0)], [], [((0, 1, 1, 0, 0), [], [])], [], 1)
set_option maxRecDepth 100000 in
theorem mjC_m_623 {J : MjW → Prop} (hJ : mjUok m4S m4U J) (H : mjHm J) : mjCtr m4S J 221 mjSm_m_623 := aiOk_ctr hJ (env := []) (fun e he => (by cases he)) (pr := []) (sp := 255) (cuts := []) (n := 12) (by decide +kernel)
def mjSm_m_624 : MjSm := ([(3, 240, 240, 0, 0), (0, 2, 2, 0, 0)], [], [((0, -2147483648, 2147483647, 0, 0), [], [])], [(289, 255), (290, 255)], 2)
def mjCuts_m_624 : List MjCut := []
set_option maxRecDepth 100000 in
theorem mjCE_m_624 : aiOkE m4S m4U [(221, mjSm_m_623)] 308 mjSm_m_624 [] 255 mjCuts_m_624 1213 = true := by decide +kernel
theorem mjC_m_624 {J : MjW → Prop} (hJ : mjUok m4S m4U J) (H : mjHm J) : mjCtr m4S J 308 mjSm_m_624 := aiOk_ctr hJ (env := [(221, mjSm_m_623)]) (mjEnvC (mjC_m_623 hJ H) (fun e he => (by cases he))) (pr := []) (sp := 255) (cuts := mjCuts_m_624) (n := 1213) (aiOk_split mjCE_m_624 (fun C hC => (by cases hC)))
def mjSm_m_625 : MjSm := ([(0, 3, 2147483647, 0, 0), (0, 0, 0, 0, 0), (0, 2, 2, 0, 0)], [], [((0, 0, 0, 0, 0), [], [])], [], 1)
set_option maxRecDepth 100000 in
theorem mjC_m_625 {J : MjW → Prop} (hJ : mjUok m4S m4U J) (H : mjHm J) : mjCtr m4S J 221 mjSm_m_625 := aiOk_ctr hJ (env := []) (fun e he => (by cases he)) (pr := []) (sp := 255) (cuts := []) (n := 11) (by decide +kernel)
def mjSm_m_626 : MjSm := ([(3, 240, 240, 0, 0), (0, 3, 2147483647, 0, 0)], [], [((0, -1, -1, 0, 0), [], [])], [], 2)
set_option maxRecDepth 100000 in
theorem mjC_m_626 {J : MjW → Prop} (hJ : mjUok m4S m4U J) (H : mjHm J) : mjCtr m4S J 308 mjSm_m_626 := aiOk_ctr hJ (env := [(221, mjSm_m_625)]) (mjEnvC (mjC_m_625 hJ H) (fun e he => (by cases he))) (pr := []) (sp := 255) (cuts := []) (n := 10) (by decide +kernel)
def mjSm_m_627 : MjSm := ([(3, 240, 240, 0, 0), (0, -2147483648, 2147483647, 0, 0)], [], [((0, -2147483648, 2147483647, 0, 0), [], [])], [(289, 255), (290, 255)], 2)
set_option maxRecDepth 100000 in
theorem mjC_m_627 {J : MjW → Prop} (hJ : mjUok m4S m4U J) (H : mjHm J) : mjCtr m4S J 308 mjSm_m_627 := mjCtr_joinA (i := 1) (ss := [mjSm_m_618, mjSm_m_620, mjSm_m_622, mjSm_m_624, mjSm_m_626]) (by decide +kernel) (mjListC (mjC_m_618 hJ H) (mjListC (mjC_m_620 hJ H) (mjListC (mjC_m_622 hJ H) (mjListC (mjC_m_624 hJ H) (mjListC (mjC_m_626 hJ H) (fun e he => (by cases he)))))))
def mjSm_m_628 : MjSm := ([(3, 240, 240, 0, 0), (0, -2147483648, -1, 0, 0)], [], [((0, -1, -1, 0, 0), [], [])], [], 2)
set_option maxRecDepth 100000 in
theorem mjC_m_628 {J : MjW → Prop} (hJ : mjUok m4S m4U J) (H : mjHm J) : mjCtr m4S J 309 mjSm_m_628 := aiOk_ctr hJ (env := [(221, mjSm_m_617)]) (mjEnvC (mjC_m_617 hJ H) (fun e he => (by cases he))) (pr := []) (sp := 255) (cuts := []) (n := 10) (by decide +kernel)
def mjSm_m_629 : MjSm := ([(3, 240, 240, 0, 0), (0, 0, 0, 0, 0)], [], [((0, -2147483648, 2147483647, 0, 0), [], [])], [(241, 60), (241, 61), (275, 255)], 2)
def mjCuts_m_629 : List MjCut := []
set_option maxRecDepth 100000 in
theorem mjCE_m_629 : aiOkE m4S m4U [(221, mjSm_m_619)] 309 mjSm_m_629 [] 255 mjCuts_m_629 1219 = true := by decide +kernel
theorem mjC_m_629 {J : MjW → Prop} (hJ : mjUok m4S m4U J) (H : mjHm J) : mjCtr m4S J 309 mjSm_m_629 := aiOk_ctr hJ (env := [(221, mjSm_m_619)]) (mjEnvC (mjC_m_619 hJ H) (fun e he => (by cases he))) (pr := []) (sp := 255) (cuts := mjCuts_m_629) (n := 1219) (aiOk_split mjCE_m_629 (fun C hC => (by cases hC)))
def mjSm_m_630 : MjSm := ([(3, 240, 240, 0, 0), (0, 1, 1, 0, 0)], [], [((0, -2147483648, 2147483647, 0, 0), [], [])], [(241, 60), (241, 61), (275, 255)], 2)
def mjCuts_m_630 : List MjCut := []
set_option maxRecDepth 100000 in
theorem mjCE_m_630 : aiOkE m4S m4U [(221, mjSm_m_621)] 309 mjSm_m_630 [] 255 mjCuts_m_630 1219 = true := by decide +kernel
theorem mjC_m_630 {J : MjW → Prop} (hJ : mjUok m4S m4U J) (H : mjHm J) : mjCtr m4S J 309 mjSm_m_630 := aiOk_ctr hJ (env := [(221, mjSm_m_621)]) (mjEnvC (mjC_m_621 hJ H) (fun e he => (by cases he))) (pr := []) (sp := 255) (cuts := mjCuts_m_630) (n := 1219) (aiOk_split mjCE_m_630 (fun C hC => (by cases hC)))
def mjSm_m_631 : MjSm := ([(3, 240, 240, 0, 0), (0, 2, 2, 0, 0)], [], [((0, -2147483648, 2147483647, 0, 0), [], [])], [(241, 60), (241, 61), (275, 255)], 2)
def mjCuts_m_631 : List MjCut := []
set_option maxRecDepth 100000 in
theorem mjCE_m_631 : aiOkE m4S m4U [(221, mjSm_m_623)] 309 mjSm_m_631 [] 255 mjCuts_m_631 1219 = true := by decide +kernel
theorem mjC_m_631 {J : MjW → Prop} (hJ : mjUok m4S m4U J) (H : mjHm J) : mjCtr m4S J 309 mjSm_m_631 := aiOk_ctr hJ (env := [(221, mjSm_m_623)]) (mjEnvC (mjC_m_623 hJ H) (fun e he => (by cases he))) (pr := []) (sp := 255) (cuts := mjCuts_m_631) (n := 1219) (aiOk_split mjCE_m_631 (fun C hC => (by cases hC)))
def mjSm_m_632 : MjSm := ([(3, 240, 240, 0, 0), (0, 3, 2147483647, 0, 0)], [], [((0, -1, -1, 0, 0), [], [])], [], 2)
set_option maxRecDepth 100000 in
theorem mjC_m_632 {J : MjW → Prop} (hJ : mjUok m4S m4U J) (H : mjHm J) : mjCtr m4S J 309 mjSm_m_632 := aiOk_ctr hJ (env := [(221, mjSm_m_625)]) (mjEnvC (mjC_m_625 hJ H) (fun e he => (by cases he))) (pr := []) (sp := 255) (cuts := []) (n := 10) (by decide +kernel)
def mjSm_m_633 : MjSm := ([(3, 240, 240, 0, 0), (0, -2147483648, 2147483647, 0, 0)], [], [((0, -2147483648, 2147483647, 0, 0), [], [])], [(241, 60), (241, 61), (275, 255)], 2)
set_option maxRecDepth 100000 in
theorem mjC_m_633 {J : MjW → Prop} (hJ : mjUok m4S m4U J) (H : mjHm J) : mjCtr m4S J 309 mjSm_m_633 := mjCtr_joinA (i := 1) (ss := [mjSm_m_628, mjSm_m_629, mjSm_m_630, mjSm_m_631, mjSm_m_632]) (by decide +kernel) (mjListC (mjC_m_628 hJ H) (mjListC (mjC_m_629 hJ H) (mjListC (mjC_m_630 hJ H) (mjListC (mjC_m_631 hJ H) (mjListC (mjC_m_632 hJ H) (fun e he => (by cases he)))))))
def mjSm_m_634 : MjSm := ([(3, 240, 240, 0, 0), (0, -2147483648, 2147483647, 0, 0)], [], [((0, -2147483648, 2147483647, 0, 0), [(1, -2147483648, 2147483647)], [])], [], 2)
set_option maxRecDepth 100000 in
theorem mjC_m_634 {J : MjW → Prop} (hJ : mjUok m4S m4U J) (H : mjHm J) : mjCtr m4S J 310 mjSm_m_634 := aiOk_ctr hJ (env := [(222, mjSm_m_6), (179, mjSm_m_275), (220, mjSm_m_3)]) (mjEnvC (mjC_m_6 hJ H) (mjEnvC (mjC_m_275 hJ H) (mjEnvC (mjC_m_3 hJ H) (fun e he => (by cases he))))) (pr := [1]) (sp := 255) (cuts := []) (n := 11) (by decide +kernel)
def mjSm_m_635 : MjSm := ([(3, 240, 240, 0, 0)], [], [((7, 0, 0, 0, 0), [], [])], [(241, 60), (241, 61), (241, 63), (241, 73), (275, 255), (290, 255)], 3)
set_option maxRecDepth 100000 in
theorem mjC_m_635 {J : MjW → Prop} (hJ : mjUok m4S m4U J) (H : mjHm J) : mjCtr m4S J 177 mjSm_m_635 := aiOk_ctr hJ (env := [(178, mjSm_m_610)]) (mjEnvC (mjC_m_610 hJ H) (fun e he => (by cases he))) (pr := []) (sp := 255) (cuts := []) (n := 53) (by decide +kernel)
