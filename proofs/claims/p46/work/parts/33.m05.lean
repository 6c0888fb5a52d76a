def mjSm_m_370 : MjSm := ([(0, 2, 2, 0, 0), (0, 0, 0, 0, 0), (0, 2, 2, 0, 0)], [], [((0, 1, 1, 0, 0), [], [])], [], 1)
set_option maxRecDepth 100000 in
theorem mjC_m_370 {J : MjW → Prop} (hJ : mjUok m4S m4U J) (H : mjHm J) : mjCtr m4S J 221 mjSm_m_370 := aiOk_ctr hJ (env := []) (fun e he => (by cases he)) (pr := []) (sp := 255) (cuts := []) (n := 12) (by decide +kernel)
def mjSm_m_371 : MjSm := ([(3, 240, 240, 0, 0), (0, 2, 2, 0, 0)], [], [((0, -2147483648, 2147483647, 0, 0), [], [])], [(289, 255), (290, 255)], 2)
def mjCuts_m_371 : List MjCut := []
set_option maxRecDepth 100000 in
theorem mjCE_m_371 : aiOkE m4S m4U [(221, mjSm_m_370)] 308 mjSm_m_371 [] 255 mjCuts_m_371 1213 = true := by decide +kernel
theorem mjC_m_371 {J : MjW → Prop} (hJ : mjUok m4S m4U J) (H : mjHm J) : mjCtr m4S J 308 mjSm_m_371 := aiOk_ctr hJ (env := [(221, mjSm_m_370)]) (mjEnvC (mjC_m_370 hJ H) (fun e he => (by cases he))) (pr := []) (sp := 255) (cuts := mjCuts_m_371) (n := 1213) (aiOk_split mjCE_m_371 (fun C hC => (by cases hC)))
def mjSm_m_372 : MjSm := ([(0, 3, 2147483647, 0, 0), (0, 0, 0, 0, 0), (0, 2, 2, 0, 0)], [], [((0, 0, 0, 0, 0), [], [])], [], 1)
set_option maxRecDepth 100000 in
theorem mjC_m_372 {J : MjW → Prop} (hJ : mjUok m4S m4U J) (H : mjHm J) : mjCtr m4S J 221 mjSm_m_372 := aiOk_ctr hJ (env := []) (fun e he => (by cases he)) (pr := []) (sp := 255) (cuts := []) (n := 11) (by decide +kernel)
def mjSm_m_373 : MjSm := ([(3, 240, 240, 0, 0), (0, 3, 2147483647, 0, 0)], [], [((0, -1, -1, 0, 0), [], [])], [], 2)
set_option maxRecDepth 100000 in
theorem mjC_m_373 {J : MjW → Prop} (hJ : mjUok m4S m4U J) (H : mjHm J) : mjCtr m4S J 308 mjSm_m_373 := aiOk_ctr hJ (env := [(221, mjSm_m_372)]) (mjEnvC (mjC_m_372 hJ H) (fun e he => (by cases he))) (pr := []) (sp := 255) (cuts := []) (n := 10) (by decide +kernel)
def mjSm_m_374 : MjSm := ([(3, 240, 240, 0, 0), (0, -2147483648, 2147483647, 0, 0)], [], [((0, -2147483648, 2147483647, 0, 0), [], [])], [(289, 255), (290, 255)], 2)
set_option maxRecDepth 100000 in
theorem mjC_m_374 {J : MjW → Prop} (hJ : mjUok m4S m4U J) (H : mjHm J) : mjCtr m4S J 308 mjSm_m_374 := mjCtr_joinA (i := 1) (ss := [mjSm_m_365, mjSm_m_367, mjSm_m_369, mjSm_m_371, mjSm_m_373]) (by decide +kernel) (mjListC (mjC_m_365 hJ H) (mjListC (mjC_m_367 hJ H) (mjListC (mjC_m_369 hJ H) (mjListC (mjC_m_371 hJ H) (mjListC (mjC_m_373 hJ H) (fun e he => (by cases he)))))))
def mjSm_m_375 : MjSm := ([(3, 240, 240, 0, 0), (0, -2147483648, -1, 0, 0)], [], [((0, -1, -1, 0, 0), [], [])], [], 2)
set_option maxRecDepth 100000 in
theorem mjC_m_375 {J : MjW → Prop} (hJ : mjUok m4S m4U J) (H : mjHm J) : mjCtr m4S J 309 mjSm_m_375 := aiOk_ctr hJ (env := [(221, mjSm_m_364)]) (mjEnvC (mjC_m_364 hJ H) (fun e he => (by cases he))) (pr := []) (sp := 255) (cuts := []) (n := 10) (by decide +kernel)
def mjSm_m_376 : MjSm := ([(3, 240, 240, 0, 0), (0, 0, 0, 0, 0)], [], [((0, -2147483648, 2147483647, 0, 0), [], [])], [(241, 60), (241, 61), (275, 255)], 2)
def mjCuts_m_376 : List MjCut := []
set_option maxRecDepth 100000 in
theorem mjCE_m_376 : aiOkE m4S m4U [(221, mjSm_m_366)] 309 mjSm_m_376 [] 255 mjCuts_m_376 1219 = true := by decide +kernel
theorem mjC_m_376 {J : MjW → Prop} (hJ : mjUok m4S m4U J) (H : mjHm J) : mjCtr m4S J 309 mjSm_m_376 := aiOk_ctr hJ (env := [(221, mjSm_m_366)]) (mjEnvC (mjC_m_366 hJ H) (fun e he => (by cases he))) (pr := []) (sp := 255) (cuts := mjCuts_m_376) (n := 1219) (aiOk_split mjCE_m_376 (fun C hC => (by cases hC)))
def mjSm_m_377 : MjSm := ([(3, 240, 240, 0, 0), (0, 1, 1, 0, 0)], [], [((0, -2147483648, 2147483647, 0, 0), [], [])], [(241, 60), (241, 61), (275, 255)], 2)
def mjCuts_m_377 : List MjCut := []
set_option maxRecDepth 100000 in
theorem mjCE_m_377 : aiOkE m4S m4U [(221, mjSm_m_368)] 309 mjSm_m_377 [] 255 mjCuts_m_377 1219 = true := by decide +kernel
theorem mjC_m_377 {J : MjW → Prop} (hJ : mjUok m4S m4U J) (H : mjHm J) : mjCtr m4S J 309 mjSm_m_377 := aiOk_ctr hJ (env := [(221, mjSm_m_368)]) (mjEnvC (mjC_m_368 hJ H) (fun e he => (by cases he))) (pr := []) (sp := 255) (cuts := mjCuts_m_377) (n := 1219) (aiOk_split mjCE_m_377 (fun C hC => (by cases hC)))
def mjSm_m_378 : MjSm := ([(3, 240, 240, 0, 0), (0, 2, 2, 0, 0)], [], [((0, -2147483648, 2147483647, 0, 0), [], [])], [(241, 60), (241, 61), (275, 255)], 2)
def mjCuts_m_378 : List MjCut := []
set_option maxRecDepth 100000 in
theorem mjCE_m_378 : aiOkE m4S m4U [(221, mjSm_m_370)] 309 mjSm_m_378 [] 255 mjCuts_m_378 1219 = true := by decide +kernel
theorem mjC_m_378 {J : MjW → Prop} (hJ : mjUok m4S m4U J) (H : mjHm J) : mjCtr m4S J 309 mjSm_m_378 := aiOk_ctr hJ (env := [(221, mjSm_m_370)]) (mjEnvC (mjC_m_370 hJ H) (fun e he => (by cases he))) (pr := []) (sp := 255) (cuts := mjCuts_m_378) (n := 1219) (aiOk_split mjCE_m_378 (fun C hC => (by cases hC)))
def mjSm_m_379 : MjSm := ([(3, 240, 240, 0, 0), (0, 3, 2147483647, 0, 0)], [], [((0, -1, -1, 0, 0), [], [])], [], 2)
set_option maxRecDepth 100000 in
theorem mjC_m_379 {J : MjW → Prop} (hJ : mjUok m4S m4U J) (H : mjHm J) : mjCtr m4S J 309 mjSm_m_379 := aiOk_ctr hJ (env := [(221, mjSm_m_372)]) (mjEnvC (mjC_m_372 hJ H) (fun e he => (by cases he))) (pr := []) (sp := 255) (cuts := []) (n := 10) (by decide +kernel)
def mjSm_m_380 : MjSm := ([(3, 240, 240, 0, 0), (0, -2147483648, 2147483647, 0, 0)], [], [((0, -2147483648, 2147483647, 0, 0), [], [])], [(241, 60), (241, 61), (275, 255)], 2)
set_option maxRecDepth 100000 in
theorem mjC_m_380 {J : MjW → Prop} (hJ : mjUok m4S m4U J) (H : mjHm J) : mjCtr m4S J 309 mjSm_m_380 := mjCtr_joinA (i := 1) (ss := [mjSm_m_375, mjSm_m_376, mjSm_m_377, mjSm_m_378, mjSm_m_379]) (by decide +kernel) (mjListC (mjC_m_375 hJ H) (mjListC (mjC_m_376 hJ H) (mjListC (mjC_m_377 hJ H) (mjListC (mjC_m_378 hJ H) (mjListC (mjC_m_379 hJ H) (fun e he => (by cases he)))))))
def mjSm_m_381 : MjSm := ([(3, 240, 240, 0, 0), (0, -2147483648, 2147483647, 0, 0)], [], [((0, -2147483648, 2147483647, 0, 0), [(1, -2147483648, 2147483647)], [])], [], 2)
set_option maxRecDepth 100000 in
theorem mjC_m_381 {J : MjW → Prop} (hJ : mjUok m4S m4U J) (H : mjHm J) : mjCtr m4S J 310 mjSm_m_381 := aiOk_ctr hJ (env := [(222, mjSm_m_6), (179, mjSm_m_21), (220, mjSm_m_3)]) (mjEnvC (mjC_m_6 hJ H) (mjEnvC (mjC_m_21 hJ H) (mjEnvC (mjC_m_3 hJ H) (fun e he => (by cases he))))) (pr := [1]) (sp := 255) (cuts := []) (n := 11) (by decide +kernel)
