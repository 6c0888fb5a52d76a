set_option maxRecDepth 100000 in
theorem mjCC_askx_61_16 : aiOkC (mjSW 0 240 mjWd_askx) (mjUW mjWd_askx) [] 171 mjSm_askx_61 [] mjCuts_askx_61 1383 mjCu_askx_61_16 = true := by decide +kernel
set_option maxRecDepth 100000 in
theorem mjCC_askx_61_17 : aiOkC (mjSW 0 240 mjWd_askx) (mjUW mjWd_askx) [] 171 mjSm_askx_61 [] mjCuts_askx_61 1383 mjCu_askx_61_17 = true := by decide +kernel
set_option maxRecDepth 100000 in
theorem mjCC_askx_61_18 : aiOkC (mjSW 0 240 mjWd_askx) (mjUW mjWd_askx) [] 171 mjSm_askx_61 [] mjCuts_askx_61 1383 mjCu_askx_61_18 = true := by decide +kernel
set_option maxRecDepth 100000 in
theorem mjCC_askx_61_19 : aiOkC (mjSW 0 240 mjWd_askx) (mjUW mjWd_askx) [] 171 mjSm_askx_61 [] mjCuts_askx_61 1383 mjCu_askx_61_19 = true := by decide +kernel
set_option maxRecDepth 100000 in
theorem mjCC_askx_61_20 : aiOkC (mjSW 0 240 mjWd_askx) (mjUW mjWd_askx) [] 171 mjSm_askx_61 [] mjCuts_askx_61 1383 mjCu_askx_61_20 = true := by decide +kernel
set_option maxRecDepth 100000 in
theorem mjCC_askx_61_21 : aiOkC (mjSW 0 240 mjWd_askx) (mjUW mjWd_askx) [] 171 mjSm_askx_61 [] mjCuts_askx_61 1383 mjCu_askx_61_21 = true := by decide +kernel
set_option maxRecDepth 100000 in
theorem mjCC_askx_61_22 : aiOkC (mjSW 0 240 mjWd_askx) (mjUW mjWd_askx) [] 171 mjSm_askx_61 [] mjCuts_askx_61 1383 mjCu_askx_61_22 = true := by decide +kernel
set_option maxRecDepth 100000 in
theorem mjCC_askx_61_23 : aiOkC (mjSW 0 240 mjWd_askx) (mjUW mjWd_askx) [] 171 mjSm_askx_61 [] mjCuts_askx_61 1383 mjCu_askx_61_23 = true := by decide +kernel
set_option maxRecDepth 100000 in
theorem mjCC_askx_61_24 : aiOkC (mjSW 0 240 mjWd_askx) (mjUW mjWd_askx) [] 171 mjSm_askx_61 [] mjCuts_askx_61 1383 mjCu_askx_61_24 = true := by decide +kernel
set_option maxRecDepth 100000 in
theorem mjCC_askx_61_25 : aiOkC (mjSW 0 240 mjWd_askx) (mjUW mjWd_askx) [] 171 mjSm_askx_61 [] mjCuts_askx_61 1383 mjCu_askx_61_25 = true := by decide +kernel
set_option maxRecDepth 100000 in
theorem mjCC_askx_61_26 : aiOkC (mjSW 0 240 mjWd_askx) (mjUW mjWd_askx) [] 171 mjSm_askx_61 [] mjCuts_askx_61 1383 mjCu_askx_61_26 = true := by decide +kernel
set_option maxRecDepth 100000 in
theorem mjCC_askx_61_27 : aiOkC (mjSW 0 240 mjWd_askx) (mjUW mjWd_askx) [] 171 mjSm_askx_61 [] mjCuts_askx_61 1383 mjCu_askx_61_27 = true := by decide +kernel
set_option maxRecDepth 100000 in
theorem mjCC_askx_61_28 : aiOkC (mjSW 0 240 mjWd_askx) (mjUW mjWd_askx) [] 171 mjSm_askx_61 [] mjCuts_askx_61 1383 mjCu_askx_61_28 = true := by decide +kernel
set_option maxRecDepth 100000 in
theorem mjCC_askx_61_29 : aiOkC (mjSW 0 240 mjWd_askx) (mjUW mjWd_askx) [] 171 mjSm_askx_61 [] mjCuts_askx_61 1383 mjCu_askx_61_29 = true := by decide +kernel
set_option maxRecDepth 100000 in
theorem mjCC_askx_61_30 : aiOkC (mjSW 0 240 mjWd_askx) (mjUW mjWd_askx) [] 171 mjSm_askx_61 [] mjCuts_askx_61 1383 mjCu_askx_61_30 = true := by decide +kernel
set_option maxRecDepth 100000 in
theorem mjCC_askx_61_31 : aiOkC (mjSW 0 240 mjWd_askx) (mjUW mjWd_askx) [] 171 mjSm_askx_61 [] mjCuts_askx_61 1383 mjCu_askx_61_31 = true := by decide +kernel
theorem mjC_askx_61 : mjCtr (mjSW 0 240 mjWd_askx) 171 mjSm_askx_61 := aiOk_ctr mjUW_ok (env := []) (fun e he => (by cases he)) (pr := []) (cuts := mjCuts_askx_61) (n := 1383) (aiOk_split mjCE_askx_61 (List.forall_mem_cons.mpr ⟨mjCC_askx_61_0, (List.forall_mem_cons.mpr ⟨mjCC_askx_61_1, (List.forall_mem_cons.mpr ⟨mjCC_askx_61_2, (List.forall_mem_cons.mpr ⟨mjCC_askx_61_3, (List.forall_mem_cons.mpr ⟨mjCC_askx_61_4, (List.forall_mem_cons.mpr ⟨mjCC_askx_61_5, (List.forall_mem_cons.mpr ⟨mjCC_askx_61_6, (List.forall_mem_cons.mpr ⟨mjCC_askx_61_7, (List.forall_mem_cons.mpr ⟨mjCC_askx_61_8, (List.forall_mem_cons.mpr ⟨mjCC_askx_61_9, (List.forall_mem_cons.mpr ⟨mjCC_askx_61_10, (List.forall_mem_cons.mpr ⟨mjCC_askx_61_11, (List.forall_mem_cons.mpr ⟨mjCC_askx_61_12, (List.forall_mem_cons.mpr ⟨mjCC_askx_61_13, (List.forall_mem_cons.mpr ⟨mjCC_askx_61_14, (List.forall_mem_cons.mpr ⟨mjCC_askx_61_15, (List.forall_mem_cons.mpr ⟨mjCC_askx_61_16, (List.forall_mem_cons.mpr ⟨mjCC_askx_61_17, (List.forall_mem_cons.mpr ⟨mjCC_askx_61_18, (List.forall_mem_cons.mpr ⟨mjCC_askx_61_19, (List.forall_mem_cons.mpr ⟨mjCC_askx_61_20, (List.forall_mem_cons.mpr ⟨mjCC_askx_61_21, (List.forall_mem_cons.mpr ⟨mjCC_askx_61_22, (List.forall_mem_cons.mpr ⟨mjCC_askx_61_23, (List.forall_mem_cons.mpr ⟨mjCC_askx_61_24, (List.forall_mem_cons.mpr ⟨mjCC_askx_61_25, (List.forall_mem_cons.mpr ⟨mjCC_askx_61_26, (List.forall_mem_cons.mpr ⟨mjCC_askx_61_27, (List.forall_mem_cons.mpr ⟨mjCC_askx_61_28, (List.forall_mem_cons.mpr ⟨mjCC_askx_61_29, (List.forall_mem_cons.mpr ⟨mjCC_askx_61_30, (List.forall_mem_cons.mpr ⟨mjCC_askx_61_31, (fun C hC => (by cases hC))⟩)⟩)⟩)⟩)⟩)⟩)⟩)⟩)⟩)⟩)⟩)⟩)⟩)⟩)⟩)⟩)⟩)⟩)⟩)⟩)⟩)⟩)⟩)⟩)⟩)⟩)⟩)⟩)⟩)⟩)⟩)⟩))
def mjSm_askx_62 : MjSm := ([(3, 185, 185, 0, 0)], [(185, 9, (0, 2147483647, 2147483647, 0, 0)), (185, 11, (0, 0, 0, 0, 0))], [((7, 0, 0, 0, 0), [], [(185, 11, (0, 31, 31, 0, 0))])], [(186, 10), (186, 11)], 2)
set_option maxRecDepth 100000 in
theorem mjC_askx_62 : mjCtr (mjSW 0 240 mjWd_askx) 170 mjSm_askx_62 := aiOk_ctr mjUW_ok (env := [(171, mjSm_askx_61)]) (mjEnvC mjC_askx_61 (fun e he => (by cases he))) (pr := []) (cuts := []) (n := 343) (by decide +kernel)
def mjSm_askx_63 : MjSm := ([(3, 0, 0, 0, 0), (0, -2147483648, 2147483647, 0, 0), (0, -2147483648, 2147483647, 0, 0)], [(185, 6, (0, 0, 0, 0, 0)), (185, 9, (0, 0, 0, 0, 0)), (185, 11, (0, 0, 0, 0, 0)), (209, 8, (0, 0, 0, 0, 0))], [((0, 0, 0, 0, 0), [(1, 0, 0)], [(185, 6, (0, 1, 1, 0, 0)), (185, 9, (0, 2147483647, 2147483647, 0, 0)), (185, 11, (0, 31, 31, 0, 0))]), ((0, 31, 31, 0, 0), [(1, 1, 1)], [(185, 6, (0, 1, 1, 0, 0)), (185, 9, (0, 2147483647, 2147483647, 0, 0)), (185, 11, (0, 31, 31, 0, 0))]), ((0, -1, -1, 0, 0), [(1, 2, 2147483647)], [(185, 6, (0, 0, 0, 0, 0)), (185, 9, (0, 0, 0, 0, 0)), (185, 11, (0, 0, 0, 0, 0)), (209, 8, (0, 0, 0, 0, 0))]), ((0, -1, -1, 0, 0), [(1, -2147483648, -1)], [(185, 6, (0, 0, 0, 0, 0)), (185, 9, (0, 0, 0, 0, 0)), (185, 11, (0, 0, 0, 0, 0)), (209, 8, (0, 0, 0, 0, 0))])], [(186, 6), (186, 9), (186, 10), (186, 11), (192, 255), (210, 2), (210, 3), (210, 7), (210, 8), (210, 9), (211, 3), (211, 4), (211, 5), (211, 6), (211, 7), (212, 255), (213, 255), (214, 255), (215, 255), (216, 255), (217, 255), (218, 255)], 7)
set_option maxRecDepth 100000 in
theorem mjC_askx_63 : mjCtr (mjSW 0 240 mjWd_askx) 169 mjSm_askx_63 := aiOk_ctr mjUW_ok (env := [(164, mjSm_askx_60), (170, mjSm_askx_62)]) (mjEnvC mjC_askx_60 (mjEnvC mjC_askx_62 (fun e he => (by cases he)))) (pr := [1]) (cuts := []) (n := 27) (by decide +kernel)
