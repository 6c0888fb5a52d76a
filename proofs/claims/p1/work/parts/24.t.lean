theorem mjEnvC {S : MjSp} {y : Nat} {sm : MjSm} {env : List (Nat × MjSm)} (h : mjCtr S y sm) (he : ∀ e ∈ env, mjCtr S e.1 e.2) : ∀ e ∈ (y, sm) :: env, mjCtr S e.1 e.2 := List.forall_mem_cons.mpr ⟨h, he⟩
def mjWd_willx : MjWd := [(209, 7, (0, -2147483648, 2147483647)), (209, 8, (0, 0, 3)), (209, 9, (0, -2147483648, 2147483647)), (210, 6, (0, -2147483648, 2147483647)), (210, 7, (0, 0, 999)), (211, 255, (0, 0, 99)), (214, 255, (0, -2147483648, 2147483647)), (216, 255, (0, -2147483648, 2147483647)), (217, 255, (0, 0, 2147483647))]
theorem mjWd_willx_ok : mjWdB mjWd_willx = true := by decide +kernel
def mjSm_willx_0 : MjSm := ([(3, 18, 18, 0, 0)], [], [((3, 20, 20, 0, 0), [], [])], [], 1)
set_option maxRecDepth 100000 in
theorem mjC_willx_0 : mjCtr (mjSW mjWd_willx) 70 mjSm_willx_0 := aiOk_ctr mjUW_ok (env := []) (fun e he => (by cases he)) (pr := []) (cuts := []) (n := 9) (by decide +kernel)
def mjSm_willx_1 : MjSm := ([(3, 210, 210, 0, 0), (3, 20, 20, 0, 0)], [], [((7, 0, 0, 0, 0), [], [])], [(211, 3), (211, 4), (211, 5), (211, 6), (211, 7), (212, 255), (213, 255), (214, 255)], 1)
set_option maxRecDepth 100000 in
theorem mjC_willx_1 : mjCtr (mjSW mjWd_willx) 64 mjSm_willx_1 := aiOk_ctr mjUW_ok (env := []) (fun e he => (by cases he)) (pr := []) (cuts := []) (n := 48) (by decide +kernel)
def mjSm_willx_2 : MjSm := ([(3, 216, 216, 0, 0), (0, 0, 0, 0, 0)], [], [((7, 0, 0, 0, 0), [], [])], [(217, 255)], 1)
set_option maxRecDepth 100000 in
theorem mjC_willx_2 : mjCtr (mjSW mjWd_willx) 6 mjSm_willx_2 := aiOk_ctr mjUW_ok (env := []) (fun e he => (by cases he)) (pr := []) (cuts := [(5, ([(3, 216, 216, 0, 0), (0, 0, 0, 0, 0), (0, 0, 6, 0, 0), (0, 6, 6, 0, 0)], [], []), [(0, 0, 49995), (1, 2, 2147483647), (0, 0, 60000), (0, 0, 0), (0, 0, 0), (0, 0, 0), (0, 0, 0), (0, 0, 0)])]) (n := 12) (by decide +kernel)
def mjSm_willx_3 : MjSm := ([(3, 217, 217, 0, 0), (0, 0, 0, 0, 0)], [], [((7, 0, 0, 0, 0), [], [])], [(218, 255)], 1)
set_option maxRecDepth 100000 in
theorem mjC_willx_3 : mjCtr (mjSW mjWd_willx) 6 mjSm_willx_3 := aiOk_ctr mjUW_ok (env := []) (fun e he => (by cases he)) (pr := []) (cuts := [(5, ([(3, 217, 217, 0, 0), (0, 0, 0, 0, 0), (0, 0, 6, 0, 0), (0, 6, 6, 0, 0)], [], []), [(0, 0, 49995), (1, 2, 2147483647), (0, 0, 60000), (0, 0, 0), (0, 0, 0), (0, 0, 0), (0, 0, 0), (0, 0, 0)])]) (n := 12) (by decide +kernel)
def mjSm_willx_4 : MjSm := ([(3, 215, 215, 0, 0), (0, 0, 0, 0, 0)], [], [((7, 0, 0, 0, 0), [], [])], [(216, 255)], 1)
set_option maxRecDepth 100000 in
theorem mjC_willx_4 : mjCtr (mjSW mjWd_willx) 6 mjSm_willx_4 := aiOk_ctr mjUW_ok (env := []) (fun e he => (by cases he)) (pr := []) (cuts := [(5, ([(3, 215, 215, 0, 0), (0, 0, 0, 0, 0), (0, 0, 6, 0, 0), (0, 6, 6, 0, 0)], [], []), [(0, 0, 49995), (1, 2, 2147483647), (0, 0, 60000), (0, 0, 0), (0, 0, 0), (0, 0, 0), (0, 0, 0), (0, 0, 0)])]) (n := 12) (by decide +kernel)
def mjSm_willx_5 : MjSm := ([(3, 193, 193, 0, 0), (3, 210, 210, 0, 0), (0, -2147483648, 2147483647, 0, 0)], [], [((0, 0, 0, 0, 0), [], [])], [], 1)
set_option maxRecDepth 100000 in
theorem mjC_willx_5 : mjCtr (mjSW mjWd_willx) 75 mjSm_willx_5 := aiOk_ctr mjUW_ok (env := []) (fun e he => (by cases he)) (pr := []) (cuts := [(5, ([(3, 193, 193, 0, 0), (3, 210, 210, 0, 0), (0, -2147483648, 2147483647, 0, 0), (0, 0, 0, 0, 0), (0, 0, 0, 0, 0), (9, 0, 0, 0, 0)], [], []), [(0, 0, 49995), (1, 4, 2147483647), (0, 0, 60000), (0, 0, 0), (0, 0, 0), (0, 0, 0), (0, 0, 0), (0, 0, 0)])]) (n := 9) (by decide +kernel)
def mjSm_willx_6 : MjSm := ([(3, 209, 209, 0, 0)], [], [((7, 0, 0, 0, 0), [], [])], [(216, 255)], 2)
set_option maxRecDepth 100000 in
theorem mjC_willx_6 : mjCtr (mjSW mjWd_willx) 74 mjSm_willx_6 := aiOk_ctr mjUW_ok (env := [(6, mjSm_willx_4), (75, mjSm_willx_5)]) (mjEnvC mjC_willx_4 (mjEnvC mjC_willx_5 (fun e he => (by cases he)))) (pr := []) (cuts := [(32, ([(3, 209, 209, 0, 0), (0, 0, 0, 0, 0), (0, 0, 0, 0, 0)], [], []), [(0, 0, 49968), (1, 2, 2147483647), (0, 0, 60000), (0, 0, 0), (0, 0, 0), (0, 0, 0), (0, 0, 0), (0, 0, 0)])]) (n := 20) (by decide +kernel)
def mjSm_willx_7 : MjSm := ([(3, 209, 209, 0, 0), (3, 193, 193, 0, 0), (3, 210, 210, 0, 0)], [], [((7, 0, 0, 0, 0), [], [])], [(210, 2), (210, 3), (210, 7), (216, 255), (217, 255), (218, 255)], 3)
set_option maxRecDepth 100000 in
theorem mjC_willx_7 : mjCtr (mjSW mjWd_willx) 73 mjSm_willx_7 := aiOk_ctr mjUW_ok (env := [(6, mjSm_willx_3), (6, mjSm_willx_2), (74, mjSm_willx_6)]) (mjEnvC mjC_willx_3 (mjEnvC mjC_willx_2 (mjEnvC mjC_willx_6 (fun e he => (by cases he))))) (pr := []) (cuts := []) (n := 23) (by decide +kernel)
def mjSm_willx_8 : MjSm := ([(3, 209, 209, 0, 0), (3, 193, 193, 0, 0), (3, 20, 20, 0, 0)], [], [((7, 0, 0, 0, 0), [], [])], [(210, 2), (210, 3), (210, 7), (211, 3), (211, 4), (211, 5), (211, 6), (211, 7), (212, 255), (213, 255), (214, 255), (216, 255), (217, 255), (218, 255)], 4)
set_option maxRecDepth 100000 in
theorem mjC_willx_8 : mjCtr (mjSW mjWd_willx) 72 mjSm_willx_8 := aiOk_ctr mjUW_ok (env := [(73, mjSm_willx_7), (64, mjSm_willx_1)]) (mjEnvC mjC_willx_7 (mjEnvC mjC_willx_1 (fun e he => (by cases he)))) (pr := []) (cuts := []) (n := 13) (by decide +kernel)
def mjSm_willx_9 : MjSm := ([(0, 0, 3, 0, 0), (0, 0, 2, 0, 0)], [], [((0, 0, 17, 0, 0), [], [])], [], 1)
set_option maxRecDepth 100000 in
theorem mjC_willx_9 : mjCtr (mjSW mjWd_willx) 48 mjSm_willx_9 := aiOk_ctr mjUW_ok (env := []) (fun e he => (by cases he)) (pr := []) (cuts := []) (n := 9) (by decide +kernel)
def mjSm_willx_10 : MjSm := ([(3, 209, 209, 0, 0), (0, 0, 17, 0, 0), (0, 1, 1, 0, 0)], [], [((7, 0, 0, 0, 0), [], [])], [(212, 255)], 1)
set_option maxRecDepth 100000 in
theorem mjC_willx_10 : mjCtr (mjSW mjWd_willx) 89 mjSm_willx_10 := aiOk_ctr mjUW_ok (env := []) (fun e he => (by cases he)) (pr := []) (cuts := []) (n := 18) (by decide +kernel)
def mjSm_willx_11 : MjSm := ([(3, 201, 201, 0, 0), (3, 214, 214, 0, 0)], [], [((0, -2147483648, 2147483647, 0, 0), [], [])], [], 1)
set_option maxRecDepth 100000 in
theorem mjC_willx_11 : mjCtr (mjSW mjWd_willx) 77 mjSm_willx_11 := aiOk_ctr mjUW_ok (env := []) (fun e he => (by cases he)) (pr := []) (cuts := []) (n := 20) (by decide +kernel)
def mjSm_willx_12 : MjSm := ([(3, 193, 193, 0, 0), (0, 0, 3, 0, 0)], [], [((0, 1, 1, 0, 0), [], [])], [], 1)
set_option maxRecDepth 100000 in
theorem mjC_willx_12 : mjCtr (mjSW mjWd_willx) 69 mjSm_willx_12 := aiOk_ctr mjUW_ok (env := []) (fun e he => (by cases he)) (pr := []) (cuts := []) (n := 15) (by decide +kernel)
def mjSm_willx_13 : MjSm := ([(0, 0, 3, 0, 0), (0, 1, 2, 0, 0)], [], [((0, 1, 17, 0, 0), [], [])], [], 1)
set_option maxRecDepth 100000 in
theorem mjC_willx_13 : mjCtr (mjSW mjWd_willx) 48 mjSm_willx_13 := aiOk_ctr mjUW_ok (env := []) (fun e he => (by cases he)) (pr := []) (cuts := []) (n := 9) (by decide +kernel)
def mjSm_willx_14 : MjSm := ([(3, 209, 209, 0, 0), (0, 1, 17, 0, 0), (0, 1, 1, 0, 0)], [], [((7, 0, 0, 0, 0), [], [])], [(210, 9), (212, 255)], 1)
set_option maxRecDepth 100000 in
theorem mjC_willx_14 : mjCtr (mjSW mjWd_willx) 92 mjSm_willx_14 := aiOk_ctr mjUW_ok (env := []) (fun e he => (by cases he)) (pr := []) (cuts := []) (n := 22) (by decide +kernel)
def mjSm_willx_15 : MjSm := ([(0, 0, 3, 0, 0), (0, 0, 1, 0, 0)], [], [((0, 0, 16, 0, 0), [], [])], [], 1)
set_option maxRecDepth 100000 in
theorem mjC_willx_15 : mjCtr (mjSW mjWd_willx) 48 mjSm_willx_15 := aiOk_ctr mjUW_ok (env := []) (fun e he => (by cases he)) (pr := []) (cuts := []) (n := 9) (by decide +kernel)
def mjSm_willx_16 : MjSm := ([(3, 209, 209, 0, 0), (0, 0, 16, 0, 0), (0, 1, 1, 0, 0)], [], [((7, 0, 0, 0, 0), [], [])], [(210, 9), (212, 255)], 1)
set_option maxRecDepth 100000 in
theorem mjC_willx_16 : mjCtr (mjSW mjWd_willx) 92 mjSm_willx_16 := aiOk_ctr mjUW_ok (env := []) (fun e he => (by cases he)) (pr := []) (cuts := []) (n := 22) (by decide +kernel)
def mjSm_willx_17 : MjSm := ([(3, 209, 209, 0, 0), (0, 0, 3, 0, 0), (0, 0, 1, 0, 0), (0, 1, 1, 0, 0)], [], [((7, 0, 0, 0, 0), [], [])], [(210, 8), (210, 9), (212, 255)], 2)
set_option maxRecDepth 100000 in
theorem mjC_willx_17 : mjCtr (mjSW mjWd_willx) 91 mjSm_willx_17 := aiOk_ctr mjUW_ok (env := [(69, mjSm_willx_12), (48, mjSm_willx_15), (48, mjSm_willx_13), (92, mjSm_willx_16), (92, mjSm_willx_14)]) (mjEnvC mjC_willx_12 (mjEnvC mjC_willx_15 (mjEnvC mjC_willx_13 (mjEnvC mjC_willx_16 (mjEnvC mjC_willx_14 (fun e he => (by cases he))))))) (pr := []) (cuts := [(25, ([(3, 209, 209, 0, 0), (0, 0, 3, 0, 0), (0, 0, 1, 0, 0), (0, 1, 1, 0, 0), (0, 1, 3, 0, 0), (9, 0, 0, 0, 0)], [], []), [(0, 0, 49975), (1, 4, 2147483647), (0, 0, 60000), (0, 0, 0), (0, 0, 0), (0, 0, 0), (0, 0, 0), (0, 0, 0)])]) (n := 43) (by decide +kernel)
def mjSm_willx_18 : MjSm := ([(3, 209, 209, 0, 0), (0, 0, 3, 0, 0), (0, 0, 1, 0, 0)], [], [((7, 0, 0, 0, 0), [], [])], [(210, 7), (210, 8), (210, 9), (212, 255), (217, 255), (218, 255)], 3)
set_option maxRecDepth 100000 in
theorem mjC_willx_18 : mjCtr (mjSW mjWd_willx) 90 mjSm_willx_18 := aiOk_ctr mjUW_ok (env := [(91, mjSm_willx_17)]) (mjEnvC mjC_willx_17 (fun e he => (by cases he))) (pr := []) (cuts := [(78, ([(3, 209, 209, 0, 0), (0, 0, 3, 0, 0), (0, 0, 1, 0, 0), (0, 0, 0, 0, 0), (0, 0, 0, 0, 0)], [], []), [(0, 0, 49922), (1, 4, 2147483647), (0, 0, 60000), (0, 0, 0), (0, 0, 0), (0, 0, 0), (0, 0, 0), (0, 0, 0)])]) (n := 47) (by decide +kernel)
def mjSm_willx_19 : MjSm := ([(3, 209, 209, 0, 0), (0, 0, 3, 0, 0), (0, 0, 2, 0, 0), (0, 0, 0, 0, 0)], [], [((0, 0, 0, 0, 0), [], []), ((0, 1, 1, 0, 0), [(2, 0, 1)], []), ((0, 0, 0, 0, 0), [(2, 0, 1)], []), ((0, 1, 1, 0, 0), [(2, 2, 2)], []), ((0, 0, 0, 0, 0), [(2, 2, 2)], [])], [(215, 255)], 2)
set_option maxRecDepth 100000 in
theorem mjC_willx_19 : mjCtr (mjSW mjWd_willx) 76 mjSm_willx_19 := aiOk_ctr mjUW_ok (env := [(77, mjSm_willx_11), (48, mjSm_willx_9)]) (mjEnvC mjC_willx_11 (mjEnvC mjC_willx_9 (fun e he => (by cases he)))) (pr := [2]) (cuts := []) (n := 80) (by decide +kernel)
def mjSm_willx_20 : MjSm := ([(0, 0, 3, 0, 0), (0, 2, 2, 0, 0)], [], [((0, 2, 17, 0, 0), [], [])], [], 1)
set_option maxRecDepth 100000 in
theorem mjC_willx_20 : mjCtr (mjSW mjWd_willx) 48 mjSm_willx_20 := aiOk_ctr mjUW_ok (env := []) (fun e he => (by cases he)) (pr := []) (cuts := []) (n := 9) (by decide +kernel)
def mjSm_willx_21 : MjSm := ([(3, 209, 209, 0, 0), (0, 2, 17, 0, 0), (0, 1, 1, 0, 0)], [], [((7, 0, 0, 0, 0), [], [])], [(210, 9), (212, 255)], 1)
set_option maxRecDepth 100000 in
theorem mjC_willx_21 : mjCtr (mjSW mjWd_willx) 92 mjSm_willx_21 := aiOk_ctr mjUW_ok (env := []) (fun e he => (by cases he)) (pr := []) (cuts := []) (n := 22) (by decide +kernel)
def mjSm_willx_22 : MjSm := ([(3, 209, 209, 0, 0), (0, 0, 3, 0, 0), (0, 2, 2, 0, 0), (0, 1, 1, 0, 0)], [], [((7, 0, 0, 0, 0), [], [])], [(210, 8), (210, 9), (212, 255)], 2)
set_option maxRecDepth 100000 in
theorem mjC_willx_22 : mjCtr (mjSW mjWd_willx) 91 mjSm_willx_22 := aiOk_ctr mjUW_ok (env := [(48, mjSm_willx_20), (92, mjSm_willx_21)]) (mjEnvC mjC_willx_20 (mjEnvC mjC_willx_21 (fun e he => (by cases he)))) (pr := []) (cuts := [(25, ([(3, 209, 209, 0, 0), (0, 0, 3, 0, 0), (0, 2, 2, 0, 0), (0, 1, 1, 0, 0), (0, 3, 3, 0, 0), (9, 0, 0, 0, 0)], [], []), [(0, 0, 49975), (1, 4, 2147483647), (0, 0, 60000), (0, 0, 0), (0, 0, 0), (0, 0, 0), (0, 0, 0), (0, 0, 0)])]) (n := 19) (by decide +kernel)
def mjSm_willx_23 : MjSm := ([(3, 209, 209, 0, 0), (0, 0, 3, 0, 0), (0, 2, 2, 0, 0)], [], [((7, 0, 0, 0, 0), [], [])], [(210, 7), (210, 8), (210, 9), (212, 255), (217, 255), (218, 255)], 3)
set_option maxRecDepth 100000 in
theorem mjC_willx_23 : mjCtr (mjSW mjWd_willx) 90 mjSm_willx_23 := aiOk_ctr mjUW_ok (env := [(91, mjSm_willx_22)]) (mjEnvC mjC_willx_22 (fun e he => (by cases he))) (pr := []) (cuts := [(78, ([(3, 209, 209, 0, 0), (0, 0, 3, 0, 0), (0, 2, 2, 0, 0), (0, 0, 0, 0, 0), (0, 0, 0, 0, 0)], [], []), [(0, 0, 49922), (1, 4, 2147483647), (0, 0, 60000), (0, 0, 0), (0, 0, 0), (0, 0, 0), (0, 0, 0), (0, 0, 0)])]) (n := 47) (by decide +kernel)
def mjSm_willx_24 : MjSm := ([(3, 209, 209, 0, 0), (0, -1, -1, 0, 0)], [], [((0, 0, 0, 0, 0), [], [])], [], 1)
set_option maxRecDepth 100000 in
theorem mjC_willx_24 : mjCtr (mjSW mjWd_willx) 94 mjSm_willx_24 := aiOk_ctr mjUW_ok (env := []) (fun e he => (by cases he)) (pr := []) (cuts := [(4, ([(3, 209, 209, 0, 0), (0, -1, -1, 0, 0), (0, 0, 0, 0, 0), (0, 0, 0, 0, 0)], [], []), [(0, 0, 49996), (1, 3, 2147483647), (0, 0, 60000), (0, 0, 0), (0, 0, 0), (0, 0, 0), (0, 0, 0), (0, 0, 0)])]) (n := 10) (by decide +kernel)
def mjSm_willx_25 : MjSm := ([(3, 209, 209, 0, 0)], [], [((0, 0, 0, 0, 0), [], [])], [], 2)
set_option maxRecDepth 100000 in
theorem mjC_willx_25 : mjCtr (mjSW mjWd_willx) 93 mjSm_willx_25 := aiOk_ctr mjUW_ok (env := [(94, mjSm_willx_24)]) (mjEnvC mjC_willx_24 (fun e he => (by cases he))) (pr := []) (cuts := []) (n := 11) (by decide +kernel)
def mjSm_willx_26 : MjSm := ([(3, 209, 209, 0, 0), (0, 1, 1, 0, 0), (0, 1, 1, 0, 0)], [], [((7, 0, 0, 0, 0), [], [])], [(210, 7), (210, 8), (210, 9), (211, 5), (211, 6), (211, 7), (212, 255), (215, 255), (216, 255), (217, 255), (218, 255)], 4)
set_option maxRecDepth 100000 in
theorem mjC_willx_26 : mjCtr (mjSW mjWd_willx) 88 mjSm_willx_26 := aiOk_ctr mjUW_ok (env := [(74, mjSm_willx_6), (93, mjSm_willx_25), (90, mjSm_willx_23), (90, mjSm_willx_18), (48, mjSm_willx_9), (76, mjSm_willx_19), (89, mjSm_willx_10)]) (mjEnvC mjC_willx_6 (mjEnvC mjC_willx_25 (mjEnvC mjC_willx_23 (mjEnvC mjC_willx_18 (mjEnvC mjC_willx_9 (mjEnvC mjC_willx_19 (mjEnvC mjC_willx_10 (fun e he => (by cases he))))))))) (pr := []) (cuts := [(2, ([(3, 209, 209, 0, 0), (0, 1, 1, 0, 0), (0, 1, 1, 0, 0), (0, 0, 4, 0, 0), (9, 0, 0, 0, 0)], [], []), [(0, 0, 49998), (1, 3, 2147483647), (0, 0, 60000), (0, 0, 0), (0, 0, 0), (0, 0, 0), (0, 0, 0), (0, 0, 0)]), (16, ([(3, 209, 209, 0, 0), (0, 1, 1, 0, 0), (0, 1, 1, 0, 0), (0, 0, 3, 0, 0), (0, 0, 3, 0, 0)], [], []), [(0, 0, 49998), (1, 3, 2147483647), (0, 0, 49984), (1, 4, 2147483647), (0, 0, 60000), (0, 0, 0), (0, 0, 0), (0, 0, 0)]), (140, ([(3, 209, 209, 0, 0), (0, 1, 1, 0, 0), (0, 1, 1, 0, 0), (0, 0, 3, 0, 0), (9, 0, 0, 0, 0)], [], []), [(0, 0, 49860), (1, 3, 2147483647), (0, 0, 60000), (0, 0, 0), (0, 0, 0), (0, 0, 0), (0, 0, 0), (0, 0, 0)]), (154, ([(3, 209, 209, 0, 0), (0, 1, 1, 0, 0), (0, 1, 1, 0, 0), (0, 0, 2, 0, 0), (0, 0, 4, 0, 0)], [], []), [(0, 0, 49860), (1, 3, 2147483647), (0, 0, 49846), (1, 4, 2147483647), (0, 0, 60000), (0, 0, 0), (0, 0, 0), (0, 0, 0)])]) (n := 35) (by decide +kernel)
def mjSm_willx_27 : MjSm := ([(3, 209, 209, 0, 0), (0, 0, 60, 0, 0), (0, 1, 1, 0, 0), (0, 1, 1, 0, 0)], [(209, 8, (0, 0, 0, 0, 0))], [((7, 0, 0, 0, 0), [], [])], [(210, 7), (210, 8), (210, 9), (211, 5), (211, 6), (211, 7), (212, 255), (215, 255), (216, 255), (217, 255), (218, 255)], 5)
set_option maxRecDepth 100000 in
theorem mjC_willx_27 : mjCtr (mjSW mjWd_willx) 109 mjSm_willx_27 := aiOk_ctr mjUW_ok (env := [(88, mjSm_willx_26)]) (mjEnvC mjC_willx_26 (fun e he => (by cases he))) (pr := []) (cuts := [(3, ([(3, 209, 209, 0, 0), (0, 0, 60, 0, 0), (0, 1, 1, 0, 0), (0, 1, 1, 0, 0), (0, 0, 60, 0, 0)], [], []), [(0, 0, 49997), (1, 4, 2147483647), (0, 0, 60000), (0, 0, 0), (0, 0, 0), (0, 0, 0), (0, 0, 0), (0, 0, 0)])]) (n := 12) (by decide +kernel)
def mjSm_willx_28 : MjSm := ([(3, 209, 209, 0, 0), (0, 1, 1, 0, 0), (0, 0, 0, 0, 0)], [], [((7, 0, 0, 0, 0), [], [])], [(210, 7), (210, 8), (210, 9), (211, 5), (211, 6), (211, 7), (212, 255), (215, 255), (216, 255), (217, 255), (218, 255)], 4)
set_option maxRecDepth 100000 in
theorem mjC_willx_28 : mjCtr (mjSW mjWd_willx) 88 mjSm_willx_28 := aiOk_ctr mjUW_ok (env := [(74, mjSm_willx_6), (93, mjSm_willx_25), (90, mjSm_willx_23), (90, mjSm_willx_18), (48, mjSm_willx_9), (76, mjSm_willx_19), (89, mjSm_willx_10)]) (mjEnvC mjC_willx_6 (mjEnvC mjC_willx_25 (mjEnvC mjC_willx_23 (mjEnvC mjC_willx_18 (mjEnvC mjC_willx_9 (mjEnvC mjC_willx_19 (mjEnvC mjC_willx_10 (fun e he => (by cases he))))))))) (pr := []) (cuts := [(2, ([(3, 209, 209, 0, 0), (0, 1, 1, 0, 0), (0, 0, 0, 0, 0), (0, 0, 4, 0, 0), (9, 0, 0, 0, 0)], [], []), [(0, 0, 49998), (1, 3, 2147483647), (0, 0, 60000), (0, 0, 0), (0, 0, 0), (0, 0, 0), (0, 0, 0), (0, 0, 0)]), (16, ([(3, 209, 209, 0, 0), (0, 1, 1, 0, 0), (0, 0, 0, 0, 0), (0, 0, 3, 0, 0), (0, 0, 3, 0, 0)], [], []), [(0, 0, 49998), (1, 3, 2147483647), (0, 0, 49984), (1, 4, 2147483647), (0, 0, 60000), (0, 0, 0), (0, 0, 0), (0, 0, 0)]), (140, ([(3, 209, 209, 0, 0), (0, 1, 1, 0, 0), (0, 0, 0, 0, 0), (0, 0, 3, 0, 0), (9, 0, 0, 0, 0)], [], []), [(0, 0, 49860), (1, 3, 2147483647), (0, 0, 60000), (0, 0, 0), (0, 0, 0), (0, 0, 0), (0, 0, 0), (0, 0, 0)]), (154, ([(3, 209, 209, 0, 0), (0, 1, 1, 0, 0), (0, 0, 0, 0, 0), (0, 0, 2, 0, 0), (0, 0, 4, 0, 0)], [], []), [(0, 0, 49860), (1, 3, 2147483647), (0, 0, 49846), (1, 4, 2147483647), (0, 0, 60000), (0, 0, 0), (0, 0, 0), (0, 0, 0)])]) (n := 26) (by decide +kernel)
def mjSm_willx_29 : MjSm := ([(3, 209, 209, 0, 0), (0, 0, 60, 0, 0), (0, 1, 1, 0, 0), (0, 0, 0, 0, 0)], [(209, 8, (0, 0, 0, 0, 0))], [((7, 0, 0, 0, 0), [], [])], [(210, 7), (210, 8), (210, 9), (211, 5), (211, 6), (211, 7), (212, 255), (215, 255), (216, 255), (217, 255), (218, 255)], 5)
set_option maxRecDepth 100000 in
theorem mjC_willx_29 : mjCtr (mjSW mjWd_willx) 109 mjSm_willx_29 := aiOk_ctr mjUW_ok (env := [(88, mjSm_willx_28)]) (mjEnvC mjC_willx_28 (fun e he => (by cases he))) (pr := []) (cuts := [(3, ([(3, 209, 209, 0, 0), (0, 0, 60, 0, 0), (0, 1, 1, 0, 0), (0, 0, 0, 0, 0), (0, 0, 60, 0, 0)], [], []), [(0, 0, 49997), (1, 4, 2147483647), (0, 0, 60000), (0, 0, 0), (0, 0, 0), (0, 0, 0), (0, 0, 0), (0, 0, 0)])]) (n := 12) (by decide +kernel)
def mjSm_willx_30 : MjSm := ([(3, 0, 0, 0, 0), (0, -2147483648, 2147483647, 0, 0), (0, -2147483648, 2147483647, 0, 0)], [(209, 8, (0, 0, 0, 0, 0))], [((0, -1, -1, 0, 0), [(1, 0, 60), (2, 2, 2147483647)], [(209, 8, (0, 0, 0, 0, 0))]), ((0, 0, 0, 0, 0), [(1, 0, 60), (2, 1, 1)], []), ((0, 0, 0, 0, 0), [(1, 0, 60), (2, 0, 0)], []), ((0, -1, -1, 0, 0), [(1, 0, 60), (2, -2147483648, -1)], [(209, 8, (0, 0, 0, 0, 0))]), ((0, -1, -1, 0, 0), [(1, 61, 2147483647)], [(209, 8, (0, 0, 0, 0, 0))]), ((0, -1, -1, 0, 0), [(1, -2147483648, -1)], [(209, 8, (0, 0, 0, 0, 0))])], [(210, 2), (210, 3), (210, 7), (210, 8), (210, 9), (211, 3), (211, 4), (211, 5), (211, 6), (211, 7), (212, 255), (213, 255), (214, 255), (215, 255), (216, 255), (217, 255), (218, 255)], 6)
set_option maxRecDepth 100000 in
theorem mjC_willx_30 : mjCtr (mjSW mjWd_willx) 108 mjSm_willx_30 := aiOk_ctr mjUW_ok (env := [(109, mjSm_willx_27), (109, mjSm_willx_29), (72, mjSm_willx_8), (70, mjSm_willx_0)]) (mjEnvC mjC_willx_27 (mjEnvC mjC_willx_29 (mjEnvC mjC_willx_8 (mjEnvC mjC_willx_0 (fun e he => (by cases he)))))) (pr := [1, 2]) (cuts := []) (n := 38) (by decide +kernel)
def mjWd_hourx : MjWd := [(18, 1, (0, 0, 1)), (18, 2, (0, 0, 1)), (24, 6, (0, -2147483648, 2147483647)), (24, 7, (0, 0, 999)), (25, 255, (0, 0, 99)), (209, 3, (6, 0, 0)), (209, 7, (0, -2147483648, 2147483647)), (209, 8, (0, 0, 3)), (209, 9, (0, -2147483648, 2147483647)), (214, 255, (0, -2147483648, 2147483647)), (216, 255, (0, -2147483648, 2147483647)), (217, 255, (0, 0, 2147483647))]
theorem mjWd_hourx_ok : mjWdB mjWd_hourx = true := by decide +kernel
def mjSm_hourx_0 : MjSm := ([(3, 18, 18, 0, 0)], [(18, 1, (0, 0, 0, 0, 0))], [((3, 20, 20, 0, 0), [], [])], [], 1)
set_option maxRecDepth 100000 in
theorem mjC_hourx_0 : mjCtr (mjSW mjWd_hourx) 70 mjSm_hourx_0 := aiOk_ctr mjUW_ok (env := []) (fun e he => (by cases he)) (pr := []) (cuts := []) (n := 9) (by decide +kernel)
def mjSm_hourx_1 : MjSm := ([(3, 24, 24, 0, 0), (3, 20, 20, 0, 0)], [], [((7, 0, 0, 0, 0), [], [])], [(25, 3), (25, 4), (25, 5), (25, 6), (25, 7), (26, 255), (27, 255), (28, 255)], 1)
set_option maxRecDepth 100000 in
theorem mjC_hourx_1 : mjCtr (mjSW mjWd_hourx) 64 mjSm_hourx_1 := aiOk_ctr mjUW_ok (env := []) (fun e he => (by cases he)) (pr := []) (cuts := []) (n := 48) (by decide +kernel)
def mjSm_hourx_2 : MjSm := ([(3, 18, 18, 0, 0)], [(18, 1, (0, 0, 0, 0, 0)), (18, 2, (0, 0, 0, 0, 0))], [((3, 24, 24, 0, 0), [], [(18, 1, (0, 1, 1, 0, 0)), (18, 2, (0, 1, 1, 0, 0))])], [(19, 1), (19, 2), (19, 3), (25, 3), (25, 4), (25, 5), (25, 6), (25, 7), (26, 255), (27, 255), (28, 255)], 2)
set_option maxRecDepth 100000 in
theorem mjC_hourx_2 : mjCtr (mjSW mjWd_hourx) 87 mjSm_hourx_2 := aiOk_ctr mjUW_ok (env := [(64, mjSm_hourx_1)]) (mjEnvC mjC_hourx_1 (fun e he => (by cases he))) (pr := []) (cuts := []) (n := 43) (by decide +kernel)
def mjSm_hourx_3 : MjSm := ([(3, 216, 216, 0, 0), (0, 0, 0, 0, 0)], [], [((7, 0, 0, 0, 0), [], [])], [(217, 255)], 1)
set_option maxRecDepth 100000 in
theorem mjC_hourx_3 : mjCtr (mjSW mjWd_hourx) 6 mjSm_hourx_3 := aiOk_ctr mjUW_ok (env := []) (fun e he => (by cases he)) (pr := []) (cuts := [(5, ([(3, 216, 216, 0, 0), (0, 0, 0, 0, 0), (0, 0, 6, 0, 0), (0, 6, 6, 0, 0)], [], []), [(0, 0, 49995), (1, 2, 2147483647), (0, 0, 60000), (0, 0, 0), (0, 0, 0), (0, 0, 0), (0, 0, 0), (0, 0, 0)])]) (n := 12) (by decide +kernel)
def mjSm_hourx_4 : MjSm := ([(3, 217, 217, 0, 0), (0, 0, 0, 0, 0)], [], [((7, 0, 0, 0, 0), [], [])], [(218, 255)], 1)
set_option maxRecDepth 100000 in
theorem mjC_hourx_4 : mjCtr (mjSW mjWd_hourx) 6 mjSm_hourx_4 := aiOk_ctr mjUW_ok (env := []) (fun e he => (by cases he)) (pr := []) (cuts := [(5, ([(3, 217, 217, 0, 0), (0, 0, 0, 0, 0), (0, 0, 6, 0, 0), (0, 6, 6, 0, 0)], [], []), [(0, 0, 49995), (1, 2, 2147483647), (0, 0, 60000), (0, 0, 0), (0, 0, 0), (0, 0, 0), (0, 0, 0), (0, 0, 0)])]) (n := 12) (by decide +kernel)
def mjSm_hourx_5 : MjSm := ([(3, 215, 215, 0, 0), (0, 0, 0, 0, 0)], [], [((7, 0, 0, 0, 0), [], [])], [(216, 255)], 1)
set_option maxRecDepth 100000 in
theorem mjC_hourx_5 : mjCtr (mjSW mjWd_hourx) 6 mjSm_hourx_5 := aiOk_ctr mjUW_ok (env := []) (fun e he => (by cases he)) (pr := []) (cuts := [(5, ([(3, 215, 215, 0, 0), (0, 0, 0, 0, 0), (0, 0, 6, 0, 0), (0, 6, 6, 0, 0)], [], []), [(0, 0, 49995), (1, 2, 2147483647), (0, 0, 60000), (0, 0, 0), (0, 0, 0), (0, 0, 0), (0, 0, 0), (0, 0, 0)])]) (n := 12) (by decide +kernel)
def mjSm_hourx_6 : MjSm := ([(3, 193, 193, 0, 0), (3, 24, 24, 0, 0), (0, -2147483648, 2147483647, 0, 0)], [], [((0, 0, 0, 0, 0), [], [])], [], 1)
set_option maxRecDepth 100000 in
theorem mjC_hourx_6 : mjCtr (mjSW mjWd_hourx) 75 mjSm_hourx_6 := aiOk_ctr mjUW_ok (env := []) (fun e he => (by cases he)) (pr := []) (cuts := [(5, ([(3, 193, 193, 0, 0), (3, 24, 24, 0, 0), (0, -2147483648, 2147483647, 0, 0), (0, 0, 0, 0, 0), (0, 0, 0, 0, 0), (9, 0, 0, 0, 0)], [], []), [(0, 0, 49995), (1, 4, 2147483647), (0, 0, 60000), (0, 0, 0), (0, 0, 0), (0, 0, 0), (0, 0, 0), (0, 0, 0)])]) (n := 9) (by decide +kernel)
def mjSm_hourx_7 : MjSm := ([(3, 209, 209, 0, 0)], [(209, 3, (3, 24, 24, 0, 0))], [((7, 0, 0, 0, 0), [], [])], [(216, 255)], 2)
set_option maxRecDepth 100000 in
theorem mjC_hourx_7 : mjCtr (mjSW mjWd_hourx) 74 mjSm_hourx_7 := aiOk_ctr mjUW_ok (env := [(6, mjSm_hourx_5), (75, mjSm_hourx_6)]) (mjEnvC mjC_hourx_5 (mjEnvC mjC_hourx_6 (fun e he => (by cases he)))) (pr := []) (cuts := [(32, ([(3, 209, 209, 0, 0), (0, 0, 0, 0, 0), (0, 0, 0, 0, 0)], [], [(209, 3, (3, 24, 24, 0, 0))]), [(0, 0, 49968), (1, 2, 2147483647), (0, 0, 60000), (0, 0, 0), (0, 0, 0), (0, 0, 0), (0, 0, 0), (0, 0, 0)])]) (n := 20) (by decide +kernel)
def mjSm_hourx_8 : MjSm := ([(3, 209, 209, 0, 0), (3, 193, 193, 0, 0), (3, 24, 24, 0, 0)], [(209, 3, (3, 210, 210, 0, 0))], [((7, 0, 0, 0, 0), [], [(209, 3, (3, 24, 24, 0, 0))])], [(210, 2), (210, 3), (210, 7), (216, 255), (217, 255), (218, 255)], 3)
set_option maxRecDepth 100000 in
theorem mjC_hourx_8 : mjCtr (mjSW mjWd_hourx) 73 mjSm_hourx_8 := aiOk_ctr mjUW_ok (env := [(74, mjSm_hourx_7), (6, mjSm_hourx_4), (6, mjSm_hourx_3)]) (mjEnvC mjC_hourx_7 (mjEnvC mjC_hourx_4 (mjEnvC mjC_hourx_3 (fun e he => (by cases he))))) (pr := []) (cuts := []) (n := 23) (by decide +kernel)
def mjSm_hourx_9 : MjSm := ([(0, 0, 3, 0, 0), (0, 0, 2, 0, 0)], [], [((0, 0, 17, 0, 0), [], [])], [], 1)
set_option maxRecDepth 100000 in
theorem mjC_hourx_9 : mjCtr (mjSW mjWd_hourx) 48 mjSm_hourx_9 := aiOk_ctr mjUW_ok (env := []) (fun e he => (by cases he)) (pr := []) (cuts := []) (n := 9) (by decide +kernel)
def mjSm_hourx_10 : MjSm := ([(3, 209, 209, 0, 0), (0, 0, 17, 0, 0), (0, 1, 1, 0, 0)], [(209, 3, (3, 24, 24, 0, 0))], [((7, 0, 0, 0, 0), [], [])], [(26, 255)], 1)
set_option maxRecDepth 100000 in
theorem mjC_hourx_10 : mjCtr (mjSW mjWd_hourx) 89 mjSm_hourx_10 := aiOk_ctr mjUW_ok (env := []) (fun e he => (by cases he)) (pr := []) (cuts := []) (n := 18) (by decide +kernel)
def mjSm_hourx_11 : MjSm := ([(3, 201, 201, 0, 0), (3, 214, 214, 0, 0)], [], [((0, -2147483648, 2147483647, 0, 0), [], [])], [], 1)
set_option maxRecDepth 100000 in
theorem mjC_hourx_11 : mjCtr (mjSW mjWd_hourx) 77 mjSm_hourx_11 := aiOk_ctr mjUW_ok (env := []) (fun e he => (by cases he)) (pr := []) (cuts := []) (n := 20) (by decide +kernel)
def mjSm_hourx_12 : MjSm := ([(3, 193, 193, 0, 0), (0, 0, 3, 0, 0)], [], [((0, 1, 1, 0, 0), [], [])], [], 1)
set_option maxRecDepth 100000 in
theorem mjC_hourx_12 : mjCtr (mjSW mjWd_hourx) 69 mjSm_hourx_12 := aiOk_ctr mjUW_ok (env := []) (fun e he => (by cases he)) (pr := []) (cuts := []) (n := 15) (by decide +kernel)
def mjSm_hourx_13 : MjSm := ([(0, 0, 3, 0, 0), (0, 1, 2, 0, 0)], [], [((0, 1, 17, 0, 0), [], [])], [], 1)
set_option maxRecDepth 100000 in
theorem mjC_hourx_13 : mjCtr (mjSW mjWd_hourx) 48 mjSm_hourx_13 := aiOk_ctr mjUW_ok (env := []) (fun e he => (by cases he)) (pr := []) (cuts := []) (n := 9) (by decide +kernel)
def mjSm_hourx_14 : MjSm := ([(3, 209, 209, 0, 0), (0, 1, 17, 0, 0), (0, 1, 1, 0, 0)], [(209, 3, (3, 24, 24, 0, 0))], [((7, 0, 0, 0, 0), [], [])], [(26, 255), (210, 9)], 1)
set_option maxRecDepth 100000 in
theorem mjC_hourx_14 : mjCtr (mjSW mjWd_hourx) 92 mjSm_hourx_14 := aiOk_ctr mjUW_ok (env := []) (fun e he => (by cases he)) (pr := []) (cuts := []) (n := 22) (by decide +kernel)
def mjSm_hourx_15 : MjSm := ([(0, 0, 3, 0, 0), (0, 0, 1, 0, 0)], [], [((0, 0, 16, 0, 0), [], [])], [], 1)
set_option maxRecDepth 100000 in
theorem mjC_hourx_15 : mjCtr (mjSW mjWd_hourx) 48 mjSm_hourx_15 := aiOk_ctr mjUW_ok (env := []) (fun e he => (by cases he)) (pr := []) (cuts := []) (n := 9) (by decide +kernel)
def mjSm_hourx_16 : MjSm := ([(3, 209, 209, 0, 0), (0, 0, 16, 0, 0), (0, 1, 1, 0, 0)], [(209, 3, (3, 24, 24, 0, 0))], [((7, 0, 0, 0, 0), [], [])], [(26, 255), (210, 9)], 1)
set_option maxRecDepth 100000 in
theorem mjC_hourx_16 : mjCtr (mjSW mjWd_hourx) 92 mjSm_hourx_16 := aiOk_ctr mjUW_ok (env := []) (fun e he => (by cases he)) (pr := []) (cuts := []) (n := 22) (by decide +kernel)
def mjSm_hourx_17 : MjSm := ([(3, 209, 209, 0, 0), (0, 0, 3, 0, 0), (0, 0, 1, 0, 0), (0, 1, 1, 0, 0)], [(209, 3, (3, 24, 24, 0, 0))], [((7, 0, 0, 0, 0), [], [])], [(26, 255), (210, 8), (210, 9)], 2)
set_option maxRecDepth 100000 in
theorem mjC_hourx_17 : mjCtr (mjSW mjWd_hourx) 91 mjSm_hourx_17 := aiOk_ctr mjUW_ok (env := [(92, mjSm_hourx_14), (92, mjSm_hourx_16), (69, mjSm_hourx_12), (48, mjSm_hourx_15), (48, mjSm_hourx_13)]) (mjEnvC mjC_hourx_14 (mjEnvC mjC_hourx_16 (mjEnvC mjC_hourx_12 (mjEnvC mjC_hourx_15 (mjEnvC mjC_hourx_13 (fun e he => (by cases he))))))) (pr := []) (cuts := [(25, ([(3, 209, 209, 0, 0), (0, 0, 3, 0, 0), (0, 0, 1, 0, 0), (0, 1, 1, 0, 0), (0, 1, 3, 0, 0), (9, 0, 0, 0, 0)], [], [(209, 3, (3, 24, 24, 0, 0))]), [(0, 0, 49975), (1, 4, 2147483647), (0, 0, 60000), (0, 0, 0), (0, 0, 0), (0, 0, 0), (0, 0, 0), (0, 0, 0)])]) (n := 43) (by decide +kernel)
def mjSm_hourx_18 : MjSm := ([(3, 209, 209, 0, 0), (0, 0, 3, 0, 0), (0, 0, 1, 0, 0)], [(209, 3, (3, 24, 24, 0, 0))], [((7, 0, 0, 0, 0), [], [])], [(26, 255), (210, 7), (210, 8), (210, 9), (217, 255), (218, 255)], 3)
set_option maxRecDepth 100000 in
theorem mjC_hourx_18 : mjCtr (mjSW mjWd_hourx) 90 mjSm_hourx_18 := aiOk_ctr mjUW_ok (env := [(91, mjSm_hourx_17)]) (mjEnvC mjC_hourx_17 (fun e he => (by cases he))) (pr := []) (cuts := [(78, ([(3, 209, 209, 0, 0), (0, 0, 3, 0, 0), (0, 0, 1, 0, 0), (0, 0, 0, 0, 0), (0, 0, 0, 0, 0)], [], [(209, 3, (3, 24, 24, 0, 0))]), [(0, 0, 49922), (1, 4, 2147483647), (0, 0, 60000), (0, 0, 0), (0, 0, 0), (0, 0, 0), (0, 0, 0), (0, 0, 0)])]) (n := 47) (by decide +kernel)
def mjSm_hourx_19 : MjSm := ([(3, 209, 209, 0, 0), (0, 0, 3, 0, 0), (0, 0, 2, 0, 0), (0, 0, 0, 0, 0)], [(209, 3, (3, 24, 24, 0, 0))], [((0, 0, 0, 0, 0), [], []), ((0, 1, 1, 0, 0), [(2, 0, 1)], []), ((0, 0, 0, 0, 0), [(2, 0, 1)], []), ((0, 1, 1, 0, 0), [(2, 2, 2)], []), ((0, 0, 0, 0, 0), [(2, 2, 2)], [])], [(215, 255)], 2)
set_option maxRecDepth 100000 in
theorem mjC_hourx_19 : mjCtr (mjSW mjWd_hourx) 76 mjSm_hourx_19 := aiOk_ctr mjUW_ok (env := [(77, mjSm_hourx_11), (48, mjSm_hourx_9)]) (mjEnvC mjC_hourx_11 (mjEnvC mjC_hourx_9 (fun e he => (by cases he)))) (pr := [2]) (cuts := []) (n := 80) (by decide +kernel)
def mjSm_hourx_20 : MjSm := ([(0, 0, 3, 0, 0), (0, 2, 2, 0, 0)], [], [((0, 2, 17, 0, 0), [], [])], [], 1)
set_option maxRecDepth 100000 in
theorem mjC_hourx_20 : mjCtr (mjSW mjWd_hourx) 48 mjSm_hourx_20 := aiOk_ctr mjUW_ok (env := []) (fun e he => (by cases he)) (pr := []) (cuts := []) (n := 9) (by decide +kernel)
def mjSm_hourx_21 : MjSm := ([(3, 209, 209, 0, 0), (0, 2, 17, 0, 0), (0, 1, 1, 0, 0)], [(209, 3, (3, 24, 24, 0, 0))], [((7, 0, 0, 0, 0), [], [])], [(26, 255), (210, 9)], 1)
set_option maxRecDepth 100000 in
theorem mjC_hourx_21 : mjCtr (mjSW mjWd_hourx) 92 mjSm_hourx_21 := aiOk_ctr mjUW_ok (env := []) (fun e he => (by cases he)) (pr := []) (cuts := []) (n := 22) (by decide +kernel)
def mjSm_hourx_22 : MjSm := ([(3, 209, 209, 0, 0), (0, 0, 3, 0, 0), (0, 2, 2, 0, 0), (0, 1, 1, 0, 0)], [(209, 3, (3, 24, 24, 0, 0))], [((7, 0, 0, 0, 0), [], [])], [(26, 255), (210, 8), (210, 9)], 2)
set_option maxRecDepth 100000 in
theorem mjC_hourx_22 : mjCtr (mjSW mjWd_hourx) 91 mjSm_hourx_22 := aiOk_ctr mjUW_ok (env := [(92, mjSm_hourx_21), (48, mjSm_hourx_20)]) (mjEnvC mjC_hourx_21 (mjEnvC mjC_hourx_20 (fun e he => (by cases he)))) (pr := []) (cuts := [(25, ([(3, 209, 209, 0, 0), (0, 0, 3, 0, 0), (0, 2, 2, 0, 0), (0, 1, 1, 0, 0), (0, 3, 3, 0, 0), (9, 0, 0, 0, 0)], [], [(209, 3, (3, 24, 24, 0, 0))]), [(0, 0, 49975), (1, 4, 2147483647), (0, 0, 60000), (0, 0, 0), (0, 0, 0), (0, 0, 0), (0, 0, 0), (0, 0, 0)])]) (n := 19) (by decide +kernel)
def mjSm_hourx_23 : MjSm := ([(3, 209, 209, 0, 0), (0, 0, 3, 0, 0), (0, 2, 2, 0, 0)], [(209, 3, (3, 24, 24, 0, 0))], [((7, 0, 0, 0, 0), [], [])], [(26, 255), (210, 7), (210, 8), (210, 9), (217, 255), (218, 255)], 3)
set_option maxRecDepth 100000 in
theorem mjC_hourx_23 : mjCtr (mjSW mjWd_hourx) 90 mjSm_hourx_23 := aiOk_ctr mjUW_ok (env := [(91, mjSm_hourx_22)]) (mjEnvC mjC_hourx_22 (fun e he => (by cases he))) (pr := []) (cuts := [(78, ([(3, 209, 209, 0, 0), (0, 0, 3, 0, 0), (0, 2, 2, 0, 0), (0, 0, 0, 0, 0), (0, 0, 0, 0, 0)], [], [(209, 3, (3, 24, 24, 0, 0))]), [(0, 0, 49922), (1, 4, 2147483647), (0, 0, 60000), (0, 0, 0), (0, 0, 0), (0, 0, 0), (0, 0, 0), (0, 0, 0)])]) (n := 47) (by decide +kernel)
def mjSm_hourx_24 : MjSm := ([(3, 209, 209, 0, 0), (0, -1, -1, 0, 0)], [], [((0, 0, 0, 0, 0), [], [])], [], 1)
set_option maxRecDepth 100000 in
theorem mjC_hourx_24 : mjCtr (mjSW mjWd_hourx) 94 mjSm_hourx_24 := aiOk_ctr mjUW_ok (env := []) (fun e he => (by cases he)) (pr := []) (cuts := [(4, ([(3, 209, 209, 0, 0), (0, -1, -1, 0, 0), (0, 0, 0, 0, 0), (0, 0, 0, 0, 0)], [], []), [(0, 0, 49996), (1, 3, 2147483647), (0, 0, 60000), (0, 0, 0), (0, 0, 0), (0, 0, 0), (0, 0, 0), (0, 0, 0)])]) (n := 10) (by decide +kernel)
def mjSm_hourx_25 : MjSm := ([(3, 209, 209, 0, 0)], [(209, 3, (3, 24, 24, 0, 0))], [((0, 0, 0, 0, 0), [], [])], [], 2)
set_option maxRecDepth 100000 in
theorem mjC_hourx_25 : mjCtr (mjSW mjWd_hourx) 93 mjSm_hourx_25 := aiOk_ctr mjUW_ok (env := [(94, mjSm_hourx_24)]) (mjEnvC mjC_hourx_24 (fun e he => (by cases he))) (pr := []) (cuts := []) (n := 11) (by decide +kernel)
def mjSm_hourx_26 : MjSm := ([(3, 209, 209, 0, 0), (0, 1, 1, 0, 0), (0, 1, 1, 0, 0)], [(209, 3, (3, 24, 24, 0, 0)), (209, 8, (0, 0, 0, 0, 0))], [((7, 0, 0, 0, 0), [], [])], [(25, 5), (25, 6), (25, 7), (26, 255), (210, 7), (210, 8), (210, 9), (215, 255), (216, 255), (217, 255), (218, 255)], 4)
set_option maxRecDepth 100000 in
theorem mjC_hourx_26 : mjCtr (mjSW mjWd_hourx) 88 mjSm_hourx_26 := aiOk_ctr mjUW_ok (env := [(74, mjSm_hourx_7), (93, mjSm_hourx_25), (90, mjSm_hourx_23), (90, mjSm_hourx_18), (76, mjSm_hourx_19), (89, mjSm_hourx_10), (48, mjSm_hourx_9)]) (mjEnvC mjC_hourx_7 (mjEnvC mjC_hourx_25 (mjEnvC mjC_hourx_23 (mjEnvC mjC_hourx_18 (mjEnvC mjC_hourx_19 (mjEnvC mjC_hourx_10 (mjEnvC mjC_hourx_9 (fun e he => (by cases he))))))))) (pr := []) (cuts := [(2, ([(3, 209, 209, 0, 0), (0, 1, 1, 0, 0), (0, 1, 1, 0, 0), (0, 0, 4, 0, 0), (9, 0, 0, 0, 0)], [], [(209, 3, (3, 24, 24, 0, 0)), (209, 8, (0, 0, 0, 0, 0))]), [(0, 0, 49998), (1, 3, 2147483647), (0, 0, 60000), (0, 0, 0), (0, 0, 0), (0, 0, 0), (0, 0, 0), (0, 0, 0)]), (16, ([(3, 209, 209, 0, 0), (0, 1, 1, 0, 0), (0, 1, 1, 0, 0), (0, 0, 3, 0, 0), (0, 0, 3, 0, 0)], [], [(209, 3, (3, 24, 24, 0, 0)), (209, 8, (0, 0, 0, 0, 0))]), [(0, 0, 49998), (1, 3, 2147483647), (0, 0, 49984), (1, 4, 2147483647), (0, 0, 60000), (0, 0, 0), (0, 0, 0), (0, 0, 0)]), (140, ([(3, 209, 209, 0, 0), (0, 1, 1, 0, 0), (0, 1, 1, 0, 0), (0, 0, 3, 0, 0), (9, 0, 0, 0, 0)], [], [(209, 3, (3, 24, 24, 0, 0))]), [(0, 0, 49860), (1, 3, 2147483647), (0, 0, 60000), (0, 0, 0), (0, 0, 0), (0, 0, 0), (0, 0, 0), (0, 0, 0)]), (154, ([(3, 209, 209, 0, 0), (0, 1, 1, 0, 0), (0, 1, 1, 0, 0), (0, 0, 2, 0, 0), (0, 0, 4, 0, 0)], [], [(209, 3, (3, 24, 24, 0, 0))]), [(0, 0, 49860), (1, 3, 2147483647), (0, 0, 49846), (1, 4, 2147483647), (0, 0, 60000), (0, 0, 0), (0, 0, 0), (0, 0, 0)])]) (n := 35) (by decide +kernel)
def mjSm_hourx_27 : MjSm := ([(3, 0, 0, 0, 0)], [(18, 1, (0, 0, 0, 0, 0)), (18, 2, (0, 0, 0, 0, 0)), (209, 3, (3, 210, 210, 0, 0)), (209, 8, (0, 0, 0, 0, 0))], [((0, 0, 0, 0, 0), [], [(18, 1, (0, 1, 1, 0, 0)), (18, 2, (0, 1, 1, 0, 0)), (209, 3, (3, 24, 24, 0, 0))])], [(19, 1), (19, 2), (19, 3), (25, 3), (25, 4), (25, 5), (25, 6), (25, 7), (26, 255), (27, 255), (28, 255), (210, 2), (210, 3), (210, 7), (210, 8), (210, 9), (215, 255), (216, 255), (217, 255), (218, 255)], 5)
set_option maxRecDepth 100000 in
theorem mjC_hourx_27 : mjCtr (mjSW mjWd_hourx) 86 mjSm_hourx_27 := aiOk_ctr mjUW_ok (env := [(87, mjSm_hourx_2), (88, mjSm_hourx_26), (73, mjSm_hourx_8), (70, mjSm_hourx_0)]) (mjEnvC mjC_hourx_2 (mjEnvC mjC_hourx_26 (mjEnvC mjC_hourx_8 (mjEnvC mjC_hourx_0 (fun e he => (by cases he)))))) (pr := []) (cuts := []) (n := 36) (by decide +kernel)
