/-! ===== the places and the instructions of methods by hand ===== -/
theorem c_m1 : ((-1) : Int32).toInt = (-1) := rfl
theorem c_0 : (0 : Int32).toInt = 0 := rfl
theorem c_1 : (1 : Int32).toInt = 1 := rfl
theorem c_2 : (2 : Int32).toInt = 2 := rfl
theorem c_30 : (30 : Int32).toInt = 30 := rfl
theorem c_40 : (40 : Int32).toInt = 40 := rfl
theorem c_70 : (70 : Int32).toInt = 70 := rfl
theorem c_97 : (97 : Int32).toInt = 97 := rfl
theorem c_122 : (122 : Int32).toInt = 122 := rfl
theorem c_126 : (126 : Int32).toInt = 126 := rfl
theorem c_270 : (270 : Int32).toInt = 270 := rfl
theorem c_1000 : (1000 : Int32).toInt = 1000 := rfl
theorem c_2800 : (2800 : Int32).toInt = 2800 := rfl
theorem c_100000 : (100000 : Int32).toInt = 100000 := rfl
theorem ro_0 : m4S.1 0 = 1 := by decide +kernel
theorem ro_185 : m4S.1 185 = 186 := by decide +kernel
theorem ro_214 : m4S.1 214 = 215 := by decide +kernel
theorem ro_240 : m4S.1 240 = 241 := by decide +kernel
theorem ro_243 : m4S.1 243 = 244 := by decide +kernel
theorem ro_244 : m4S.1 244 = 245 := by decide +kernel
theorem ro_265 : m4S.1 265 = 266 := by decide +kernel
theorem ro_266 : m4S.1 266 = 267 := by decide +kernel
theorem ro_269 : m4S.1 269 = 270 := by decide +kernel
theorem ro_270 : m4S.1 270 = 271 := by decide +kernel
theorem ro_273 : m4S.1 273 = 274 := by decide +kernel
theorem ro_274 : m4S.1 274 = 275 := by decide +kernel
theorem ro_277 : m4S.1 277 = 278 := by decide +kernel
theorem kd_1 : m4S.2.1 1 = 9 := by decide +kernel
theorem ln_1 : m4S.2.2.1 1 = 13 := by decide +kernel
theorem kd_11 : m4S.2.1 11 = 0 := by decide +kernel
theorem ln_11 : m4S.2.2.1 11 = 7 := by decide +kernel
theorem kd_12 : m4S.2.1 12 = 100 := by decide +kernel
theorem ln_12 : m4S.2.2.1 12 = 270 := by decide +kernel
theorem kd_13 : m4S.2.1 13 = 100 := by decide +kernel
theorem ln_13 : m4S.2.2.1 13 = 270 := by decide +kernel
theorem kd_14 : m4S.2.1 14 = 100 := by decide +kernel
theorem ln_14 : m4S.2.2.1 14 = 31 := by decide +kernel
theorem kd_186 : m4S.2.1 186 = 4 := by decide +kernel
theorem ln_186 : m4S.2.2.1 186 = 12 := by decide +kernel
theorem kd_215 : m4S.2.1 215 = 100 := by decide +kernel
theorem ln_215 : m4S.2.2.1 215 = 6 := by decide +kernel
theorem kd_241 : m4S.2.1 241 = 10 := by decide +kernel
theorem ln_241 : m4S.2.2.1 241 = 77 := by decide +kernel
theorem kd_244 : m4S.2.1 244 = 100 := by decide +kernel
theorem ln_244 : m4S.2.2.1 244 = 2 := by decide +kernel
theorem kd_245 : m4S.2.1 245 = 100 := by decide +kernel
theorem ln_245 : m4S.2.2.1 245 = 2 := by decide +kernel
theorem kd_266 : m4S.2.1 266 = 100 := by decide +kernel
theorem ln_266 : m4S.2.2.1 266 = 2 := by decide +kernel
theorem kd_267 : m4S.2.1 267 = 100 := by decide +kernel
theorem ln_267 : m4S.2.2.1 267 = 2 := by decide +kernel
theorem kd_270 : m4S.2.1 270 = 100 := by decide +kernel
theorem ln_270 : m4S.2.2.1 270 = 1120 := by decide +kernel
theorem kd_271 : m4S.2.1 271 = 100 := by decide +kernel
theorem ln_271 : m4S.2.2.1 271 = 1120 := by decide +kernel
theorem kd_274 : m4S.2.1 274 = 100 := by decide +kernel
theorem ln_274 : m4S.2.2.1 274 = 60 := by decide +kernel
theorem kd_275 : m4S.2.1 275 = 100 := by decide +kernel
theorem ln_275 : m4S.2.2.1 275 = 70 := by decide +kernel
theorem kd_278 : m4S.2.1 278 = 100 := by decide +kernel
theorem ln_278 : m4S.2.2.1 278 = 2870 := by decide +kernel
theorem ty_1_10 : m4S.2.2.2 1 10 = (3, ((185 : Nat) : Int), 185) := by decide +kernel
theorem ty_11_3 : m4S.2.2.2 11 3 = (0, 0, 270) := by decide +kernel
theorem ty_11_4 : m4S.2.2.2 11 4 = (0, 0, 1) := by decide +kernel
theorem ty_11_6 : m4S.2.2.2 11 6 = (0, 0, 1) := by decide +kernel
theorem ty_186_8 : m4S.2.2.2 186 8 = (0, 0, 100000) := by decide +kernel
theorem ty_241_11 : m4S.2.2.2 241 11 = (3, ((243 : Nat) : Int), 243) := by decide +kernel
theorem ty_241_12 : m4S.2.2.2 241 12 = (3, ((244 : Nat) : Int), 244) := by decide +kernel
theorem ty_241_33 : m4S.2.2.2 241 33 = (3, ((265 : Nat) : Int), 265) := by decide +kernel
theorem ty_241_34 : m4S.2.2.2 241 34 = (3, ((266 : Nat) : Int), 266) := by decide +kernel
theorem ty_241_37 : m4S.2.2.2 241 37 = (3, ((269 : Nat) : Int), 269) := by decide +kernel
theorem ty_241_38 : m4S.2.2.2 241 38 = (3, ((270 : Nat) : Int), 270) := by decide +kernel
theorem ty_241_41 : m4S.2.2.2 241 41 = (3, ((273 : Nat) : Int), 273) := by decide +kernel
theorem ty_241_42 : m4S.2.2.2 241 42 = (0, 0, 1) := by decide +kernel
theorem ty_241_52 : m4S.2.2.2 241 52 = (3, ((274 : Nat) : Int), 274) := by decide +kernel
theorem ty_241_59 : m4S.2.2.2 241 59 = (3, ((277 : Nat) : Int), 277) := by decide +kernel
theorem ty_241_60 : m4S.2.2.2 241 60 = (0, 0, 40) := by decide +kernel
theorem ty_241_61 : m4S.2.2.2 241 61 = (0, 0, 40) := by decide +kernel
theorem ty_241_74 : m4S.2.2.2 241 74 = (0, 0, 100000) := by decide +kernel
theorem ta_12 (j : Nat) : m4S.2.2.2 12 j = (0, (-2147483648), 2147483647) := (m4Un_ok 12 j (by decide +kernel)).trans (by decide +kernel)
theorem ar_12 {w : MjW} (hT : mjTyd m4S w) {a j : Nat} (h0 : m4S.1 a = 12) (hj : j < 270) : mjFld w a j = some (.int (m4X w a j)) ∧ (-2147483648) ≤ (m4X w a j).toInt ∧ (m4X w a j).toInt ≤ 2147483647 := m4_int hT h0 (by decide) ln_12 hj (ta_12 j)
theorem ta_13 (j : Nat) : m4S.2.2.2 13 j = (0, (-2147483648), 2147483647) := (m4Un_ok 13 j (by decide +kernel)).trans (by decide +kernel)
theorem ar_13 {w : MjW} (hT : mjTyd m4S w) {a j : Nat} (h0 : m4S.1 a = 13) (hj : j < 270) : mjFld w a j = some (.int (m4X w a j)) ∧ (-2147483648) ≤ (m4X w a j).toInt ∧ (m4X w a j).toInt ≤ 2147483647 := m4_int hT h0 (by decide) ln_13 hj (ta_13 j)
theorem ta_14 (j : Nat) : m4S.2.2.2 14 j = (0, (-2147483648), 2147483647) := (m4Un_ok 14 j (by decide +kernel)).trans (by decide +kernel)
theorem ar_14 {w : MjW} (hT : mjTyd m4S w) {a j : Nat} (h0 : m4S.1 a = 14) (hj : j < 31) : mjFld w a j = some (.int (m4X w a j)) ∧ (-2147483648) ≤ (m4X w a j).toInt ∧ (m4X w a j).toInt ≤ 2147483647 := m4_int hT h0 (by decide) ln_14 hj (ta_14 j)
theorem ta_215 (j : Nat) : m4S.2.2.2 215 j = (0, (-2147483648), 2147483647) := (m4Un_ok 215 j (by decide +kernel)).trans (by decide +kernel)
theorem ar_215 {w : MjW} (hT : mjTyd m4S w) {a j : Nat} (h0 : m4S.1 a = 215) (hj : j < 6) : mjFld w a j = some (.int (m4X w a j)) ∧ (-2147483648) ≤ (m4X w a j).toInt ∧ (m4X w a j).toInt ≤ 2147483647 := m4_int hT h0 (by decide) ln_215 hj (ta_215 j)
theorem ta_244 (j : Nat) : m4S.2.2.2 244 j = (0, 0, 6) := (m4Un_ok 244 j (by decide +kernel)).trans (by decide +kernel)
theorem ar_244 {w : MjW} (hT : mjTyd m4S w) {a j : Nat} (h0 : m4S.1 a = 244) (hj : j < 2) : mjFld w a j = some (.int (m4X w a j)) ∧ 0 ≤ (m4X w a j).toInt ∧ (m4X w a j).toInt ≤ 6 := m4_int hT h0 (by decide) ln_244 hj (ta_244 j)
theorem ta_245 (j : Nat) : m4S.2.2.2 245 j = (0, 0, 5) := (m4Un_ok 245 j (by decide +kernel)).trans (by decide +kernel)
theorem ar_245 {w : MjW} (hT : mjTyd m4S w) {a j : Nat} (h0 : m4S.1 a = 245) (hj : j < 2) : mjFld w a j = some (.int (m4X w a j)) ∧ 0 ≤ (m4X w a j).toInt ∧ (m4X w a j).toInt ≤ 5 := m4_int hT h0 (by decide) ln_245 hj (ta_245 j)
theorem ta_266 (j : Nat) : m4S.2.2.2 266 j = (0, 0, 1120) := (m4Un_ok 266 j (by decide +kernel)).trans (by decide +kernel)
theorem ar_266 {w : MjW} (hT : mjTyd m4S w) {a j : Nat} (h0 : m4S.1 a = 266) (hj : j < 2) : mjFld w a j = some (.int (m4X w a j)) ∧ 0 ≤ (m4X w a j).toInt ∧ (m4X w a j).toInt ≤ 1120 := m4_int hT h0 (by decide) ln_266 hj (ta_266 j)
theorem ta_267 (j : Nat) : m4S.2.2.2 267 j = (0, 0, 1120) := (m4Un_ok 267 j (by decide +kernel)).trans (by decide +kernel)
theorem ar_267 {w : MjW} (hT : mjTyd m4S w) {a j : Nat} (h0 : m4S.1 a = 267) (hj : j < 2) : mjFld w a j = some (.int (m4X w a j)) ∧ 0 ≤ (m4X w a j).toInt ∧ (m4X w a j).toInt ≤ 1120 := m4_int hT h0 (by decide) ln_267 hj (ta_267 j)
theorem ta_270 (j : Nat) : m4S.2.2.2 270 j = (0, (-2147483648), 2147483647) := (m4Un_ok 270 j (by decide +kernel)).trans (by decide +kernel)
theorem ar_270 {w : MjW} (hT : mjTyd m4S w) {a j : Nat} (h0 : m4S.1 a = 270) (hj : j < 1120) : mjFld w a j = some (.int (m4X w a j)) ∧ (-2147483648) ≤ (m4X w a j).toInt ∧ (m4X w a j).toInt ≤ 2147483647 := m4_int hT h0 (by decide) ln_270 hj (ta_270 j)
theorem ta_271 (j : Nat) : m4S.2.2.2 271 j = (0, (-2147483648), 2147483647) := (m4Un_ok 271 j (by decide +kernel)).trans (by decide +kernel)
theorem ar_271 {w : MjW} (hT : mjTyd m4S w) {a j : Nat} (h0 : m4S.1 a = 271) (hj : j < 1120) : mjFld w a j = some (.int (m4X w a j)) ∧ (-2147483648) ≤ (m4X w a j).toInt ∧ (m4X w a j).toInt ≤ 2147483647 := m4_int hT h0 (by decide) ln_271 hj (ta_271 j)
theorem ta_274 (j : Nat) : m4S.2.2.2 274 j = (0, (-2147483648), 2147483647) := (m4Un_ok 274 j (by decide +kernel)).trans (by decide +kernel)
theorem ar_274 {w : MjW} (hT : mjTyd m4S w) {a j : Nat} (h0 : m4S.1 a = 274) (hj : j < 60) : mjFld w a j = some (.int (m4X w a j)) ∧ (-2147483648) ≤ (m4X w a j).toInt ∧ (m4X w a j).toInt ≤ 2147483647 := m4_int hT h0 (by decide) ln_274 hj (ta_274 j)
theorem fi_185_8 {w : MjW} (hT : mjTyd m4S w) : mjFld w 185 8 = some (.int (m4X w 185 8)) ∧ 0 ≤ (m4X w 185 8).toInt ∧ (m4X w 185 8).toInt ≤ 100000 := m4_int hT ro_185 (by decide) ln_186 (by decide) ty_186_8
theorem fi_240_42 {w : MjW} (hT : mjTyd m4S w) : mjFld w 240 42 = some (.int (m4X w 240 42)) ∧ 0 ≤ (m4X w 240 42).toInt ∧ (m4X w 240 42).toInt ≤ 1 := m4_int hT ro_240 (by decide) ln_241 (by decide) ty_241_42
theorem fi_240_60 {w : MjW} (hT : mjTyd m4S w) : mjFld w 240 60 = some (.int (m4X w 240 60)) ∧ 0 ≤ (m4X w 240 60).toInt ∧ (m4X w 240 60).toInt ≤ 40 := m4_int hT ro_240 (by decide) ln_241 (by decide) ty_241_60
theorem fi_240_61 {w : MjW} (hT : mjTyd m4S w) : mjFld w 240 61 = some (.int (m4X w 240 61)) ∧ 0 ≤ (m4X w 240 61).toInt ∧ (m4X w 240 61).toInt ≤ 40 := m4_int hT ro_240 (by decide) ln_241 (by decide) ty_241_61
theorem fi_240_74 {w : MjW} (hT : mjTyd m4S w) : mjFld w 240 74 = some (.int (m4X w 240 74)) ∧ 0 ≤ (m4X w 240 74).toInt ∧ (m4X w 240 74).toInt ≤ 100000 := m4_int hT ro_240 (by decide) ln_241 (by decide) ty_241_74
theorem fr_0_10 {w : MjW} (hT : mjTyd m4S w) : mjFld w 0 10 = some (.ref 185) := m4_ref hT ro_0 (by decide) ln_1 (by decide) ty_1_10
theorem fr_240_11 {w : MjW} (hT : mjTyd m4S w) : mjFld w 240 11 = some (.ref 243) := m4_ref hT ro_240 (by decide) ln_241 (by decide) ty_241_11
theorem fr_240_12 {w : MjW} (hT : mjTyd m4S w) : mjFld w 240 12 = some (.ref 244) := m4_ref hT ro_240 (by decide) ln_241 (by decide) ty_241_12
theorem fr_240_33 {w : MjW} (hT : mjTyd m4S w) : mjFld w 240 33 = some (.ref 265) := m4_ref hT ro_240 (by decide) ln_241 (by decide) ty_241_33
theorem fr_240_34 {w : MjW} (hT : mjTyd m4S w) : mjFld w 240 34 = some (.ref 266) := m4_ref hT ro_240 (by decide) ln_241 (by decide) ty_241_34
theorem fr_240_37 {w : MjW} (hT : mjTyd m4S w) : mjFld w 240 37 = some (.ref 269) := m4_ref hT ro_240 (by decide) ln_241 (by decide) ty_241_37
theorem fr_240_38 {w : MjW} (hT : mjTyd m4S w) : mjFld w 240 38 = some (.ref 270) := m4_ref hT ro_240 (by decide) ln_241 (by decide) ty_241_38
theorem fr_240_41 {w : MjW} (hT : mjTyd m4S w) : mjFld w 240 41 = some (.ref 273) := m4_ref hT ro_240 (by decide) ln_241 (by decide) ty_241_41
theorem fr_240_52 {w : MjW} (hT : mjTyd m4S w) : mjFld w 240 52 = some (.ref 274) := m4_ref hT ro_240 (by decide) ln_241 (by decide) ty_241_52
theorem fr_240_59 {w : MjW} (hT : mjTyd m4S w) : mjFld w 240 59 = some (.ref 277) := m4_ref hT ro_240 (by decide) ln_241 (by decide) ty_241_59
theorem fj_11_3 {w : MjW} {a : Nat} (h0 : m4S.1 a = 11) (hT : mjTyd m4S w) : mjFld w a 3 = some (.int (m4X w a 3)) ∧ 0 ≤ (m4X w a 3).toInt ∧ (m4X w a 3).toInt ≤ 270 := m4_int hT h0 (by decide) ln_11 (by decide) ty_11_3
theorem fj_11_4 {w : MjW} {a : Nat} (h0 : m4S.1 a = 11) (hT : mjTyd m4S w) : mjFld w a 4 = some (.int (m4X w a 4)) ∧ 0 ≤ (m4X w a 4).toInt ∧ (m4X w a 4).toInt ≤ 1 := m4_int hT h0 (by decide) ln_11 (by decide) ty_11_4
theorem fj_11_6 {w : MjW} {a : Nat} (h0 : m4S.1 a = 11) (hT : mjTyd m4S w) : mjFld w a 6 = some (.int (m4X w a 6)) ∧ 0 ≤ (m4X w a 6).toInt ∧ (m4X w a 6).toInt ≤ 1 := m4_int hT h0 (by decide) ln_11 (by decide) ty_11_6
theorem M_58 : mjMt 58 = some mjM_58 := rfl
theorem M_77 : mjMt 77 = some mjM_77 := rfl
theorem M_162 : mjMt 162 = some mjM_162 := rfl
theorem M_183 : mjMt 183 = some mjM_183 := rfl
theorem M_220 : mjMt 220 = some mjM_220 := rfl
theorem M_221 : mjMt 221 = some mjM_221 := rfl
theorem M_222 : mjMt 222 = some mjM_222 := rfl
theorem M_230 : mjMt 230 = some mjM_230 := rfl
theorem M_231 : mjMt 231 = some mjM_231 := rfl
theorem M_246 : mjMt 246 = some mjM_246 := rfl
theorem M_262 : mjMt 262 = some mjM_262 := rfl
theorem M_263 : mjMt 263 = some mjM_263 := rfl
theorem M_264 : mjMt 264 = some mjM_264 := rfl
theorem M_297 : mjMt 297 = some mjM_297 := rfl
theorem M_300 : mjMt 300 = some mjM_300 := rfl
theorem M_301 : mjMt 301 = some mjM_301 := rfl
theorem M_302 : mjMt 302 = some mjM_302 := rfl
theorem M_303 : mjMt 303 = some mjM_303 := rfl
theorem M_305 : mjMt 305 = some mjM_305 := rfl
theorem q_58_0 : mjTb 58 0 = some (.aload_n 0, 1, 1, []) := by decide +kernel
theorem q_58_1 : mjTb 58 1 = some (.getfield 23, 3, 4, [0, 3, 170]) := by decide +kernel
theorem q_58_4 : mjTb 58 4 = some (.sipush 270, 3, 5, []) := by decide +kernel
theorem q_58_7 : mjTb 58 7 = some (.if_icmp .ge 33, 3, 3, [40]) := by decide +kernel
theorem q_58_10 : mjTb 58 10 = some (.aload_n 0, 1, 1, []) := by decide +kernel
theorem q_58_11 : mjTb 58 11 = some (.getfield 9, 3, 4, [0, 0, 167]) := by decide +kernel
theorem q_58_14 : mjTb 58 14 = some (.aload_n 0, 1, 1, []) := by decide +kernel
theorem q_58_15 : mjTb 58 15 = some (.getfield 23, 3, 4, [0, 3, 170]) := by decide +kernel
theorem q_58_18 : mjTb 58 18 = some (.iload_n 1, 1, 1, []) := by decide +kernel
theorem q_58_19 : mjTb 58 19 = some (.iastore, 1, 4, []) := by decide +kernel
theorem q_58_20 : mjTb 58 20 = some (.aload_n 0, 1, 1, []) := by decide +kernel
theorem q_58_21 : mjTb 58 21 = some (.getfield 13, 3, 4, [0, 1, 168]) := by decide +kernel
theorem q_58_24 : mjTb 58 24 = some (.aload_n 0, 1, 1, []) := by decide +kernel
theorem q_58_25 : mjTb 58 25 = some (.getfield 23, 3, 4, [0, 3, 170]) := by decide +kernel
theorem q_58_28 : mjTb 58 28 = some (.iload_n 2, 1, 1, []) := by decide +kernel
theorem q_58_29 : mjTb 58 29 = some (.iastore, 1, 4, []) := by decide +kernel
theorem q_58_30 : mjTb 58 30 = some (.aload_n 0, 1, 1, []) := by decide +kernel
theorem q_58_31 : mjTb 58 31 = some (.dup, 1, 0, []) := by decide +kernel
theorem q_58_32 : mjTb 58 32 = some (.getfield 23, 3, 4, [0, 3, 170]) := by decide +kernel
theorem q_58_35 : mjTb 58 35 = some (.iconst 1, 1, 0, []) := by decide +kernel
theorem q_58_36 : mjTb 58 36 = some (.iadd, 1, 0, []) := by decide +kernel
theorem q_58_37 : mjTb 58 37 = some (.putfield 23, 3, 4, [0, 3, 170]) := by decide +kernel
theorem q_58_40 : mjTb 58 40 = some (.aload_n 0, 1, 1, []) := by decide +kernel
theorem q_58_41 : mjTb 58 41 = some (.dup, 1, 0, []) := by decide +kernel
theorem q_58_42 : mjTb 58 42 = some (.getfield 30, 3, 4, [0, 6, 175]) := by decide +kernel
theorem q_58_45 : mjTb 58 45 = some (.iload_n 1, 1, 1, []) := by decide +kernel
theorem q_58_46 : mjTb 58 46 = some (.iconst 1, 1, 0, []) := by decide +kernel
theorem q_58_47 : mjTb 58 47 = some (.if_icmp .ne 12, 3, 3, [59]) := by decide +kernel
theorem q_58_50 : mjTb 58 50 = some (.iload_n 2, 1, 1, []) := by decide +kernel
theorem q_58_51 : mjTb 58 51 = some (.iconst 2, 1, 0, []) := by decide +kernel
theorem q_58_52 : mjTb 58 52 = some (.if_icmp .ne 7, 3, 3, [59]) := by decide +kernel
theorem q_58_55 : mjTb 58 55 = some (.iconst 1, 1, 0, []) := by decide +kernel
theorem q_58_56 : mjTb 58 56 = some (.goto 4, 3, 3, [60]) := by decide +kernel
theorem q_58_59 : mjTb 58 59 = some (.iconst 0, 1, 0, []) := by decide +kernel
theorem q_58_60 : mjTb 58 60 = some (.ior, 1, 0, []) := by decide +kernel
theorem q_58_61 : mjTb 58 61 = some (.putfield 30, 3, 4, [0, 6, 175]) := by decide +kernel
theorem q_58_64 : mjTb 58 64 = some (.return_, 1, 8, []) := by decide +kernel
theorem q_77_0 : mjTb 77 0 = some (.aload_n 0, 1, 1, []) := by decide +kernel
theorem q_77_1 : mjTb 77 1 = some (.getfield 19, 3, 4, [0, 4, 171]) := by decide +kernel
theorem q_77_4 : mjTb 77 4 = some (.ifCond .eq 18, 3, 3, [22]) := by decide +kernel
theorem q_77_7 : mjTb 77 7 = some (.aload_n 1, 1, 1, []) := by decide +kernel
theorem q_77_8 : mjTb 77 8 = some (.iconst 0, 1, 0, []) := by decide +kernel
theorem q_77_9 : mjTb 77 9 = some (.iaload, 1, 4, []) := by decide +kernel
theorem q_77_10 : mjTb 77 10 = some (.aload_n 1, 1, 1, []) := by decide +kernel
theorem q_77_11 : mjTb 77 11 = some (.iconst 1, 1, 0, []) := by decide +kernel
theorem q_77_12 : mjTb 77 12 = some (.iaload, 1, 4, []) := by decide +kernel
theorem q_77_13 : mjTb 77 13 = some (.imul, 1, 0, []) := by decide +kernel
theorem q_77_14 : mjTb 77 14 = some (.aload_n 1, 1, 1, []) := by decide +kernel
theorem q_77_15 : mjTb 77 15 = some (.iconst 2, 1, 0, []) := by decide +kernel
theorem q_77_16 : mjTb 77 16 = some (.iaload, 1, 4, []) := by decide +kernel
theorem q_77_17 : mjTb 77 17 = some (.iadd, 1, 0, []) := by decide +kernel
theorem q_77_18 : mjTb 77 18 = some (.bipush 40, 2, 5, []) := by decide +kernel
theorem q_77_20 : mjTb 77 20 = some (.isub, 1, 0, []) := by decide +kernel
theorem q_77_21 : mjTb 77 21 = some (.ireturn, 1, 8, []) := by decide +kernel
theorem q_77_22 : mjTb 77 22 = some (.iconst 0, 1, 0, []) := by decide +kernel
theorem q_77_23 : mjTb 77 23 = some (.istore_n 2, 1, 2, []) := by decide +kernel
theorem q_77_24 : mjTb 77 24 = some (.iconst 0, 1, 0, []) := by decide +kernel
theorem q_77_25 : mjTb 77 25 = some (.istore_n 3, 1, 2, []) := by decide +kernel
theorem q_77_26 : mjTb 77 26 = some (.iload_n 3, 1, 1, []) := by decide +kernel
theorem q_77_27 : mjTb 77 27 = some (.aload_n 0, 1, 1, []) := by decide +kernel
theorem q_77_28 : mjTb 77 28 = some (.getfield 23, 3, 4, [0, 3, 170]) := by decide +kernel
theorem q_77_31 : mjTb 77 31 = some (.if_icmp .ge 140, 3, 3, [171]) := by decide +kernel
theorem q_77_34 : mjTb 77 34 = some (.aload_n 0, 1, 1, []) := by decide +kernel
theorem q_77_35 : mjTb 77 35 = some (.getfield 9, 3, 4, [0, 0, 167]) := by decide +kernel
theorem q_77_38 : mjTb 77 38 = some (.iload_n 3, 1, 1, []) := by decide +kernel
theorem q_77_39 : mjTb 77 39 = some (.iaload, 1, 4, []) := by decide +kernel
theorem q_77_40 : mjTb 77 40 = some (.istore 4, 2, 2, []) := by decide +kernel
theorem q_77_42 : mjTb 77 42 = some (.iload 4, 2, 1, []) := by decide +kernel
theorem q_77_44 : mjTb 77 44 = some (.ifCond .eq 9, 3, 3, [53]) := by decide +kernel
theorem q_77_47 : mjTb 77 47 = some (.iload 4, 2, 1, []) := by decide +kernel
theorem q_77_49 : mjTb 77 49 = some (.iconst 1, 1, 0, []) := by decide +kernel
theorem q_77_50 : mjTb 77 50 = some (.if_icmp .ne 43, 3, 3, [93]) := by decide +kernel
theorem q_77_53 : mjTb 77 53 = some (.iload_n 2, 1, 1, []) := by decide +kernel
theorem q_77_54 : mjTb 77 54 = some (.bipush 30, 2, 5, []) := by decide +kernel
theorem q_77_56 : mjTb 77 56 = some (.if_icmp .ge 109, 3, 3, [165]) := by decide +kernel
theorem q_77_59 : mjTb 77 59 = some (.aload_n 0, 1, 1, []) := by decide +kernel
theorem q_77_60 : mjTb 77 60 = some (.getfield 16, 3, 4, [0, 2, 169]) := by decide +kernel
theorem q_77_63 : mjTb 77 63 = some (.iload_n 2, 1, 1, []) := by decide +kernel
theorem q_77_64 : mjTb 77 64 = some (.iload 4, 2, 1, []) := by decide +kernel
theorem q_77_66 : mjTb 77 66 = some (.ifCond .ne 12, 3, 3, [78]) := by decide +kernel
theorem q_77_69 : mjTb 77 69 = some (.aload_n 0, 1, 1, []) := by decide +kernel
theorem q_77_70 : mjTb 77 70 = some (.getfield 13, 3, 4, [0, 1, 168]) := by decide +kernel
theorem q_77_73 : mjTb 77 73 = some (.iload_n 3, 1, 1, []) := by decide +kernel
theorem q_77_74 : mjTb 77 74 = some (.iaload, 1, 4, []) := by decide +kernel
theorem q_77_75 : mjTb 77 75 = some (.goto 11, 3, 3, [86]) := by decide +kernel
theorem q_77_78 : mjTb 77 78 = some (.aload_n 1, 1, 1, []) := by decide +kernel
theorem q_77_79 : mjTb 77 79 = some (.aload_n 0, 1, 1, []) := by decide +kernel
theorem q_77_80 : mjTb 77 80 = some (.getfield 13, 3, 4, [0, 1, 168]) := by decide +kernel
theorem q_77_83 : mjTb 77 83 = some (.iload_n 3, 1, 1, []) := by decide +kernel
theorem q_77_84 : mjTb 77 84 = some (.iaload, 1, 4, []) := by decide +kernel
theorem q_77_85 : mjTb 77 85 = some (.iaload, 1, 4, []) := by decide +kernel
theorem q_77_86 : mjTb 77 86 = some (.iastore, 1, 4, []) := by decide +kernel
theorem q_77_87 : mjTb 77 87 = some (.iinc 2 1, 3, 2, []) := by decide +kernel
theorem q_77_90 : mjTb 77 90 = some (.goto 75, 3, 3, [165]) := by decide +kernel
theorem q_77_93 : mjTb 77 93 = some (.iload 4, 2, 1, []) := by decide +kernel
theorem q_77_95 : mjTb 77 95 = some (.iconst 2, 1, 0, []) := by decide +kernel
theorem q_77_96 : mjTb 77 96 = some (.if_icmp .ne 34, 3, 3, [130]) := by decide +kernel
theorem q_77_99 : mjTb 77 99 = some (.iload_n 2, 1, 1, []) := by decide +kernel
theorem q_77_100 : mjTb 77 100 = some (.ifCond .le 30, 3, 3, [130]) := by decide +kernel
theorem q_77_103 : mjTb 77 103 = some (.aload_n 0, 1, 1, []) := by decide +kernel
theorem q_77_104 : mjTb 77 104 = some (.getfield 16, 3, 4, [0, 2, 169]) := by decide +kernel
theorem q_77_107 : mjTb 77 107 = some (.iload_n 2, 1, 1, []) := by decide +kernel
theorem q_77_108 : mjTb 77 108 = some (.iconst 1, 1, 0, []) := by decide +kernel
theorem q_77_109 : mjTb 77 109 = some (.isub, 1, 0, []) := by decide +kernel
theorem q_77_110 : mjTb 77 110 = some (.aload_n 0, 1, 1, []) := by decide +kernel
theorem q_77_111 : mjTb 77 111 = some (.getfield 16, 3, 4, [0, 2, 169]) := by decide +kernel
theorem q_77_114 : mjTb 77 114 = some (.iload_n 2, 1, 1, []) := by decide +kernel
theorem q_77_115 : mjTb 77 115 = some (.iconst 1, 1, 0, []) := by decide +kernel
theorem q_77_116 : mjTb 77 116 = some (.isub, 1, 0, []) := by decide +kernel
theorem q_77_117 : mjTb 77 117 = some (.iaload, 1, 4, []) := by decide +kernel
theorem q_77_118 : mjTb 77 118 = some (.ifCond .ne 7, 3, 3, [125]) := by decide +kernel
theorem q_77_121 : mjTb 77 121 = some (.iconst 1, 1, 0, []) := by decide +kernel
theorem q_77_122 : mjTb 77 122 = some (.goto 4, 3, 3, [126]) := by decide +kernel
theorem q_77_125 : mjTb 77 125 = some (.iconst 0, 1, 0, []) := by decide +kernel
theorem q_77_126 : mjTb 77 126 = some (.iastore, 1, 4, []) := by decide +kernel
theorem q_77_127 : mjTb 77 127 = some (.goto 38, 3, 3, [165]) := by decide +kernel
theorem q_77_130 : mjTb 77 130 = some (.iload_n 2, 1, 1, []) := by decide +kernel
theorem q_77_131 : mjTb 77 131 = some (.iconst 1, 1, 0, []) := by decide +kernel
theorem q_77_132 : mjTb 77 132 = some (.if_icmp .le 33, 3, 3, [165]) := by decide +kernel
theorem q_77_135 : mjTb 77 135 = some (.iinc 2 (-1), 3, 2, []) := by decide +kernel
theorem q_77_138 : mjTb 77 138 = some (.aload_n 0, 1, 1, []) := by decide +kernel
theorem q_77_139 : mjTb 77 139 = some (.getfield 16, 3, 4, [0, 2, 169]) := by decide +kernel
theorem q_77_142 : mjTb 77 142 = some (.iload_n 2, 1, 1, []) := by decide +kernel
theorem q_77_143 : mjTb 77 143 = some (.iconst 1, 1, 0, []) := by decide +kernel
theorem q_77_144 : mjTb 77 144 = some (.isub, 1, 0, []) := by decide +kernel
theorem q_77_145 : mjTb 77 145 = some (.iload 4, 2, 1, []) := by decide +kernel
theorem q_77_147 : mjTb 77 147 = some (.aload_n 0, 1, 1, []) := by decide +kernel
theorem q_77_148 : mjTb 77 148 = some (.getfield 16, 3, 4, [0, 2, 169]) := by decide +kernel
theorem q_77_151 : mjTb 77 151 = some (.iload_n 2, 1, 1, []) := by decide +kernel
theorem q_77_152 : mjTb 77 152 = some (.iconst 1, 1, 0, []) := by decide +kernel
theorem q_77_153 : mjTb 77 153 = some (.isub, 1, 0, []) := by decide +kernel
theorem q_77_154 : mjTb 77 154 = some (.iaload, 1, 4, []) := by decide +kernel
theorem q_77_155 : mjTb 77 155 = some (.aload_n 0, 1, 1, []) := by decide +kernel
theorem q_77_156 : mjTb 77 156 = some (.getfield 16, 3, 4, [0, 2, 169]) := by decide +kernel
theorem q_77_159 : mjTb 77 159 = some (.iload_n 2, 1, 1, []) := by decide +kernel
theorem q_77_160 : mjTb 77 160 = some (.iaload, 1, 4, []) := by decide +kernel
theorem q_77_161 : mjTb 77 161 = some (.invokestatic 36, 3, 6, [0, 78, 3, 0, 980, 981, 129]) := by decide +kernel
theorem q_77_164 : mjTb 77 164 = some (.iastore, 1, 4, []) := by decide +kernel
theorem q_77_165 : mjTb 77 165 = some (.iinc 3 1, 3, 2, []) := by decide +kernel
theorem q_77_168 : mjTb 77 168 = some (.goto (-142), 3, 3, [26]) := by decide +kernel
theorem q_77_171 : mjTb 77 171 = some (.aload_n 0, 1, 1, []) := by decide +kernel
theorem q_77_172 : mjTb 77 172 = some (.getfield 16, 3, 4, [0, 2, 169]) := by decide +kernel
theorem q_77_175 : mjTb 77 175 = some (.iconst 0, 1, 0, []) := by decide +kernel
theorem q_77_176 : mjTb 77 176 = some (.iaload, 1, 4, []) := by decide +kernel
theorem q_77_177 : mjTb 77 177 = some (.ireturn, 1, 8, []) := by decide +kernel
theorem q_162_0 : mjTb 162 0 = some (.iload_n 1, 1, 1, []) := by decide +kernel
theorem q_162_1 : mjTb 162 1 = some (.ifCond .lt 25, 3, 3, [26]) := by decide +kernel
theorem q_162_4 : mjTb 162 4 = some (.iload_n 1, 1, 1, []) := by decide +kernel
theorem q_162_5 : mjTb 162 5 = some (.sipush 1000, 3, 5, []) := by decide +kernel
theorem q_162_8 : mjTb 162 8 = some (.if_icmp .gt 18, 3, 3, [26]) := by decide +kernel
theorem q_162_11 : mjTb 162 11 = some (.aload_n 0, 1, 1, []) := by decide +kernel
theorem q_162_12 : mjTb 162 12 = some (.getfield 36, 3, 4, [9, 10, 681]) := by decide +kernel
theorem q_162_15 : mjTb 162 15 = some (.getfield 323, 3, 4, [4, 8, 415]) := by decide +kernel
theorem q_162_18 : mjTb 162 18 = some (.iload_n 1, 1, 1, []) := by decide +kernel
theorem q_162_19 : mjTb 162 19 = some (.iadd, 1, 0, []) := by decide +kernel
theorem q_162_20 : mjTb 162 20 = some (.ldc_w 326, 3, 5, [0, 100000, 1339]) := by decide +kernel
theorem q_162_23 : mjTb 162 23 = some (.if_icmp .le 5, 3, 3, [28]) := by decide +kernel
theorem q_162_26 : mjTb 162 26 = some (.iconst (-1), 1, 0, []) := by decide +kernel
theorem q_162_27 : mjTb 162 27 = some (.ireturn, 1, 8, []) := by decide +kernel
theorem q_162_28 : mjTb 162 28 = some (.aload_n 0, 1, 1, []) := by decide +kernel
theorem q_162_29 : mjTb 162 29 = some (.getfield 36, 3, 4, [9, 10, 681]) := by decide +kernel
theorem q_162_32 : mjTb 162 32 = some (.dup, 1, 0, []) := by decide +kernel
theorem q_162_33 : mjTb 162 33 = some (.getfield 323, 3, 4, [4, 8, 415]) := by decide +kernel
theorem q_162_36 : mjTb 162 36 = some (.iload_n 1, 1, 1, []) := by decide +kernel
theorem q_162_37 : mjTb 162 37 = some (.iadd, 1, 0, []) := by decide +kernel
theorem q_162_38 : mjTb 162 38 = some (.putfield 323, 3, 4, [4, 8, 415]) := by decide +kernel
theorem q_162_41 : mjTb 162 41 = some (.aload_n 0, 1, 1, []) := by decide +kernel
theorem q_162_42 : mjTb 162 42 = some (.getfield 36, 3, 4, [9, 10, 681]) := by decide +kernel
theorem q_162_45 : mjTb 162 45 = some (.getfield 323, 3, 4, [4, 8, 415]) := by decide +kernel
theorem q_162_48 : mjTb 162 48 = some (.ireturn, 1, 8, []) := by decide +kernel
theorem q_183_0 : mjTb 183 0 = some (.iload_n 0, 1, 1, []) := by decide +kernel
theorem q_183_1 : mjTb 183 1 = some (.bipush 97, 2, 5, []) := by decide +kernel
theorem q_183_3 : mjTb 183 3 = some (.if_icmp .lt 13, 3, 3, [16]) := by decide +kernel
theorem q_183_6 : mjTb 183 6 = some (.iload_n 0, 1, 1, []) := by decide +kernel
theorem q_183_7 : mjTb 183 7 = some (.bipush 122, 2, 5, []) := by decide +kernel
theorem q_183_9 : mjTb 183 9 = some (.if_icmp .gt 7, 3, 3, [16]) := by decide +kernel
theorem q_183_12 : mjTb 183 12 = some (.iconst 1, 1, 0, []) := by decide +kernel
theorem q_183_13 : mjTb 183 13 = some (.goto 4, 3, 3, [17]) := by decide +kernel
theorem q_183_16 : mjTb 183 16 = some (.iconst 0, 1, 0, []) := by decide +kernel
theorem q_183_17 : mjTb 183 17 = some (.ireturn, 1, 8, []) := by decide +kernel
theorem q_220_0 : mjTb 220 0 = some (.aload_n 0, 1, 1, []) := by decide +kernel
theorem q_220_1 : mjTb 220 1 = some (.getfield 20, 3, 4, [10, 11, 1426]) := by decide +kernel
theorem q_220_4 : mjTb 220 4 = some (.aload_n 0, 1, 1, []) := by decide +kernel
theorem q_220_5 : mjTb 220 5 = some (.getfield 309, 3, 4, [10, 42, 1457]) := by decide +kernel
theorem q_220_8 : mjTb 220 8 = some (.iaload, 1, 4, []) := by decide +kernel
theorem q_220_9 : mjTb 220 9 = some (.ireturn, 1, 8, []) := by decide +kernel
theorem q_221_0 : mjTb 221 0 = some (.iload_n 0, 1, 1, []) := by decide +kernel
theorem q_221_1 : mjTb 221 1 = some (.iload_n 1, 1, 1, []) := by decide +kernel
theorem q_221_2 : mjTb 221 2 = some (.if_icmp .lt 12, 3, 3, [14]) := by decide +kernel
theorem q_221_5 : mjTb 221 5 = some (.iload_n 0, 1, 1, []) := by decide +kernel
theorem q_221_6 : mjTb 221 6 = some (.iload_n 2, 1, 1, []) := by decide +kernel
theorem q_221_7 : mjTb 221 7 = some (.if_icmp .gt 7, 3, 3, [14]) := by decide +kernel
theorem q_221_10 : mjTb 221 10 = some (.iconst 1, 1, 0, []) := by decide +kernel
theorem q_221_11 : mjTb 221 11 = some (.goto 4, 3, 3, [15]) := by decide +kernel
theorem q_221_14 : mjTb 221 14 = some (.iconst 0, 1, 0, []) := by decide +kernel
theorem q_221_15 : mjTb 221 15 = some (.ireturn, 1, 8, []) := by decide +kernel
theorem q_222_0 : mjTb 222 0 = some (.aload_n 0, 1, 1, []) := by decide +kernel
theorem q_222_1 : mjTb 222 1 = some (.getfield 24, 3, 4, [10, 12, 1427]) := by decide +kernel
theorem q_222_4 : mjTb 222 4 = some (.aload_n 0, 1, 1, []) := by decide +kernel
theorem q_222_5 : mjTb 222 5 = some (.getfield 309, 3, 4, [10, 42, 1457]) := by decide +kernel
theorem q_222_8 : mjTb 222 8 = some (.iaload, 1, 4, []) := by decide +kernel
theorem q_222_9 : mjTb 222 9 = some (.ireturn, 1, 8, []) := by decide +kernel
theorem q_230_0 : mjTb 230 0 = some (.iconst 0, 1, 0, []) := by decide +kernel
theorem q_230_1 : mjTb 230 1 = some (.istore_n 1, 1, 2, []) := by decide +kernel
theorem q_230_2 : mjTb 230 2 = some (.aload_n 0, 1, 1, []) := by decide +kernel
theorem q_230_3 : mjTb 230 3 = some (.getfield 87, 3, 4, [10, 33, 1448]) := by decide +kernel
theorem q_230_6 : mjTb 230 6 = some (.aload_n 0, 1, 1, []) := by decide +kernel
theorem q_230_7 : mjTb 230 7 = some (.getfield 309, 3, 4, [10, 42, 1457]) := by decide +kernel
theorem q_230_10 : mjTb 230 10 = some (.iaload, 1, 4, []) := by decide +kernel
theorem q_230_11 : mjTb 230 11 = some (.istore_n 2, 1, 2, []) := by decide +kernel
theorem q_230_12 : mjTb 230 12 = some (.iload_n 2, 1, 1, []) := by decide +kernel
theorem q_230_13 : mjTb 230 13 = some (.aload_n 0, 1, 1, []) := by decide +kernel
theorem q_230_14 : mjTb 230 14 = some (.getfield 90, 3, 4, [10, 34, 1449]) := by decide +kernel
theorem q_230_17 : mjTb 230 17 = some (.aload_n 0, 1, 1, []) := by decide +kernel
theorem q_230_18 : mjTb 230 18 = some (.getfield 309, 3, 4, [10, 42, 1457]) := by decide +kernel
theorem q_230_21 : mjTb 230 21 = some (.iaload, 1, 4, []) := by decide +kernel
theorem q_230_22 : mjTb 230 22 = some (.if_icmp .ge 108, 3, 3, [130]) := by decide +kernel
theorem q_230_25 : mjTb 230 25 = some (.aload_n 0, 1, 1, []) := by decide +kernel
theorem q_230_26 : mjTb 230 26 = some (.getfield 100, 3, 4, [10, 37, 1452]) := by decide +kernel
theorem q_230_29 : mjTb 230 29 = some (.iload_n 2, 1, 1, []) := by decide +kernel
theorem q_230_30 : mjTb 230 30 = some (.iaload, 1, 4, []) := by decide +kernel
theorem q_230_31 : mjTb 230 31 = some (.istore_n 3, 1, 2, []) := by decide +kernel
theorem q_230_32 : mjTb 230 32 = some (.iload_n 3, 1, 1, []) := by decide +kernel
theorem q_230_33 : mjTb 230 33 = some (.bipush 126, 2, 5, []) := by decide +kernel
theorem q_230_35 : mjTb 230 35 = some (.if_icmp .ne 30, 3, 3, [65]) := by decide +kernel
theorem q_230_38 : mjTb 230 38 = some (.aload_n 0, 1, 1, []) := by decide +kernel
theorem q_230_39 : mjTb 230 39 = some (.getfield 112, 3, 4, [10, 41, 1456]) := by decide +kernel
theorem q_230_42 : mjTb 230 42 = some (.iload_n 1, 1, 1, []) := by decide +kernel
theorem q_230_43 : mjTb 230 43 = some (.iconst 1, 1, 0, []) := by decide +kernel
theorem q_230_44 : mjTb 230 44 = some (.isub, 1, 0, []) := by decide +kernel
theorem q_230_45 : mjTb 230 45 = some (.aload_n 0, 1, 1, []) := by decide +kernel
theorem q_230_46 : mjTb 230 46 = some (.getfield 112, 3, 4, [10, 41, 1456]) := by decide +kernel
theorem q_230_49 : mjTb 230 49 = some (.iload_n 1, 1, 1, []) := by decide +kernel
theorem q_230_50 : mjTb 230 50 = some (.iconst 1, 1, 0, []) := by decide +kernel
theorem q_230_51 : mjTb 230 51 = some (.isub, 1, 0, []) := by decide +kernel
theorem q_230_52 : mjTb 230 52 = some (.iaload, 1, 4, []) := by decide +kernel
theorem q_230_53 : mjTb 230 53 = some (.ifCond .ne 7, 3, 3, [60]) := by decide +kernel
theorem q_230_56 : mjTb 230 56 = some (.iconst 1, 1, 0, []) := by decide +kernel
theorem q_230_57 : mjTb 230 57 = some (.goto 4, 3, 3, [61]) := by decide +kernel
theorem q_230_60 : mjTb 230 60 = some (.iconst 0, 1, 0, []) := by decide +kernel
theorem q_230_61 : mjTb 230 61 = some (.iastore, 1, 4, []) := by decide +kernel
theorem q_230_62 : mjTb 230 62 = some (.goto 62, 3, 3, [124]) := by decide +kernel
theorem q_230_65 : mjTb 230 65 = some (.iload_n 3, 1, 1, []) := by decide +kernel
theorem q_230_66 : mjTb 230 66 = some (.invokestatic 246, 3, 6, [0, 183, 1, 0, 1659, 1660, 142]) := by decide +kernel
theorem q_230_69 : mjTb 230 69 = some (.ifCond .eq 26, 3, 3, [95]) := by decide +kernel
theorem q_230_72 : mjTb 230 72 = some (.aload_n 0, 1, 1, []) := by decide +kernel
theorem q_230_73 : mjTb 230 73 = some (.getfield 112, 3, 4, [10, 41, 1456]) := by decide +kernel
theorem q_230_76 : mjTb 230 76 = some (.iload_n 1, 1, 1, []) := by decide +kernel
theorem q_230_77 : mjTb 230 77 = some (.aload_n 0, 1, 1, []) := by decide +kernel
theorem q_230_78 : mjTb 230 78 = some (.iload_n 3, 1, 1, []) := by decide +kernel
theorem q_230_79 : mjTb 230 79 = some (.aload_n 0, 1, 1, []) := by decide +kernel
theorem q_230_80 : mjTb 230 80 = some (.getfield 103, 3, 4, [10, 38, 1453]) := by decide +kernel
theorem q_230_83 : mjTb 230 83 = some (.iload_n 2, 1, 1, []) := by decide +kernel
theorem q_230_84 : mjTb 230 84 = some (.iaload, 1, 4, []) := by decide +kernel
theorem q_230_85 : mjTb 230 85 = some (.invokevirtual 407, 3, 6, [0, 231, 2, 10, 1872, 1874, 97, 142]) := by decide +kernel
theorem q_230_88 : mjTb 230 88 = some (.iastore, 1, 4, []) := by decide +kernel
theorem q_230_89 : mjTb 230 89 = some (.iinc 1 1, 3, 2, []) := by decide +kernel
theorem q_230_92 : mjTb 230 92 = some (.goto 32, 3, 3, [124]) := by decide +kernel
theorem q_230_95 : mjTb 230 95 = some (.iinc 1 (-1), 3, 2, []) := by decide +kernel
theorem q_230_98 : mjTb 230 98 = some (.aload_n 0, 1, 1, []) := by decide +kernel
theorem q_230_99 : mjTb 230 99 = some (.getfield 112, 3, 4, [10, 41, 1456]) := by decide +kernel
theorem q_230_102 : mjTb 230 102 = some (.iload_n 1, 1, 1, []) := by decide +kernel
theorem q_230_103 : mjTb 230 103 = some (.iconst 1, 1, 0, []) := by decide +kernel
theorem q_230_104 : mjTb 230 104 = some (.isub, 1, 0, []) := by decide +kernel
theorem q_230_105 : mjTb 230 105 = some (.iload_n 3, 1, 1, []) := by decide +kernel
theorem q_230_106 : mjTb 230 106 = some (.aload_n 0, 1, 1, []) := by decide +kernel
theorem q_230_107 : mjTb 230 107 = some (.getfield 112, 3, 4, [10, 41, 1456]) := by decide +kernel
theorem q_230_110 : mjTb 230 110 = some (.iload_n 1, 1, 1, []) := by decide +kernel
theorem q_230_111 : mjTb 230 111 = some (.iconst 1, 1, 0, []) := by decide +kernel
theorem q_230_112 : mjTb 230 112 = some (.isub, 1, 0, []) := by decide +kernel
theorem q_230_113 : mjTb 230 113 = some (.iaload, 1, 4, []) := by decide +kernel
theorem q_230_114 : mjTb 230 114 = some (.aload_n 0, 1, 1, []) := by decide +kernel
theorem q_230_115 : mjTb 230 115 = some (.getfield 112, 3, 4, [10, 41, 1456]) := by decide +kernel
theorem q_230_118 : mjTb 230 118 = some (.iload_n 1, 1, 1, []) := by decide +kernel
theorem q_230_119 : mjTb 230 119 = some (.iaload, 1, 4, []) := by decide +kernel
theorem q_230_120 : mjTb 230 120 = some (.invokestatic 410, 3, 6, [0, 232, 3, 0, 1876, 1877, 142]) := by decide +kernel
theorem q_230_123 : mjTb 230 123 = some (.iastore, 1, 4, []) := by decide +kernel
theorem q_230_124 : mjTb 230 124 = some (.iinc 2 1, 3, 2, []) := by decide +kernel
theorem q_230_127 : mjTb 230 127 = some (.goto (-115), 3, 3, [12]) := by decide +kernel
theorem q_230_130 : mjTb 230 130 = some (.aload_n 0, 1, 1, []) := by decide +kernel
theorem q_230_131 : mjTb 230 131 = some (.getfield 112, 3, 4, [10, 41, 1456]) := by decide +kernel
theorem q_230_134 : mjTb 230 134 = some (.iconst 0, 1, 0, []) := by decide +kernel
theorem q_230_135 : mjTb 230 135 = some (.iaload, 1, 4, []) := by decide +kernel
theorem q_230_136 : mjTb 230 136 = some (.ireturn, 1, 8, []) := by decide +kernel
theorem q_231_0 : mjTb 231 0 = some (.iload_n 1, 1, 1, []) := by decide +kernel
theorem q_246_0 : mjTb 246 0 = some (.aload_n 0, 1, 1, []) := by decide +kernel
theorem q_246_1 : mjTb 246 1 = some (.getfield 429, 3, 4, [10, 60, 1475]) := by decide +kernel
theorem q_246_4 : mjTb 246 4 = some (.bipush 40, 2, 5, []) := by decide +kernel
theorem q_246_6 : mjTb 246 6 = some (.if_icmp .ne 43, 3, 3, [49]) := by decide +kernel
theorem q_246_9 : mjTb 246 9 = some (.iconst 0, 1, 0, []) := by decide +kernel
theorem q_246_10 : mjTb 246 10 = some (.istore_n 1, 1, 2, []) := by decide +kernel
theorem q_246_11 : mjTb 246 11 = some (.iload_n 1, 1, 1, []) := by decide +kernel
theorem q_246_12 : mjTb 246 12 = some (.sipush 2800, 3, 5, []) := by decide +kernel
theorem q_246_15 : mjTb 246 15 = some (.if_icmp .ge 24, 3, 3, [39]) := by decide +kernel
theorem q_246_18 : mjTb 246 18 = some (.aload_n 0, 1, 1, []) := by decide +kernel
theorem q_246_19 : mjTb 246 19 = some (.getfield 127, 3, 4, [10, 59, 1474]) := by decide +kernel
theorem q_246_22 : mjTb 246 22 = some (.iload_n 1, 1, 1, []) := by decide +kernel
theorem q_246_23 : mjTb 246 23 = some (.aload_n 0, 1, 1, []) := by decide +kernel
theorem q_246_24 : mjTb 246 24 = some (.getfield 127, 3, 4, [10, 59, 1474]) := by decide +kernel
theorem q_246_27 : mjTb 246 27 = some (.iload_n 1, 1, 1, []) := by decide +kernel
theorem q_246_28 : mjTb 246 28 = some (.bipush 70, 2, 5, []) := by decide +kernel
theorem q_246_30 : mjTb 246 30 = some (.iadd, 1, 0, []) := by decide +kernel
theorem q_246_31 : mjTb 246 31 = some (.iaload, 1, 4, []) := by decide +kernel
theorem q_246_32 : mjTb 246 32 = some (.iastore, 1, 4, []) := by decide +kernel
theorem q_246_33 : mjTb 246 33 = some (.iinc 1 1, 3, 2, []) := by decide +kernel
theorem q_246_36 : mjTb 246 36 = some (.goto (-25), 3, 3, [11]) := by decide +kernel
theorem q_246_39 : mjTb 246 39 = some (.aload_n 0, 1, 1, []) := by decide +kernel
theorem q_246_40 : mjTb 246 40 = some (.dup, 1, 0, []) := by decide +kernel
theorem q_246_41 : mjTb 246 41 = some (.getfield 429, 3, 4, [10, 60, 1475]) := by decide +kernel
theorem q_246_44 : mjTb 246 44 = some (.iconst 1, 1, 0, []) := by decide +kernel
theorem q_246_45 : mjTb 246 45 = some (.isub, 1, 0, []) := by decide +kernel
theorem q_246_46 : mjTb 246 46 = some (.putfield 429, 3, 4, [10, 60, 1475]) := by decide +kernel
theorem q_246_49 : mjTb 246 49 = some (.iconst 0, 1, 0, []) := by decide +kernel
theorem q_246_50 : mjTb 246 50 = some (.istore_n 1, 1, 2, []) := by decide +kernel
theorem q_246_51 : mjTb 246 51 = some (.iload_n 1, 1, 1, []) := by decide +kernel
theorem q_246_52 : mjTb 246 52 = some (.bipush 70, 2, 5, []) := by decide +kernel
theorem q_246_54 : mjTb 246 54 = some (.if_icmp .ge 29, 3, 3, [83]) := by decide +kernel
theorem q_246_57 : mjTb 246 57 = some (.aload_n 0, 1, 1, []) := by decide +kernel
theorem q_246_58 : mjTb 246 58 = some (.getfield 127, 3, 4, [10, 59, 1474]) := by decide +kernel
theorem q_246_61 : mjTb 246 61 = some (.bipush 70, 2, 5, []) := by decide +kernel
theorem q_246_63 : mjTb 246 63 = some (.aload_n 0, 1, 1, []) := by decide +kernel
theorem q_246_64 : mjTb 246 64 = some (.getfield 429, 3, 4, [10, 60, 1475]) := by decide +kernel
theorem q_246_67 : mjTb 246 67 = some (.imul, 1, 0, []) := by decide +kernel
theorem q_246_68 : mjTb 246 68 = some (.iload_n 1, 1, 1, []) := by decide +kernel
theorem q_246_69 : mjTb 246 69 = some (.iadd, 1, 0, []) := by decide +kernel
theorem q_246_70 : mjTb 246 70 = some (.aload_n 0, 1, 1, []) := by decide +kernel
theorem q_246_71 : mjTb 246 71 = some (.getfield 115, 3, 4, [10, 52, 1467]) := by decide +kernel
theorem q_246_74 : mjTb 246 74 = some (.iload_n 1, 1, 1, []) := by decide +kernel
theorem q_246_75 : mjTb 246 75 = some (.iaload, 1, 4, []) := by decide +kernel
theorem q_246_76 : mjTb 246 76 = some (.iastore, 1, 4, []) := by decide +kernel
theorem q_246_77 : mjTb 246 77 = some (.iinc 1 1, 3, 2, []) := by decide +kernel
theorem q_246_80 : mjTb 246 80 = some (.goto (-29), 3, 3, [51]) := by decide +kernel
theorem q_246_83 : mjTb 246 83 = some (.aload_n 0, 1, 1, []) := by decide +kernel
theorem q_246_84 : mjTb 246 84 = some (.dup, 1, 0, []) := by decide +kernel
theorem q_246_85 : mjTb 246 85 = some (.getfield 429, 3, 4, [10, 60, 1475]) := by decide +kernel
theorem q_246_88 : mjTb 246 88 = some (.iconst 1, 1, 0, []) := by decide +kernel
theorem q_246_89 : mjTb 246 89 = some (.iadd, 1, 0, []) := by decide +kernel
theorem q_246_90 : mjTb 246 90 = some (.putfield 429, 3, 4, [10, 60, 1475]) := by decide +kernel
theorem q_246_93 : mjTb 246 93 = some (.aload_n 0, 1, 1, []) := by decide +kernel
theorem q_246_94 : mjTb 246 94 = some (.iconst 0, 1, 0, []) := by decide +kernel
theorem q_246_95 : mjTb 246 95 = some (.putfield 432, 3, 4, [10, 61, 1476]) := by decide +kernel
theorem q_246_98 : mjTb 246 98 = some (.return_, 1, 8, []) := by decide +kernel
theorem q_262_0 : mjTb 262 0 = some (.aload_n 0, 1, 1, []) := by decide +kernel
theorem q_262_1 : mjTb 262 1 = some (.getfield 429, 3, 4, [10, 60, 1475]) := by decide +kernel
theorem q_262_4 : mjTb 262 4 = some (.ifCond .ne 5, 3, 3, [9]) := by decide +kernel
theorem q_262_7 : mjTb 262 7 = some (.iconst 0, 1, 0, []) := by decide +kernel
theorem q_262_8 : mjTb 262 8 = some (.ireturn, 1, 8, []) := by decide +kernel
theorem q_262_9 : mjTb 262 9 = some (.aload_n 0, 1, 1, []) := by decide +kernel
theorem q_262_10 : mjTb 262 10 = some (.dup, 1, 0, []) := by decide +kernel
theorem q_262_11 : mjTb 262 11 = some (.getfield 429, 3, 4, [10, 60, 1475]) := by decide +kernel
theorem q_262_14 : mjTb 262 14 = some (.iconst 1, 1, 0, []) := by decide +kernel
theorem q_262_15 : mjTb 262 15 = some (.isub, 1, 0, []) := by decide +kernel
theorem q_262_16 : mjTb 262 16 = some (.putfield 429, 3, 4, [10, 60, 1475]) := by decide +kernel
theorem q_262_19 : mjTb 262 19 = some (.aload_n 0, 1, 1, []) := by decide +kernel
theorem q_262_20 : mjTb 262 20 = some (.dup, 1, 0, []) := by decide +kernel
theorem q_262_21 : mjTb 262 21 = some (.getfield 432, 3, 4, [10, 61, 1476]) := by decide +kernel
theorem q_262_24 : mjTb 262 24 = some (.iconst 1, 1, 0, []) := by decide +kernel
theorem q_262_25 : mjTb 262 25 = some (.iadd, 1, 0, []) := by decide +kernel
theorem q_262_26 : mjTb 262 26 = some (.putfield 432, 3, 4, [10, 61, 1476]) := by decide +kernel
theorem q_262_29 : mjTb 262 29 = some (.aload_n 0, 1, 1, []) := by decide +kernel
theorem q_262_30 : mjTb 262 30 = some (.invokevirtual 519, 3, 6, [0, 263, 0, 10, 1997, 1999, 109, 142]) := by decide +kernel
theorem q_262_33 : mjTb 262 33 = some (.iconst 1, 1, 0, []) := by decide +kernel
theorem q_262_34 : mjTb 262 34 = some (.ireturn, 1, 8, []) := by decide +kernel
theorem q_263_0 : mjTb 263 0 = some (.iconst 0, 1, 0, []) := by decide +kernel
theorem q_263_1 : mjTb 263 1 = some (.istore_n 1, 1, 2, []) := by decide +kernel
theorem q_263_2 : mjTb 263 2 = some (.iload_n 1, 1, 1, []) := by decide +kernel
theorem q_263_3 : mjTb 263 3 = some (.bipush 70, 2, 5, []) := by decide +kernel
theorem q_263_5 : mjTb 263 5 = some (.if_icmp .ge 51, 3, 3, [56]) := by decide +kernel
theorem q_263_8 : mjTb 263 8 = some (.aload_n 0, 1, 1, []) := by decide +kernel
theorem q_263_9 : mjTb 263 9 = some (.getfield 127, 3, 4, [10, 59, 1474]) := by decide +kernel
theorem q_263_12 : mjTb 263 12 = some (.bipush 70, 2, 5, []) := by decide +kernel
theorem q_263_14 : mjTb 263 14 = some (.aload_n 0, 1, 1, []) := by decide +kernel
theorem q_263_15 : mjTb 263 15 = some (.getfield 429, 3, 4, [10, 60, 1475]) := by decide +kernel
theorem q_263_18 : mjTb 263 18 = some (.imul, 1, 0, []) := by decide +kernel
theorem q_263_19 : mjTb 263 19 = some (.iload_n 1, 1, 1, []) := by decide +kernel
theorem q_263_20 : mjTb 263 20 = some (.iadd, 1, 0, []) := by decide +kernel
theorem q_263_21 : mjTb 263 21 = some (.iaload, 1, 4, []) := by decide +kernel
theorem q_263_22 : mjTb 263 22 = some (.istore_n 2, 1, 2, []) := by decide +kernel
theorem q_263_23 : mjTb 263 23 = some (.aload_n 0, 1, 1, []) := by decide +kernel
theorem q_263_24 : mjTb 263 24 = some (.getfield 127, 3, 4, [10, 59, 1474]) := by decide +kernel
theorem q_263_27 : mjTb 263 27 = some (.bipush 70, 2, 5, []) := by decide +kernel
theorem q_263_29 : mjTb 263 29 = some (.aload_n 0, 1, 1, []) := by decide +kernel
theorem q_263_30 : mjTb 263 30 = some (.getfield 429, 3, 4, [10, 60, 1475]) := by decide +kernel
theorem q_263_33 : mjTb 263 33 = some (.imul, 1, 0, []) := by decide +kernel
theorem q_263_34 : mjTb 263 34 = some (.iload_n 1, 1, 1, []) := by decide +kernel
theorem q_263_35 : mjTb 263 35 = some (.iadd, 1, 0, []) := by decide +kernel
theorem q_263_36 : mjTb 263 36 = some (.aload_n 0, 1, 1, []) := by decide +kernel
theorem q_263_37 : mjTb 263 37 = some (.getfield 115, 3, 4, [10, 52, 1467]) := by decide +kernel
theorem q_263_40 : mjTb 263 40 = some (.iload_n 1, 1, 1, []) := by decide +kernel
theorem q_263_41 : mjTb 263 41 = some (.iaload, 1, 4, []) := by decide +kernel
theorem q_263_42 : mjTb 263 42 = some (.iastore, 1, 4, []) := by decide +kernel
theorem q_263_43 : mjTb 263 43 = some (.aload_n 0, 1, 1, []) := by decide +kernel
theorem q_263_44 : mjTb 263 44 = some (.getfield 115, 3, 4, [10, 52, 1467]) := by decide +kernel
theorem q_263_47 : mjTb 263 47 = some (.iload_n 1, 1, 1, []) := by decide +kernel
theorem q_263_48 : mjTb 263 48 = some (.iload_n 2, 1, 1, []) := by decide +kernel
theorem q_263_49 : mjTb 263 49 = some (.iastore, 1, 4, []) := by decide +kernel
theorem q_263_50 : mjTb 263 50 = some (.iinc 1 1, 3, 2, []) := by decide +kernel
theorem q_263_53 : mjTb 263 53 = some (.goto (-51), 3, 3, [2]) := by decide +kernel
theorem q_263_56 : mjTb 263 56 = some (.return_, 1, 8, []) := by decide +kernel
theorem q_264_0 : mjTb 264 0 = some (.aload_n 0, 1, 1, []) := by decide +kernel
theorem q_264_1 : mjTb 264 1 = some (.getfield 432, 3, 4, [10, 61, 1476]) := by decide +kernel
theorem q_264_4 : mjTb 264 4 = some (.ifCond .ne 5, 3, 3, [9]) := by decide +kernel
theorem q_264_7 : mjTb 264 7 = some (.iconst 0, 1, 0, []) := by decide +kernel
theorem q_264_8 : mjTb 264 8 = some (.ireturn, 1, 8, []) := by decide +kernel
theorem q_264_9 : mjTb 264 9 = some (.aload_n 0, 1, 1, []) := by decide +kernel
theorem q_264_10 : mjTb 264 10 = some (.invokevirtual 519, 3, 6, [0, 263, 0, 10, 1997, 1999, 109, 142]) := by decide +kernel
theorem q_264_13 : mjTb 264 13 = some (.aload_n 0, 1, 1, []) := by decide +kernel
theorem q_264_14 : mjTb 264 14 = some (.dup, 1, 0, []) := by decide +kernel
theorem q_264_15 : mjTb 264 15 = some (.getfield 429, 3, 4, [10, 60, 1475]) := by decide +kernel
theorem q_264_18 : mjTb 264 18 = some (.iconst 1, 1, 0, []) := by decide +kernel
theorem q_264_19 : mjTb 264 19 = some (.iadd, 1, 0, []) := by decide +kernel
theorem q_264_20 : mjTb 264 20 = some (.putfield 429, 3, 4, [10, 60, 1475]) := by decide +kernel
theorem q_264_23 : mjTb 264 23 = some (.aload_n 0, 1, 1, []) := by decide +kernel
theorem q_264_24 : mjTb 264 24 = some (.dup, 1, 0, []) := by decide +kernel
theorem q_264_25 : mjTb 264 25 = some (.getfield 432, 3, 4, [10, 61, 1476]) := by decide +kernel
theorem q_264_28 : mjTb 264 28 = some (.iconst 1, 1, 0, []) := by decide +kernel
theorem q_264_29 : mjTb 264 29 = some (.isub, 1, 0, []) := by decide +kernel
theorem q_264_30 : mjTb 264 30 = some (.putfield 432, 3, 4, [10, 61, 1476]) := by decide +kernel
theorem q_264_33 : mjTb 264 33 = some (.iconst 1, 1, 0, []) := by decide +kernel
theorem q_264_34 : mjTb 264 34 = some (.ireturn, 1, 8, []) := by decide +kernel
theorem q_297_0 : mjTb 297 0 = some (.iload_n 0, 1, 1, []) := by decide +kernel
theorem q_297_1 : mjTb 297 1 = some (.istore_n 2, 1, 2, []) := by decide +kernel
theorem q_297_2 : mjTb 297 2 = some (.iload_n 1, 1, 1, []) := by decide +kernel
theorem q_297_3 : mjTb 297 3 = some (.istore_n 3, 1, 2, []) := by decide +kernel
theorem q_297_4 : mjTb 297 4 = some (.iload_n 3, 1, 1, []) := by decide +kernel
theorem q_297_5 : mjTb 297 5 = some (.ifCond .le 16, 3, 3, [21]) := by decide +kernel
theorem q_297_8 : mjTb 297 8 = some (.iload_n 2, 1, 1, []) := by decide +kernel
theorem q_297_9 : mjTb 297 9 = some (.iload_n 3, 1, 1, []) := by decide +kernel
theorem q_297_10 : mjTb 297 10 = some (.irem, 1, 0, []) := by decide +kernel
theorem q_297_11 : mjTb 297 11 = some (.istore 4, 2, 2, []) := by decide +kernel
theorem q_297_13 : mjTb 297 13 = some (.iload_n 3, 1, 1, []) := by decide +kernel
theorem q_297_14 : mjTb 297 14 = some (.istore_n 2, 1, 2, []) := by decide +kernel
theorem q_297_15 : mjTb 297 15 = some (.iload 4, 2, 1, []) := by decide +kernel
theorem q_297_17 : mjTb 297 17 = some (.istore_n 3, 1, 2, []) := by decide +kernel
theorem q_297_18 : mjTb 297 18 = some (.goto (-14), 3, 3, [4]) := by decide +kernel
theorem q_297_21 : mjTb 297 21 = some (.iload_n 2, 1, 1, []) := by decide +kernel
theorem q_297_22 : mjTb 297 22 = some (.ireturn, 1, 8, []) := by decide +kernel
theorem q_300_0 : mjTb 300 0 = some (.iload_n 1, 1, 1, []) := by decide +kernel
theorem q_300_1 : mjTb 300 1 = some (.iconst 0, 1, 0, []) := by decide +kernel
theorem q_300_2 : mjTb 300 2 = some (.sipush 1000, 3, 5, []) := by decide +kernel
theorem q_300_5 : mjTb 300 5 = some (.invokestatic 416, 3, 6, [0, 221, 3, 0, 1833, 1834, 142]) := by decide +kernel
theorem q_300_8 : mjTb 300 8 = some (.ifCond .eq 15, 3, 3, [23]) := by decide +kernel
theorem q_300_11 : mjTb 300 11 = some (.aload_n 0, 1, 1, []) := by decide +kernel
theorem q_300_12 : mjTb 300 12 = some (.getfield 562, 3, 4, [10, 74, 1489]) := by decide +kernel
theorem q_300_15 : mjTb 300 15 = some (.iload_n 1, 1, 1, []) := by decide +kernel
theorem q_300_16 : mjTb 300 16 = some (.iadd, 1, 0, []) := by decide +kernel
theorem q_300_17 : mjTb 300 17 = some (.ldc_w 565, 3, 5, [0, 100000, 2148]) := by decide +kernel
theorem q_300_20 : mjTb 300 20 = some (.if_icmp .le 5, 3, 3, [25]) := by decide +kernel
theorem q_300_23 : mjTb 300 23 = some (.iconst (-1), 1, 0, []) := by decide +kernel
theorem q_300_24 : mjTb 300 24 = some (.ireturn, 1, 8, []) := by decide +kernel
theorem q_300_25 : mjTb 300 25 = some (.aload_n 0, 1, 1, []) := by decide +kernel
theorem q_300_26 : mjTb 300 26 = some (.dup, 1, 0, []) := by decide +kernel
theorem q_300_27 : mjTb 300 27 = some (.getfield 562, 3, 4, [10, 74, 1489]) := by decide +kernel
theorem q_300_30 : mjTb 300 30 = some (.iload_n 1, 1, 1, []) := by decide +kernel
theorem q_300_31 : mjTb 300 31 = some (.iadd, 1, 0, []) := by decide +kernel
theorem q_300_32 : mjTb 300 32 = some (.putfield 562, 3, 4, [10, 74, 1489]) := by decide +kernel
theorem q_300_35 : mjTb 300 35 = some (.aload_n 0, 1, 1, []) := by decide +kernel
theorem q_300_36 : mjTb 300 36 = some (.getfield 562, 3, 4, [10, 74, 1489]) := by decide +kernel
theorem q_300_39 : mjTb 300 39 = some (.ireturn, 1, 8, []) := by decide +kernel
theorem q_301_0 : mjTb 301 0 = some (.aload_n 0, 1, 1, []) := by decide +kernel
theorem q_301_1 : mjTb 301 1 = some (.invokevirtual 569, 3, 6, [0, 302, 0, 10, 2153, 2155, 122, 142]) := by decide +kernel
theorem q_301_4 : mjTb 301 4 = some (.iconst 0, 1, 0, []) := by decide +kernel
theorem q_301_5 : mjTb 301 5 = some (.istore_n 2, 1, 2, []) := by decide +kernel
theorem q_301_6 : mjTb 301 6 = some (.iconst 0, 1, 0, []) := by decide +kernel
theorem q_301_7 : mjTb 301 7 = some (.istore_n 3, 1, 2, []) := by decide +kernel
theorem q_301_8 : mjTb 301 8 = some (.iload_n 3, 1, 1, []) := by decide +kernel
theorem q_301_9 : mjTb 301 9 = some (.bipush 30, 2, 5, []) := by decide +kernel
theorem q_301_11 : mjTb 301 11 = some (.if_icmp .gt 26, 3, 3, [37]) := by decide +kernel
theorem q_301_14 : mjTb 301 14 = some (.iload_n 2, 1, 1, []) := by decide +kernel
theorem q_301_15 : mjTb 301 15 = some (.aload_n 0, 1, 1, []) := by decide +kernel
theorem q_301_16 : mjTb 301 16 = some (.iload_n 3, 1, 1, []) := by decide +kernel
theorem q_301_17 : mjTb 301 17 = some (.iload_n 1, 1, 1, []) := by decide +kernel
theorem q_301_18 : mjTb 301 18 = some (.invokevirtual 572, 3, 6, [0, 303, 2, 10, 2157, 2159, 123, 142]) := by decide +kernel
theorem q_301_21 : mjTb 301 21 = some (.ifCond .eq 7, 3, 3, [28]) := by decide +kernel
theorem q_301_24 : mjTb 301 24 = some (.iconst 1, 1, 0, []) := by decide +kernel
theorem q_301_25 : mjTb 301 25 = some (.goto 4, 3, 3, [29]) := by decide +kernel
theorem q_301_28 : mjTb 301 28 = some (.iconst 0, 1, 0, []) := by decide +kernel
theorem q_301_29 : mjTb 301 29 = some (.iadd, 1, 0, []) := by decide +kernel
theorem q_301_30 : mjTb 301 30 = some (.istore_n 2, 1, 2, []) := by decide +kernel
theorem q_301_31 : mjTb 301 31 = some (.iinc 3 1, 3, 2, []) := by decide +kernel
theorem q_301_34 : mjTb 301 34 = some (.goto (-26), 3, 3, [8]) := by decide +kernel
theorem q_301_37 : mjTb 301 37 = some (.iload_n 2, 1, 1, []) := by decide +kernel
theorem q_301_38 : mjTb 301 38 = some (.ireturn, 1, 8, []) := by decide +kernel
theorem q_302_0 : mjTb 302 0 = some (.aload_n 0, 1, 1, []) := by decide +kernel
theorem q_303_0 : mjTb 303 0 = some (.iconst 0, 1, 0, []) := by decide +kernel
theorem q_305_0 : mjTb 305 0 = some (.iload_n 1, 1, 1, []) := by decide +kernel
theorem q_305_1 : mjTb 305 1 = some (.iconst 0, 1, 0, []) := by decide +kernel
theorem q_305_2 : mjTb 305 2 = some (.iconst 1, 1, 0, []) := by decide +kernel
theorem q_305_3 : mjTb 305 3 = some (.invokestatic 416, 3, 6, [0, 221, 3, 0, 1833, 1834, 142]) := by decide +kernel
theorem q_305_6 : mjTb 305 6 = some (.ifCond .eq 11, 3, 3, [17]) := by decide +kernel
theorem q_305_9 : mjTb 305 9 = some (.aload_n 0, 1, 1, []) := by decide +kernel
theorem q_305_10 : mjTb 305 10 = some (.iload_n 2, 1, 1, []) := by decide +kernel
theorem q_305_11 : mjTb 305 11 = some (.invokevirtual 575, 3, 6, [0, 301, 1, 10, 2169, 2150, 2151, 142]) := by decide +kernel
theorem q_305_14 : mjTb 305 14 = some (.ifCond .ne 5, 3, 3, [19]) := by decide +kernel
theorem q_305_17 : mjTb 305 17 = some (.iconst (-1), 1, 0, []) := by decide +kernel
theorem q_305_18 : mjTb 305 18 = some (.ireturn, 1, 8, []) := by decide +kernel
theorem q_305_19 : mjTb 305 19 = some (.iload_n 1, 1, 1, []) := by decide +kernel
theorem q_305_20 : mjTb 305 20 = some (.ifCond .ne 7, 3, 3, [27]) := by decide +kernel
theorem q_305_23 : mjTb 305 23 = some (.iconst 0, 1, 0, []) := by decide +kernel
theorem q_305_24 : mjTb 305 24 = some (.goto 5, 3, 3, [29]) := by decide +kernel
theorem q_305_27 : mjTb 305 27 = some (.bipush 30, 2, 5, []) := by decide +kernel
theorem q_305_29 : mjTb 305 29 = some (.istore_n 3, 1, 2, []) := by decide +kernel
theorem q_305_30 : mjTb 305 30 = some (.aload_n 0, 1, 1, []) := by decide +kernel
theorem q_305_31 : mjTb 305 31 = some (.iload_n 3, 1, 1, []) := by decide +kernel
theorem q_305_32 : mjTb 305 32 = some (.iload_n 2, 1, 1, []) := by decide +kernel
theorem q_305_33 : mjTb 305 33 = some (.invokevirtual 572, 3, 6, [0, 303, 2, 10, 2157, 2159, 123, 142]) := by decide +kernel
theorem q_305_36 : mjTb 305 36 = some (.ifCond .ne 18, 3, 3, [54]) := by decide +kernel
theorem q_305_39 : mjTb 305 39 = some (.iload_n 3, 1, 1, []) := by decide +kernel
theorem q_305_40 : mjTb 305 40 = some (.iload_n 1, 1, 1, []) := by decide +kernel
theorem q_305_41 : mjTb 305 41 = some (.ifCond .ne 7, 3, 3, [48]) := by decide +kernel
theorem q_305_44 : mjTb 305 44 = some (.iconst 1, 1, 0, []) := by decide +kernel
theorem q_305_45 : mjTb 305 45 = some (.goto 4, 3, 3, [49]) := by decide +kernel
theorem q_305_48 : mjTb 305 48 = some (.iconst (-1), 1, 0, []) := by decide +kernel
theorem q_305_49 : mjTb 305 49 = some (.iadd, 1, 0, []) := by decide +kernel
theorem q_305_50 : mjTb 305 50 = some (.istore_n 3, 1, 2, []) := by decide +kernel
theorem q_305_51 : mjTb 305 51 = some (.goto (-21), 3, 3, [30]) := by decide +kernel
theorem q_305_54 : mjTb 305 54 = some (.iload_n 3, 1, 1, []) := by decide +kernel
theorem q_305_55 : mjTb 305 55 = some (.ireturn, 1, 8, []) := by decide +kernel
theorem h_rtI {x : Int32} {M : MjM} (h : M.2.2.2.1 = some .int := by rfl) : mjRt .ireturn M.2.2.2.1 [.int x] = some (some (.int x)) := by rw [h]; simp [mjRt, narrow]
theorem h_rtZ {x : Int32} {M : MjM} (h1 : 0 ≤ x.toInt := by omega) (h2 : x.toInt ≤ 1 := by omega) (h : M.2.2.2.1 = some .boolean := by rfl) : mjRt .ireturn M.2.2.2.1 [.int x] = some (some (.int x)) := by
  rw [h]
  have : x = 0 ∨ x = 1 := by
    have e : x.toInt = 0 ∨ x.toInt = 1 := by omega
    rcases e with e | e
    · exact Or.inl (Int32.toInt_inj.mp (by rw [e]; rfl))
    · exact Or.inr (Int32.toInt_inj.mp (by rw [e]; rfl))
  rcases this with rfl | rfl <;> rfl
theorem m4_was (j : Nat) : m4S.2.2.2 278 j = m4S.2.2.2 278 (j % 70) := mjTs_mod (ts := (m4D 277).2.2) (by decide +kernel)
theorem m4_all (j : Nat) : m4S.2.2.2 275 j = m4S.2.2.2 278 j := by
  show mjTs (m4D 274).2.2 j = mjTs (m4D 277).2.2 j
  rw [show (m4D 274).2.2 = (m4D 277).2.2 by decide +kernel]
theorem m4_allI : (List.range 70).all (fun j => Nat.beq (m4S.2.2.2 278 j).1 0) = true := by decide +kernel
theorem m4_wasI (j : Nat) : (m4S.2.2.2 278 j).1 = 0 := by
  rw [m4_was]
  exact Nat.eq_of_beq_eq_true (List.all_eq_true.mp m4_allI (j % 70) (List.mem_range.mpr (Nat.mod_lt _ (by decide))))
def m4W (r : Nat) : Prop := r = 275 ∨ r = 278
theorem m4_W {r : Nat} (h : m4W r) (j : Nat) : m4S.2.2.2 r j = m4S.2.2.2 278 (j % 70) := by
  rcases h with rfl | rfl
  · rw [m4_all, m4_was]
  · rw [m4_was]
theorem m4_sameT {r r1 j i : Nat} {v : Value} (e : i % 70 = j % 70) (h : mjHasT m4S v (m4S.2.2.2 r1 i)) (hr : m4W r := by first | exact Or.inl rfl | exact Or.inr rfl) (hr1 : m4W r1 := by first | exact Or.inl rfl | exact Or.inr rfl) : mjHasT m4S v (m4S.2.2.2 r j) := by
  rw [m4_W hr1, e] at h
  rw [m4_W hr]
  exact h
theorem ar_275 {w : MjW} (hT : mjTyd m4S w) {a j : Nat} (h0 : m4S.1 a = 275) (hj : j < 70) : mjFld w a j = some (.int (m4X w a j)) ∧ mjHasT m4S (.int (m4X w a j)) (m4S.2.2.2 275 j) := by
  have h := m4_intT hT h0 (by decide) ln_275 hj (by rw [m4_all]; exact m4_wasI j)
  exact ⟨h, m4_has hT h0 (by decide) h⟩
theorem ar_278 {w : MjW} (hT : mjTyd m4S w) {a j : Nat} (h0 : m4S.1 a = 278) (hj : j < 2870) : mjFld w a j = some (.int (m4X w a j)) ∧ mjHasT m4S (.int (m4X w a j)) (m4S.2.2.2 278 j) := by
  have h := m4_intT hT h0 (by decide) ln_278 hj (m4_wasI j)
  exact ⟨h, m4_has hT h0 (by decide) h⟩
section M4H2
variable {sc : List Int32} {d y pc : Nat} {ls : MjL} {st : List Value} {w : MjW} {P : Option Value → MjW → Prop} {M : MjM} {inf : List Nat} {len : Nat}
theorem h_irem {x z : Int32} (hM : mjMt y = some M) (hq : mjTb y pc = some (.irem, len, 0, inf)) (h1 : 0 ≤ x.toInt) (h2 : 0 < z.toInt) (k : ∀ u : Int32, 0 ≤ u.toInt → u.toInt ≤ x.toInt → u.toInt < z.toInt → mjGo mjTb mjMt sc d y (pc + 1, ls, .int u :: st, w) P) : mjGo mjTb mjMt sc d y (pc, ls, .int z :: .int x :: st, w) P := by
  obtain ⟨a1, a2, a3⟩ := mj_rem h1 h2
  refine g_A (st1 := .int (x - x / z * z) :: st) hM hq ?_ (k _ a1 a2 a3)
  simp only [mjA]
  rw [if_neg (fun e => by rw [e] at h2; exact absurd h2 (by decide))]
theorem m4_fitI {ci k : Nat} (h : mjTyp ci k = .int) {x : Int32} : mjFit (mjTyp ci k) (.int x) = true := by rw [h]; simp [mjFit, narrow, fits]
theorem m4_fitZ {ci k : Nat} (h : mjTyp ci k = .boolean) {x : Int32} (h1 : 0 ≤ x.toInt) (h2 : x.toInt ≤ 1) : mjFit (mjTyp ci k) (.int x) = true := by
  rw [h]
  have : x = 0 ∨ x = 1 := by
    have e : x.toInt = 0 ∨ x.toInt = 1 := by omega
    rcases e with e | e
    · exact Or.inl (Int32.toInt_inj.mp (by rw [e]; rfl))
    · exact Or.inr (Int32.toInt_inj.mp (by rw [e]; rfl))
  rcases this with rfl | rfl <;> decide
theorem h_imulc {x z : Int32} {c : Int} (hM : mjMt y = some M) (hq : mjTb y pc = some (.imul, len, 0, inf)) (hc : x.toInt = c) (h1 : -2147483648 ≤ c * z.toInt) (h2 : c * z.toInt ≤ 2147483647) (k : ∀ u : Int32, u.toInt = c * z.toInt → mjGo mjTb mjMt sc d y (pc + 1, ls, .int u :: st, w) P) : mjGo mjTb mjMt sc d y (pc, ls, .int z :: .int x :: st, w) P :=
  h_imul hM hq (by rw [hc]; exact h1) (by rw [hc]; exact h2) (fun u hu => k u (by rw [hu, hc]))
theorem h_ior {x z : Int32} (hM : mjMt y = some M) (hq : mjTb y pc = some (.ior, len, 0, inf)) (h1 : 0 ≤ x.toInt) (h2 : x.toInt ≤ 1) (h3 : 0 ≤ z.toInt) (h4 : z.toInt ≤ 1) (k : ∀ u : Int32, 0 ≤ u.toInt → u.toInt ≤ 1 → mjGo mjTb mjMt sc d y (pc + 1, ls, .int u :: st, w) P) : mjGo mjTb mjMt sc d y (pc, ls, .int z :: .int x :: st, w) P := by
  obtain ⟨⟨a1, a2⟩, -⟩ := mj_or (m := 1) (by decide) h1 h3 h2 h4
  exact g_A hM hq rfl (k _ a1 a2)
end M4H2
/-- what a list of changed places leaves alone -/
def m4AgB (mods : List (Nat × Nat)) : Bool := mods.all (fun m => !(Nat.beq m.1 11 && (Nat.beq m.2 255 || Nat.ble m.2 2)) && (!(Nat.beq m.1 12) && (!(Nat.beq m.1 13) && (!(Nat.beq m.1 252) && (!(Nat.beq m.1 266) && (!(Nat.beq m.1 267) && (!(Nat.beq m.1 270) && (!(Nat.beq m.1 244) && (!(Nat.beq m.1 245) && (!(Nat.beq m.1 186 && (Nat.beq m.2 255 || Nat.beq m.2 8)) && !(Nat.beq m.1 241 && (Nat.beq m.2 255 || (Nat.beq m.2 42 || Nat.beq m.2 74)))))))))))))
theorem m4_modF {mods : List (Nat × Nat)} {r j : Nat} (h : ∀ m ∈ mods, m.1 = r → m.2 = 255 ∨ m.2 = j → False) : aiMod mods r j = false := by
  unfold aiMod
  refine List.any_eq_false.mpr (fun m hm hc => ?_)
  simp only [Bool.and_eq_true, Bool.or_eq_true] at hc
  exact h m hm (Nat.eq_of_beq_eq_true hc.1) (hc.2.imp Nat.eq_of_beq_eq_true Nat.eq_of_beq_eq_true)
theorem m4Ag_kp {mods : List (Nat × Nat)} {w w1 : MjW} (hk : mjKp m4S mods w w1) (hm : m4AgB mods = true) : m4Ag w w1 ∧ (∀ j, m4X w1 243 j = m4X w 243 j) ∧ (∀ j, m4X w1 244 j = m4X w 244 j) := by
  have hm2 : ∀ m ∈ mods, ¬ (m.1 = 11 ∧ (m.2 = 255 ∨ m.2 ≤ 2)) ∧ m.1 ≠ 12 ∧ m.1 ≠ 13 ∧ m.1 ≠ 252 ∧ m.1 ≠ 266 ∧ m.1 ≠ 267 ∧ m.1 ≠ 270 ∧ m.1 ≠ 244 ∧ m.1 ≠ 245 ∧ ¬ (m.1 = 186 ∧ (m.2 = 255 ∨ m.2 = 8)) ∧ ¬ (m.1 = 241 ∧ (m.2 = 255 ∨ m.2 = 42 ∨ m.2 = 74)) := by
    intro m h
    have h1 := List.all_eq_true.mp hm m h
    have bf : ∀ a b : Nat, Nat.beq a b = false → a ≠ b := fun a b h e => by rw [e, Nat.beq_refl] at h; cases h
    have lf : ∀ a b : Nat, Nat.ble a b = false → ¬ a ≤ b := fun a b h e => by rw [Nat.ble_eq_true_of_le e] at h; cases h
    simp only [Bool.and_eq_true, Bool.not_eq_true', Bool.and_eq_false_iff, Bool.or_eq_false_iff] at h1
    obtain ⟨h1, h2, h3, h4, h5, h6, h7, h8, h9, h10, h11⟩ := h1
    refine ⟨fun q => ?_, bf _ _ h2, bf _ _ h3, bf _ _ h4, bf _ _ h5, bf _ _ h6, bf _ _ h7, bf _ _ h8, bf _ _ h9, fun q => ?_, fun q => ?_⟩
    · rcases h1 with e | ⟨e1, e2⟩
      · exact bf _ _ e q.1
      · exact q.2.elim (bf _ _ e1) (lf _ _ e2)
    · rcases h10 with e | ⟨e1, e2⟩
      · exact bf _ _ e q.1
      · exact q.2.elim (bf _ _ e1) (bf _ _ e2)
    · rcases h11 with e | ⟨e1, e2, e3⟩
      · exact bf _ _ e q.1
      · exact q.2.elim (bf _ _ e1) (fun z => z.elim (bf _ _ e2) (bf _ _ e3))
  have X : ∀ b r j, m4S.1 b = r → (∀ m ∈ mods, m.1 = r → m.2 = 255 ∨ m.2 = j → False) → m4X w1 b j = m4X w b j := fun b r j hr h => hk.X hr (m4_modF h)
  refine ⟨⟨fun b hb j hj => ?_, fun b hb j => ?_, X 185 _ 8 m4r_185 (fun m h e1 e2 => ?_), X 240 _ 74 m4r_240 (fun m h e1 e2 => ?_), X 240 _ 42 m4r_240 (fun m h e1 e2 => ?_)⟩, fun j => X 243 _ j m4r_243 (fun m h e1 e2 => ?_), fun j => X 244 _ j m4r_244 (fun m h e1 e2 => ?_)⟩
  · have hr : m4S.1 b = 11 := by rcases hb with rfl | rfl; exact m4r_10; exact m4r_201
    refine hk.2 b j ?_
    rw [hr]
    refine m4_modF (fun m h e1 e2 => ?_)
    have := (hm2 m h).1
    omega
  · rcases hb with rfl | rfl | rfl | rfl | rfl | rfl | rfl | rfl
    · exact X _ _ j m4r_11 (fun m h e1 e2 => by have := (hm2 m h).2; omega)
    · exact X _ _ j m4r_12 (fun m h e1 e2 => by have := (hm2 m h).2; omega)
    · exact X _ _ j m4r_202 (fun m h e1 e2 => by have := (hm2 m h).2; omega)
    · exact X _ _ j m4r_203 (fun m h e1 e2 => by have := (hm2 m h).2; omega)
    · exact X _ _ j m4r_251 (fun m h e1 e2 => by have := (hm2 m h).2; omega)
    · exact X _ _ j m4r_265 (fun m h e1 e2 => by have := (hm2 m h).2; omega)
    · exact X _ _ j m4r_266 (fun m h e1 e2 => by have := (hm2 m h).2; omega)
    · exact X _ _ j m4r_269 (fun m h e1 e2 => by have := (hm2 m h).2; omega)
  · have := (hm2 m h).2; omega
  · have := (hm2 m h).2; omega
  · have := (hm2 m h).2; omega
  · have := (hm2 m h).2; omega
  · have := (hm2 m h).2; omega
/-- the invariant behind changes elsewhere, and of acts and undone -/
theorem m4J_kp {t : Int} {mods : List (Nat × Nat)} {w w1 : MjW} (h : m4J t w) (hk : mjKp m4S mods w w1) (hm : m4AgB mods = true) (ha : 0 ≤ (m4X w1 240 60).toInt ∧ 0 ≤ (m4X w1 240 61).toInt ∧ (m4X w1 240 60).toInt + (m4X w1 240 61).toInt ≤ 40) : m4J t w1 := by
  obtain ⟨hA, e1, e2⟩ := m4Ag_kp hk hm
  obtain ⟨-, -, l, -, -⟩ := id h
  exact m4J_ag h hA (by rw [e1, e2]; exact l) ha
