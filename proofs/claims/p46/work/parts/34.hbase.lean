/-! ===== the places and the instructions of methods by hand ===== -/
theorem c_0 : (0 : Int32).toInt = 0 := rfl
theorem c_1 : (1 : Int32).toInt = 1 := rfl
theorem c_40 : (40 : Int32).toInt = 40 := rfl
theorem c_70 : (70 : Int32).toInt = 70 := rfl
theorem c_2800 : (2800 : Int32).toInt = 2800 := rfl
theorem ro_240 : m4S.1 240 = 241 := by decide +kernel
theorem ro_243 : m4S.1 243 = 244 := by decide +kernel
theorem ro_244 : m4S.1 244 = 245 := by decide +kernel
theorem ro_274 : m4S.1 274 = 275 := by decide +kernel
theorem ro_277 : m4S.1 277 = 278 := by decide +kernel
theorem kd_241 : m4S.2.1 241 = 10 := by decide +kernel
theorem ln_241 : m4S.2.2.1 241 = 77 := by decide +kernel
theorem kd_244 : m4S.2.1 244 = 100 := by decide +kernel
theorem ln_244 : m4S.2.2.1 244 = 2 := by decide +kernel
theorem kd_245 : m4S.2.1 245 = 100 := by decide +kernel
theorem ln_245 : m4S.2.2.1 245 = 2 := by decide +kernel
theorem kd_275 : m4S.2.1 275 = 100 := by decide +kernel
theorem ln_275 : m4S.2.2.1 275 = 70 := by decide +kernel
theorem kd_278 : m4S.2.1 278 = 100 := by decide +kernel
theorem ln_278 : m4S.2.2.1 278 = 2870 := by decide +kernel
theorem ty_241_11 : m4S.2.2.2 241 11 = (3, ((243 : Nat) : Int), 243) := by decide +kernel
theorem ty_241_12 : m4S.2.2.2 241 12 = (3, ((244 : Nat) : Int), 244) := by decide +kernel
theorem ty_241_42 : m4S.2.2.2 241 42 = (0, 0, 1) := by decide +kernel
theorem ty_241_52 : m4S.2.2.2 241 52 = (3, ((274 : Nat) : Int), 274) := by decide +kernel
theorem ty_241_59 : m4S.2.2.2 241 59 = (3, ((277 : Nat) : Int), 277) := by decide +kernel
theorem ty_241_60 : m4S.2.2.2 241 60 = (0, 0, 40) := by decide +kernel
theorem ty_241_61 : m4S.2.2.2 241 61 = (0, 0, 40) := by decide +kernel
theorem ta_244 (j : Nat) : m4S.2.2.2 244 j = (0, 0, 6) := (m4Un_ok 244 j (by decide +kernel)).trans (by decide +kernel)
theorem ar_244 {w : MjW} (hT : mjTyd m4S w) {a j : Nat} (h0 : m4S.1 a = 244) (hj : j < 2) : mjFld w a j = some (.int (m4X w a j)) ∧ 0 ≤ (m4X w a j).toInt ∧ (m4X w a j).toInt ≤ 6 := m4_int hT h0 (by decide) ln_244 hj (ta_244 j)
theorem ta_245 (j : Nat) : m4S.2.2.2 245 j = (0, 0, 5) := (m4Un_ok 245 j (by decide +kernel)).trans (by decide +kernel)
theorem ar_245 {w : MjW} (hT : mjTyd m4S w) {a j : Nat} (h0 : m4S.1 a = 245) (hj : j < 2) : mjFld w a j = some (.int (m4X w a j)) ∧ 0 ≤ (m4X w a j).toInt ∧ (m4X w a j).toInt ≤ 5 := m4_int hT h0 (by decide) ln_245 hj (ta_245 j)
theorem fi_240_42 {w : MjW} (hT : mjTyd m4S w) : mjFld w 240 42 = some (.int (m4X w 240 42)) ∧ 0 ≤ (m4X w 240 42).toInt ∧ (m4X w 240 42).toInt ≤ 1 := m4_int hT ro_240 (by decide) ln_241 (by decide) ty_241_42
theorem fi_240_60 {w : MjW} (hT : mjTyd m4S w) : mjFld w 240 60 = some (.int (m4X w 240 60)) ∧ 0 ≤ (m4X w 240 60).toInt ∧ (m4X w 240 60).toInt ≤ 40 := m4_int hT ro_240 (by decide) ln_241 (by decide) ty_241_60
theorem fi_240_61 {w : MjW} (hT : mjTyd m4S w) : mjFld w 240 61 = some (.int (m4X w 240 61)) ∧ 0 ≤ (m4X w 240 61).toInt ∧ (m4X w 240 61).toInt ≤ 40 := m4_int hT ro_240 (by decide) ln_241 (by decide) ty_241_61
theorem fr_240_11 {w : MjW} (hT : mjTyd m4S w) : mjFld w 240 11 = some (.ref 243) := m4_ref hT ro_240 (by decide) ln_241 (by decide) ty_241_11
theorem fr_240_12 {w : MjW} (hT : mjTyd m4S w) : mjFld w 240 12 = some (.ref 244) := m4_ref hT ro_240 (by decide) ln_241 (by decide) ty_241_12
theorem fr_240_52 {w : MjW} (hT : mjTyd m4S w) : mjFld w 240 52 = some (.ref 274) := m4_ref hT ro_240 (by decide) ln_241 (by decide) ty_241_52
theorem fr_240_59 {w : MjW} (hT : mjTyd m4S w) : mjFld w 240 59 = some (.ref 277) := m4_ref hT ro_240 (by decide) ln_241 (by decide) ty_241_59
theorem M_220 : mjMt 220 = some mjM_220 := rfl
theorem M_222 : mjMt 222 = some mjM_222 := rfl
theorem M_246 : mjMt 246 = some mjM_246 := rfl
theorem M_262 : mjMt 262 = some mjM_262 := rfl
theorem M_263 : mjMt 263 = some mjM_263 := rfl
theorem M_264 : mjMt 264 = some mjM_264 := rfl
theorem M_297 : mjMt 297 = some mjM_297 := rfl
theorem q_220_0 : mjTb 220 0 = some (.aload_n 0, 1, 1, []) := by decide +kernel
theorem q_220_1 : mjTb 220 1 = some (.getfield 20, 3, 4, [10, 11, 1426]) := by decide +kernel
theorem q_220_4 : mjTb 220 4 = some (.aload_n 0, 1, 1, []) := by decide +kernel
theorem q_220_5 : mjTb 220 5 = some (.getfield 309, 3, 4, [10, 42, 1457]) := by decide +kernel
theorem q_220_8 : mjTb 220 8 = some (.iaload, 1, 4, []) := by decide +kernel
theorem q_220_9 : mjTb 220 9 = some (.ireturn, 1, 8, []) := by decide +kernel
theorem q_222_0 : mjTb 222 0 = some (.aload_n 0, 1, 1, []) := by decide +kernel
theorem q_222_1 : mjTb 222 1 = some (.getfield 24, 3, 4, [10, 12, 1427]) := by decide +kernel
theorem q_222_4 : mjTb 222 4 = some (.aload_n 0, 1, 1, []) := by decide +kernel
theorem q_222_5 : mjTb 222 5 = some (.getfield 309, 3, 4, [10, 42, 1457]) := by decide +kernel
theorem q_222_8 : mjTb 222 8 = some (.iaload, 1, 4, []) := by decide +kernel
theorem q_222_9 : mjTb 222 9 = some (.ireturn, 1, 8, []) := by decide +kernel
theorem q_246_0 : mjTb 246 0 = some (.aload_n 0, 1, 1, []) := by decide +kernel
theorem q_246_1 : mjTb 246 1 = some (.getfield 429, 3, 4, [10, 60, 1475]) := by decide +kernel
theorem q_246_4 : mjTb 246 4 = some (.bipush 40, 2, 5, []) := by decide +kernel
theorem q_246_6 : mjTb 246 6 = some (.if_icmp .ne 43, 3, 3, [49]) := by decide +kernel
theorem q_246_9 : mjTb 246 9 = some (.iconst 0, 1, 0, []) := by decide +kernel
theorem q_246_10 : mjTb 246 10 = some (.istore_n 1, 1, 2, []) := by decide +kernel
theorem q_246_11 : mjTb 246 11 = some (.iload_n 1, 1, 1, []) := by decide +kernel
theorem q_246_12 : mjTb 246 12 = some (.sipush 2800, 3, 5, []) := by decide +kernel
theorem q_246_15 : mjTb 246 15 = some (.if_icmp .ge 24, 3, 3, [39]) := by decide +kernel
theorem q_246_18 : mjTb 246 18 = some (.aload_n 0, 1, 1, []) := by decide +kernel
theorem q_246_19 : mjTb 246 19 = some (.getfield 127, 3, 4, [10, 59, 1474]) := by decide +kernel
theorem q_246_22 : mjTb 246 22 = some (.iload_n 1, 1, 1, []) := by decide +kernel
theorem q_246_23 : mjTb 246 23 = some (.aload_n 0, 1, 1, []) := by decide +kernel
theorem q_246_24 : mjTb 246 24 = some (.getfield 127, 3, 4, [10, 59, 1474]) := by decide +kernel
theorem q_246_27 : mjTb 246 27 = some (.iload_n 1, 1, 1, []) := by decide +kernel
theorem q_246_28 : mjTb 246 28 = some (.bipush 70, 2, 5, []) := by decide +kernel
theorem q_246_30 : mjTb 246 30 = some (.iadd, 1, 0, []) := by decide +kernel
theorem q_246_31 : mjTb 246 31 = some (.iaload, 1, 4, []) := by decide +kernel
theorem q_246_32 : mjTb 246 32 = some (.iastore, 1, 4, []) := by decide +kernel
theorem q_246_33 : mjTb 246 33 = some (.iinc 1 1, 3, 2, []) := by decide +kernel
theorem q_246_36 : mjTb 246 36 = some (.goto (-25), 3, 3, [11]) := by decide +kernel
theorem q_246_39 : mjTb 246 39 = some (.aload_n 0, 1, 1, []) := by decide +kernel
theorem q_246_40 : mjTb 246 40 = some (.dup, 1, 0, []) := by decide +kernel
theorem q_246_41 : mjTb 246 41 = some (.getfield 429, 3, 4, [10, 60, 1475]) := by decide +kernel
theorem q_246_44 : mjTb 246 44 = some (.iconst 1, 1, 0, []) := by decide +kernel
theorem q_246_45 : mjTb 246 45 = some (.isub, 1, 0, []) := by decide +kernel
theorem q_246_46 : mjTb 246 46 = some (.putfield 429, 3, 4, [10, 60, 1475]) := by decide +kernel
theorem q_246_49 : mjTb 246 49 = some (.iconst 0, 1, 0, []) := by decide +kernel
theorem q_246_50 : mjTb 246 50 = some (.istore_n 1, 1, 2, []) := by decide +kernel
theorem q_246_51 : mjTb 246 51 = some (.iload_n 1, 1, 1, []) := by decide +kernel
theorem q_246_52 : mjTb 246 52 = some (.bipush 70, 2, 5, []) := by decide +kernel
theorem q_246_54 : mjTb 246 54 = some (.if_icmp .ge 29, 3, 3, [83]) := by decide +kernel
theorem q_246_57 : mjTb 246 57 = some (.aload_n 0, 1, 1, []) := by decide +kernel
theorem q_246_58 : mjTb 246 58 = some (.getfield 127, 3, 4, [10, 59, 1474]) := by decide +kernel
theorem q_246_61 : mjTb 246 61 = some (.bipush 70, 2, 5, []) := by decide +kernel
theorem q_246_63 : mjTb 246 63 = some (.aload_n 0, 1, 1, []) := by decide +kernel
theorem q_246_64 : mjTb 246 64 = some (.getfield 429, 3, 4, [10, 60, 1475]) := by decide +kernel
theorem q_246_67 : mjTb 246 67 = some (.imul, 1, 0, []) := by decide +kernel
theorem q_246_68 : mjTb 246 68 = some (.iload_n 1, 1, 1, []) := by decide +kernel
theorem q_246_69 : mjTb 246 69 = some (.iadd, 1, 0, []) := by decide +kernel
theorem q_246_70 : mjTb 246 70 = some (.aload_n 0, 1, 1, []) := by decide +kernel
theorem q_246_71 : mjTb 246 71 = some (.getfield 115, 3, 4, [10, 52, 1467]) := by decide +kernel
theorem q_246_74 : mjTb 246 74 = some (.iload_n 1, 1, 1, []) := by decide +kernel
theorem q_246_75 : mjTb 246 75 = some (.iaload, 1, 4, []) := by decide +kernel
theorem q_246_76 : mjTb 246 76 = some (.iastore, 1, 4, []) := by decide +kernel
theorem q_246_77 : mjTb 246 77 = some (.iinc 1 1, 3, 2, []) := by decide +kernel
theorem q_246_80 : mjTb 246 80 = some (.goto (-29), 3, 3, [51]) := by decide +kernel
theorem q_246_83 : mjTb 246 83 = some (.aload_n 0, 1, 1, []) := by decide +kernel
theorem q_246_84 : mjTb 246 84 = some (.dup, 1, 0, []) := by decide +kernel
theorem q_246_85 : mjTb 246 85 = some (.getfield 429, 3, 4, [10, 60, 1475]) := by decide +kernel
theorem q_246_88 : mjTb 246 88 = some (.iconst 1, 1, 0, []) := by decide +kernel
theorem q_246_89 : mjTb 246 89 = some (.iadd, 1, 0, []) := by decide +kernel
theorem q_246_90 : mjTb 246 90 = some (.putfield 429, 3, 4, [10, 60, 1475]) := by decide +kernel
theorem q_246_93 : mjTb 246 93 = some (.aload_n 0, 1, 1, []) := by decide +kernel
theorem q_246_94 : mjTb 246 94 = some (.iconst 0, 1, 0, []) := by decide +kernel
theorem q_246_95 : mjTb 246 95 = some (.putfield 432, 3, 4, [10, 61, 1476]) := by decide +kernel
theorem q_246_98 : mjTb 246 98 = some (.return_, 1, 8, []) := by decide +kernel
theorem q_262_0 : mjTb 262 0 = some (.aload_n 0, 1, 1, []) := by decide +kernel
theorem q_262_1 : mjTb 262 1 = some (.getfield 429, 3, 4, [10, 60, 1475]) := by decide +kernel
theorem q_262_4 : mjTb 262 4 = some (.ifCond .ne 5, 3, 3, [9]) := by decide +kernel
theorem q_262_7 : mjTb 262 7 = some (.iconst 0, 1, 0, []) := by decide +kernel
theorem q_262_8 : mjTb 262 8 = some (.ireturn, 1, 8, []) := by decide +kernel
theorem q_262_9 : mjTb 262 9 = some (.aload_n 0, 1, 1, []) := by decide +kernel
theorem q_262_10 : mjTb 262 10 = some (.dup, 1, 0, []) := by decide +kernel
theorem q_262_11 : mjTb 262 11 = some (.getfield 429, 3, 4, [10, 60, 1475]) := by decide +kernel
theorem q_262_14 : mjTb 262 14 = some (.iconst 1, 1, 0, []) := by decide +kernel
theorem q_262_15 : mjTb 262 15 = some (.isub, 1, 0, []) := by decide +kernel
theorem q_262_16 : mjTb 262 16 = some (.putfield 429, 3, 4, [10, 60, 1475]) := by decide +kernel
theorem q_262_19 : mjTb 262 19 = some (.aload_n 0, 1, 1, []) := by decide +kernel
theorem q_262_20 : mjTb 262 20 = some (.dup, 1, 0, []) := by decide +kernel
theorem q_262_21 : mjTb 262 21 = some (.getfield 432, 3, 4, [10, 61, 1476]) := by decide +kernel
theorem q_262_24 : mjTb 262 24 = some (.iconst 1, 1, 0, []) := by decide +kernel
theorem q_262_25 : mjTb 262 25 = some (.iadd, 1, 0, []) := by decide +kernel
theorem q_262_26 : mjTb 262 26 = some (.putfield 432, 3, 4, [10, 61, 1476]) := by decide +kernel
theorem q_262_29 : mjTb 262 29 = some (.aload_n 0, 1, 1, []) := by decide +kernel
theorem q_262_30 : mjTb 262 30 = some (.invokevirtual 519, 3, 6, [0, 263, 0, 10, 1997, 1999, 109, 142]) := by decide +kernel
theorem q_262_33 : mjTb 262 33 = some (.iconst 1, 1, 0, []) := by decide +kernel
theorem q_262_34 : mjTb 262 34 = some (.ireturn, 1, 8, []) := by decide +kernel
theorem q_263_0 : mjTb 263 0 = some (.iconst 0, 1, 0, []) := by decide +kernel
theorem q_263_1 : mjTb 263 1 = some (.istore_n 1, 1, 2, []) := by decide +kernel
theorem q_263_2 : mjTb 263 2 = some (.iload_n 1, 1, 1, []) := by decide +kernel
theorem q_263_3 : mjTb 263 3 = some (.bipush 70, 2, 5, []) := by decide +kernel
theorem q_263_5 : mjTb 263 5 = some (.if_icmp .ge 51, 3, 3, [56]) := by decide +kernel
theorem q_263_8 : mjTb 263 8 = some (.aload_n 0, 1, 1, []) := by decide +kernel
theorem q_263_9 : mjTb 263 9 = some (.getfield 127, 3, 4, [10, 59, 1474]) := by decide +kernel
theorem q_263_12 : mjTb 263 12 = some (.bipush 70, 2, 5, []) := by decide +kernel
theorem q_263_14 : mjTb 263 14 = some (.aload_n 0, 1, 1, []) := by decide +kernel
theorem q_263_15 : mjTb 263 15 = some (.getfield 429, 3, 4, [10, 60, 1475]) := by decide +kernel
theorem q_263_18 : mjTb 263 18 = some (.imul, 1, 0, []) := by decide +kernel
theorem q_263_19 : mjTb 263 19 = some (.iload_n 1, 1, 1, []) := by decide +kernel
theorem q_263_20 : mjTb 263 20 = some (.iadd, 1, 0, []) := by decide +kernel
theorem q_263_21 : mjTb 263 21 = some (.iaload, 1, 4, []) := by decide +kernel
theorem q_263_22 : mjTb 263 22 = some (.istore_n 2, 1, 2, []) := by decide +kernel
theorem q_263_23 : mjTb 263 23 = some (.aload_n 0, 1, 1, []) := by decide +kernel
theorem q_263_24 : mjTb 263 24 = some (.getfield 127, 3, 4, [10, 59, 1474]) := by decide +kernel
theorem q_263_27 : mjTb 263 27 = some (.bipush 70, 2, 5, []) := by decide +kernel
theorem q_263_29 : mjTb 263 29 = some (.aload_n 0, 1, 1, []) := by decide +kernel
theorem q_263_30 : mjTb 263 30 = some (.getfield 429, 3, 4, [10, 60, 1475]) := by decide +kernel
theorem q_263_33 : mjTb 263 33 = some (.imul, 1, 0, []) := by decide +kernel
theorem q_263_34 : mjTb 263 34 = some (.iload_n 1, 1, 1, []) := by decide +kernel
theorem q_263_35 : mjTb 263 35 = some (.iadd, 1, 0, []) := by decide +kernel
theorem q_263_36 : mjTb 263 36 = some (.aload_n 0, 1, 1, []) := by decide +kernel
theorem q_263_37 : mjTb 263 37 = some (.getfield 115, 3, 4, [10, 52, 1467]) := by decide +kernel
theorem q_263_40 : mjTb 263 40 = some (.iload_n 1, 1, 1, []) := by decide +kernel
theorem q_263_41 : mjTb 263 41 = some (.iaload, 1, 4, []) := by decide +kernel
theorem q_263_42 : mjTb 263 42 = some (.iastore, 1, 4, []) := by decide +kernel
theorem q_263_43 : mjTb 263 43 = some (.aload_n 0, 1, 1, []) := by decide +kernel
theorem q_263_44 : mjTb 263 44 = some (.getfield 115, 3, 4, [10, 52, 1467]) := by decide +kernel
theorem q_263_47 : mjTb 263 47 = some (.iload_n 1, 1, 1, []) := by decide +kernel
theorem q_263_48 : mjTb 263 48 = some (.iload_n 2, 1, 1, []) := by decide +kernel
theorem q_263_49 : mjTb 263 49 = some (.iastore, 1, 4, []) := by decide +kernel
theorem q_263_50 : mjTb 263 50 = some (.iinc 1 1, 3, 2, []) := by decide +kernel
theorem q_263_53 : mjTb 263 53 = some (.goto (-51), 3, 3, [2]) := by decide +kernel
theorem q_263_56 : mjTb 263 56 = some (.return_, 1, 8, []) := by decide +kernel
theorem q_264_0 : mjTb 264 0 = some (.aload_n 0, 1, 1, []) := by decide +kernel
theorem q_264_1 : mjTb 264 1 = some (.getfield 432, 3, 4, [10, 61, 1476]) := by decide +kernel
theorem q_264_4 : mjTb 264 4 = some (.ifCond .ne 5, 3, 3, [9]) := by decide +kernel
theorem q_264_7 : mjTb 264 7 = some (.iconst 0, 1, 0, []) := by decide +kernel
theorem q_264_8 : mjTb 264 8 = some (.ireturn, 1, 8, []) := by decide +kernel
theorem q_264_9 : mjTb 264 9 = some (.aload_n 0, 1, 1, []) := by decide +kernel
theorem q_264_10 : mjTb 264 10 = some (.invokevirtual 519, 3, 6, [0, 263, 0, 10, 1997, 1999, 109, 142]) := by decide +kernel
theorem q_264_13 : mjTb 264 13 = some (.aload_n 0, 1, 1, []) := by decide +kernel
theorem q_264_14 : mjTb 264 14 = some (.dup, 1, 0, []) := by decide +kernel
theorem q_264_15 : mjTb 264 15 = some (.getfield 429, 3, 4, [10, 60, 1475]) := by decide +kernel
theorem q_264_18 : mjTb 264 18 = some (.iconst 1, 1, 0, []) := by decide +kernel
theorem q_264_19 : mjTb 264 19 = some (.iadd, 1, 0, []) := by decide +kernel
theorem q_264_20 : mjTb 264 20 = some (.putfield 429, 3, 4, [10, 60, 1475]) := by decide +kernel
theorem q_264_23 : mjTb 264 23 = some (.aload_n 0, 1, 1, []) := by decide +kernel
theorem q_264_24 : mjTb 264 24 = some (.dup, 1, 0, []) := by decide +kernel
theorem q_264_25 : mjTb 264 25 = some (.getfield 432, 3, 4, [10, 61, 1476]) := by decide +kernel
theorem q_264_28 : mjTb 264 28 = some (.iconst 1, 1, 0, []) := by decide +kernel
theorem q_264_29 : mjTb 264 29 = some (.isub, 1, 0, []) := by decide +kernel
theorem q_264_30 : mjTb 264 30 = some (.putfield 432, 3, 4, [10, 61, 1476]) := by decide +kernel
theorem q_264_33 : mjTb 264 33 = some (.iconst 1, 1, 0, []) := by decide +kernel
theorem q_264_34 : mjTb 264 34 = some (.ireturn, 1, 8, []) := by decide +kernel
theorem q_297_0 : mjTb 297 0 = some (.iload_n 0, 1, 1, []) := by decide +kernel
theorem q_297_1 : mjTb 297 1 = some (.istore_n 2, 1, 2, []) := by decide +kernel
theorem q_297_2 : mjTb 297 2 = some (.iload_n 1, 1, 1, []) := by decide +kernel
theorem q_297_3 : mjTb 297 3 = some (.istore_n 3, 1, 2, []) := by decide +kernel
theorem q_297_4 : mjTb 297 4 = some (.iload_n 3, 1, 1, []) := by decide +kernel
theorem q_297_5 : mjTb 297 5 = some (.ifCond .le 16, 3, 3, [21]) := by decide +kernel
theorem q_297_8 : mjTb 297 8 = some (.iload_n 2, 1, 1, []) := by decide +kernel
theorem q_297_9 : mjTb 297 9 = some (.iload_n 3, 1, 1, []) := by decide +kernel
theorem q_297_10 : mjTb 297 10 = some (.irem, 1, 0, []) := by decide +kernel
theorem q_297_11 : mjTb 297 11 = some (.istore 4, 2, 2, []) := by decide +kernel
theorem q_297_13 : mjTb 297 13 = some (.iload_n 3, 1, 1, []) := by decide +kernel
theorem q_297_14 : mjTb 297 14 = some (.istore_n 2, 1, 2, []) := by decide +kernel
theorem q_297_15 : mjTb 297 15 = some (.iload 4, 2, 1, []) := by decide +kernel
theorem q_297_17 : mjTb 297 17 = some (.istore_n 3, 1, 2, []) := by decide +kernel
theorem q_297_18 : mjTb 297 18 = some (.goto (-14), 3, 3, [4]) := by decide +kernel
theorem q_297_21 : mjTb 297 21 = some (.iload_n 2, 1, 1, []) := by decide +kernel
theorem q_297_22 : mjTb 297 22 = some (.ireturn, 1, 8, []) := by decide +kernel
theorem h_rtI {x : Int32} {M : MjM} (h : M.2.2.2.1 = some .int := by rfl) : mjRt .ireturn M.2.2.2.1 [.int x] = some (some (.int x)) := by rw [h]; simp [mjRt, narrow]
theorem h_rtZ {x : Int32} {M : MjM} (h1 : 0 ≤ x.toInt := by omega) (h2 : x.toInt ≤ 1 := by omega) (h : M.2.2.2.1 = some .boolean := by rfl) : mjRt .ireturn M.2.2.2.1 [.int x] = some (some (.int x)) := by
  rw [h]
  have : x = 0 ∨ x = 1 := by
    have e : x.toInt = 0 ∨ x.toInt = 1 := by omega
    rcases e with e | e
    · exact Or.inl (Int32.toInt_inj.mp (by rw [e]; rfl))
    · exact Or.inr (Int32.toInt_inj.mp (by rw [e]; rfl))
  rcases this with rfl | rfl <;> rfl
theorem m4_was (j : Nat) : m4S.2.2.2 278 j = m4S.2.2.2 278 (j % 70) := mjTs_mod (ts := (m4D 277).2.2) (by decide +kernel)
theorem m4_all (j : Nat) : m4S.2.2.2 275 j = m4S.2.2.2 278 j := by
  show mjTs (m4D 274).2.2 j = mjTs (m4D 277).2.2 j
  rw [show (m4D 274).2.2 = (m4D 277).2.2 by decide +kernel]
theorem m4_allI : (List.range 70).all (fun j => Nat.beq (m4S.2.2.2 278 j).1 0) = true := by decide +kernel
theorem m4_wasI (j : Nat) : (m4S.2.2.2 278 j).1 = 0 := by
  rw [m4_was]
  exact Nat.eq_of_beq_eq_true (List.all_eq_true.mp m4_allI (j % 70) (List.mem_range.mpr (Nat.mod_lt _ (by decide))))
def m4W (r : Nat) : Prop := r = 275 ∨ r = 278
theorem m4_W {r : Nat} (h : m4W r) (j : Nat) : m4S.2.2.2 r j = m4S.2.2.2 278 (j % 70) := by
  rcases h with rfl | rfl
  · rw [m4_all, m4_was]
  · rw [m4_was]
theorem m4_sameT {r r1 j i : Nat} {v : Value} (e : i % 70 = j % 70) (h : mjHasT m4S v (m4S.2.2.2 r1 i)) (hr : m4W r := by first | exact Or.inl rfl | exact Or.inr rfl) (hr1 : m4W r1 := by first | exact Or.inl rfl | exact Or.inr rfl) : mjHasT m4S v (m4S.2.2.2 r j) := by
  rw [m4_W hr1, e] at h
  rw [m4_W hr]
  exact h
theorem ar_275 {w : MjW} (hT : mjTyd m4S w) {a j : Nat} (h0 : m4S.1 a = 275) (hj : j < 70) : mjFld w a j = some (.int (m4X w a j)) ∧ mjHasT m4S (.int (m4X w a j)) (m4S.2.2.2 275 j) := by
  have h := m4_intT hT h0 (by decide) ln_275 hj (by rw [m4_all]; exact m4_wasI j)
  exact ⟨h, m4_has hT h0 (by decide) h⟩
theorem ar_278 {w : MjW} (hT : mjTyd m4S w) {a j : Nat} (h0 : m4S.1 a = 278) (hj : j < 2870) : mjFld w a j = some (.int (m4X w a j)) ∧ mjHasT m4S (.int (m4X w a j)) (m4S.2.2.2 278 j) := by
  have h := m4_intT hT h0 (by decide) ln_278 hj (m4_wasI j)
  exact ⟨h, m4_has hT h0 (by decide) h⟩
section M4H2
variable {sc : List Int32} {d y pc : Nat} {ls : MjL} {st : List Value} {w : MjW} {P : Option Value → MjW → Prop} {M : MjM} {inf : List Nat} {len : Nat}
theorem h_irem {x z : Int32} (hM : mjMt y = some M) (hq : mjTb y pc = some (.irem, len, 0, inf)) (h1 : 0 ≤ x.toInt) (h2 : 0 < z.toInt) (k : ∀ u : Int32, 0 ≤ u.toInt → u.toInt ≤ x.toInt → u.toInt < z.toInt → mjGo mjTb mjMt sc d y (pc + 1, ls, .int u :: st, w) P) : mjGo mjTb mjMt sc d y (pc, ls, .int z :: .int x :: st, w) P := by
  obtain ⟨a1, a2, a3⟩ := mj_rem h1 h2
  refine g_A (st1 := .int (x - x / z * z) :: st) hM hq ?_ (k _ a1 a2 a3)
  simp only [mjA]
  rw [if_neg (fun e => by rw [e] at h2; exact absurd h2 (by decide))]
theorem m4_fitI {ci k : Nat} (h : mjTyp ci k = .int) {x : Int32} : mjFit (mjTyp ci k) (.int x) = true := by rw [h]; simp [mjFit, narrow, fits]
theorem m4_fitZ {ci k : Nat} (h : mjTyp ci k = .boolean) {x : Int32} (h1 : 0 ≤ x.toInt) (h2 : x.toInt ≤ 1) : mjFit (mjTyp ci k) (.int x) = true := by
  rw [h]
  have : x = 0 ∨ x = 1 := by
    have e : x.toInt = 0 ∨ x.toInt = 1 := by omega
    rcases e with e | e
    · exact Or.inl (Int32.toInt_inj.mp (by rw [e]; rfl))
    · exact Or.inr (Int32.toInt_inj.mp (by rw [e]; rfl))
  rcases this with rfl | rfl <;> decide
theorem h_imulc {x z : Int32} {c : Int} (hM : mjMt y = some M) (hq : mjTb y pc = some (.imul, len, 0, inf)) (hc : x.toInt = c) (h1 : -2147483648 ≤ c * z.toInt) (h2 : c * z.toInt ≤ 2147483647) (k : ∀ u : Int32, u.toInt = c * z.toInt → mjGo mjTb mjMt sc d y (pc + 1, ls, .int u :: st, w) P) : mjGo mjTb mjMt sc d y (pc, ls, .int z :: .int x :: st, w) P :=
  h_imul hM hq (by rw [hc]; exact h1) (by rw [hc]; exact h2) (fun u hu => k u (by rw [hu, hc]))
theorem h_ior {x z : Int32} (hM : mjMt y = some M) (hq : mjTb y pc = some (.ior, len, 0, inf)) (h1 : 0 ≤ x.toInt) (h2 : x.toInt ≤ 1) (h3 : 0 ≤ z.toInt) (h4 : z.toInt ≤ 1) (k : ∀ u : Int32, 0 ≤ u.toInt → u.toInt ≤ 1 → mjGo mjTb mjMt sc d y (pc + 1, ls, .int u :: st, w) P) : mjGo mjTb mjMt sc d y (pc, ls, .int z :: .int x :: st, w) P := by
  obtain ⟨⟨a1, a2⟩, -⟩ := mj_or (m := 1) (by decide) h1 h3 h2 h4
  exact g_A hM hq rfl (k _ a1 a2)
end M4H2
/-- what a list of changed places leaves alone -/
def m4AgB (mods : List (Nat × Nat)) : Bool := mods.all (fun m => !(Nat.beq m.1 11 && (Nat.beq m.2 255 || Nat.ble m.2 2)) && (!(Nat.beq m.1 12) && (!(Nat.beq m.1 13) && (!(Nat.beq m.1 252) && (!(Nat.beq m.1 266) && (!(Nat.beq m.1 267) && (!(Nat.beq m.1 270) && (!(Nat.beq m.1 244) && (!(Nat.beq m.1 245) && (!(Nat.beq m.1 186 && (Nat.beq m.2 255 || Nat.beq m.2 8)) && !(Nat.beq m.1 241 && (Nat.beq m.2 255 || (Nat.beq m.2 42 || Nat.beq m.2 74)))))))))))))
theorem m4_modF {mods : List (Nat × Nat)} {r j : Nat} (h : ∀ m ∈ mods, m.1 = r → m.2 = 255 ∨ m.2 = j → False) : aiMod mods r j = false := by
  unfold aiMod
  refine List.any_eq_false.mpr (fun m hm hc => ?_)
  simp only [Bool.and_eq_true, Bool.or_eq_true] at hc
  exact h m hm (Nat.eq_of_beq_eq_true hc.1) (hc.2.imp Nat.eq_of_beq_eq_true Nat.eq_of_beq_eq_true)
theorem m4Ag_kp {mods : List (Nat × Nat)} {w w1 : MjW} (hk : mjKp m4S mods w w1) (hm : m4AgB mods = true) : m4Ag w w1 ∧ (∀ j, m4X w1 243 j = m4X w 243 j) ∧ (∀ j, m4X w1 244 j = m4X w 244 j) := by
  have hm2 : ∀ m ∈ mods, ¬ (m.1 = 11 ∧ (m.2 = 255 ∨ m.2 ≤ 2)) ∧ m.1 ≠ 12 ∧ m.1 ≠ 13 ∧ m.1 ≠ 252 ∧ m.1 ≠ 266 ∧ m.1 ≠ 267 ∧ m.1 ≠ 270 ∧ m.1 ≠ 244 ∧ m.1 ≠ 245 ∧ ¬ (m.1 = 186 ∧ (m.2 = 255 ∨ m.2 = 8)) ∧ ¬ (m.1 = 241 ∧ (m.2 = 255 ∨ m.2 = 42 ∨ m.2 = 74)) := by
    intro m h
    have h1 := List.all_eq_true.mp hm m h
    have bf : ∀ a b : Nat, Nat.beq a b = false → a ≠ b := fun a b h e => by rw [e, Nat.beq_refl] at h; cases h
    have lf : ∀ a b : Nat, Nat.ble a b = false → ¬ a ≤ b := fun a b h e => by rw [Nat.ble_eq_true_of_le e] at h; cases h
    simp only [Bool.and_eq_true, Bool.not_eq_true', Bool.and_eq_false_iff, Bool.or_eq_false_iff] at h1
    obtain ⟨h1, h2, h3, h4, h5, h6, h7, h8, h9, h10, h11⟩ := h1
    refine ⟨fun q => ?_, bf _ _ h2, bf _ _ h3, bf _ _ h4, bf _ _ h5, bf _ _ h6, bf _ _ h7, bf _ _ h8, bf _ _ h9, fun q => ?_, fun q => ?_⟩
    · rcases h1 with e | ⟨e1, e2⟩
      · exact bf _ _ e q.1
      · exact q.2.elim (bf _ _ e1) (lf _ _ e2)
    · rcases h10 with e | ⟨e1, e2⟩
      · exact bf _ _ e q.1
      · exact q.2.elim (bf _ _ e1) (bf _ _ e2)
    · rcases h11 with e | ⟨e1, e2, e3⟩
      · exact bf _ _ e q.1
      · exact q.2.elim (bf _ _ e1) (fun z => z.elim (bf _ _ e2) (bf _ _ e3))
  have X : ∀ b r j, m4S.1 b = r → (∀ m ∈ mods, m.1 = r → m.2 = 255 ∨ m.2 = j → False) → m4X w1 b j = m4X w b j := fun b r j hr h => hk.X hr (m4_modF h)
  refine ⟨⟨fun b hb j hj => ?_, fun b hb j => ?_, X 185 _ 8 m4r_185 (fun m h e1 e2 => ?_), X 240 _ 74 m4r_240 (fun m h e1 e2 => ?_), X 240 _ 42 m4r_240 (fun m h e1 e2 => ?_)⟩, fun j => X 243 _ j m4r_243 (fun m h e1 e2 => ?_), fun j => X 244 _ j m4r_244 (fun m h e1 e2 => ?_)⟩
  · have hr : m4S.1 b = 11 := by rcases hb with rfl | rfl; exact m4r_10; exact m4r_201
    refine hk.2 b j ?_
    rw [hr]
    refine m4_modF (fun m h e1 e2 => ?_)
    have := (hm2 m h).1
    omega
  · rcases hb with rfl | rfl | rfl | rfl | rfl | rfl | rfl | rfl
    · exact X _ _ j m4r_11 (fun m h e1 e2 => by have := (hm2 m h).2; omega)
    · exact X _ _ j m4r_12 (fun m h e1 e2 => by have := (hm2 m h).2; omega)
    · exact X _ _ j m4r_202 (fun m h e1 e2 => by have := (hm2 m h).2; omega)
    · exact X _ _ j m4r_203 (fun m h e1 e2 => by have := (hm2 m h).2; omega)
    · exact X _ _ j m4r_251 (fun m h e1 e2 => by have := (hm2 m h).2; omega)
    · exact X _ _ j m4r_265 (fun m h e1 e2 => by have := (hm2 m h).2; omega)
    · exact X _ _ j m4r_266 (fun m h e1 e2 => by have := (hm2 m h).2; omega)
    · exact X _ _ j m4r_269 (fun m h e1 e2 => by have := (hm2 m h).2; omega)
  · have := (hm2 m h).2; omega
  · have := (hm2 m h).2; omega
  · have := (hm2 m h).2; omega
  · have := (hm2 m h).2; omega
  · have := (hm2 m h).2; omega
/-- the invariant behind changes elsewhere, and of acts and undone -/
theorem m4J_kp {t : Int} {mods : List (Nat × Nat)} {w w1 : MjW} (h : m4J t w) (hk : mjKp m4S mods w w1) (hm : m4AgB mods = true) (ha : 0 ≤ (m4X w1 240 60).toInt ∧ 0 ≤ (m4X w1 240 61).toInt ∧ (m4X w1 240 60).toInt + (m4X w1 240 61).toInt ≤ 40) : m4J t w1 := by
  obtain ⟨hA, e1, e2⟩ := m4Ag_kp hk hm
  obtain ⟨-, -, l, -, -⟩ := id h
  exact m4J_ag h hA (by rw [e1, e2]; exact l) ha
