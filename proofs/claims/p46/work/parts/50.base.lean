/-! ===== still more places and instructions ===== -/
theorem c_9 : (9 : Int32).toInt = 9 := rfl
theorem c_59 : (59 : Int32).toInt = 59 := rfl
theorem c_100 : (100 : Int32).toInt = 100 := rfl
theorem c_999 : (999 : Int32).toInt = 999 := rfl
theorem ro_241 : m4S.1 241 = 242 := by decide +kernel
theorem ro_245 : m4S.1 245 = 246 := by decide +kernel
theorem ro_246 : m4S.1 246 = 247 := by decide +kernel
theorem ro_248 : m4S.1 248 = 249 := by decide +kernel
theorem ro_249 : m4S.1 249 = 250 := by decide +kernel
theorem ro_250 : m4S.1 250 = 251 := by decide +kernel
theorem kd_242 : m4S.2.1 242 = 101 := by decide +kernel
theorem ln_242 : m4S.2.2.1 242 = 1620 := by decide +kernel
theorem kd_246 : m4S.2.1 246 = 100 := by decide +kernel
theorem ln_246 : m4S.2.2.1 246 = 2 := by decide +kernel
theorem kd_247 : m4S.2.1 247 = 100 := by decide +kernel
theorem ln_247 : m4S.2.2.1 247 = 2 := by decide +kernel
theorem kd_249 : m4S.2.1 249 = 100 := by decide +kernel
theorem ln_249 : m4S.2.2.1 249 = 2 := by decide +kernel
theorem kd_250 : m4S.2.1 250 = 100 := by decide +kernel
theorem ln_250 : m4S.2.2.1 250 = 2 := by decide +kernel
theorem kd_251 : m4S.2.1 251 = 100 := by decide +kernel
theorem ln_251 : m4S.2.2.1 251 = 2 := by decide +kernel
theorem ty_241_0 : m4S.2.2.2 241 0 = (3, ((241 : Nat) : Int), 241) := by decide +kernel
theorem ty_241_2 : m4S.2.2.2 241 2 = (0, 0, 1600) := by decide +kernel
theorem ty_241_5 : m4S.2.2.2 241 5 = (0, (-1), 1600) := by decide +kernel
theorem ty_241_13 : m4S.2.2.2 241 13 = (3, ((245 : Nat) : Int), 245) := by decide +kernel
theorem ty_241_14 : m4S.2.2.2 241 14 = (3, ((246 : Nat) : Int), 246) := by decide +kernel
theorem ty_241_16 : m4S.2.2.2 241 16 = (3, ((248 : Nat) : Int), 248) := by decide +kernel
theorem ty_241_17 : m4S.2.2.2 241 17 = (3, ((249 : Nat) : Int), 249) := by decide +kernel
theorem ty_241_18 : m4S.2.2.2 241 18 = (3, ((250 : Nat) : Int), 250) := by decide +kernel
theorem ty_241_48 : m4S.2.2.2 241 48 = (0, 0, 1) := by decide +kernel
theorem ta_242 (j : Nat) : m4S.2.2.2 242 j = (0, (-128), 127) := (m4Un_ok 242 j (by decide +kernel)).trans (by decide +kernel)
theorem ar_242 {w : MjW} (hT : mjTyd m4S w) {a j : Nat} (h0 : m4S.1 a = 242) (hj : j < 1620) : mjFld w a j = some (.int (m4X w a j)) ∧ (-128) ≤ (m4X w a j).toInt ∧ (m4X w a j).toInt ≤ 127 := m4_int hT h0 (by decide) ln_242 hj (ta_242 j)
theorem ta_246 (j : Nat) : m4S.2.2.2 246 j = (0, 0, 5) := (m4Un_ok 246 j (by decide +kernel)).trans (by decide +kernel)
theorem ar_246 {w : MjW} (hT : mjTyd m4S w) {a j : Nat} (h0 : m4S.1 a = 246) (hj : j < 2) : mjFld w a j = some (.int (m4X w a j)) ∧ 0 ≤ (m4X w a j).toInt ∧ (m4X w a j).toInt ≤ 5 := m4_int hT h0 (by decide) ln_246 hj (ta_246 j)
theorem ta_247 (j : Nat) : m4S.2.2.2 247 j = (0, 0, 6) := (m4Un_ok 247 j (by decide +kernel)).trans (by decide +kernel)
theorem ar_247 {w : MjW} (hT : mjTyd m4S w) {a j : Nat} (h0 : m4S.1 a = 247) (hj : j < 2) : mjFld w a j = some (.int (m4X w a j)) ∧ 0 ≤ (m4X w a j).toInt ∧ (m4X w a j).toInt ≤ 6 := m4_int hT h0 (by decide) ln_247 hj (ta_247 j)
theorem ta_249 (j : Nat) : m4S.2.2.2 249 j = (0, 0, 9) := (m4Un_ok 249 j (by decide +kernel)).trans (by decide +kernel)
theorem ar_249 {w : MjW} (hT : mjTyd m4S w) {a j : Nat} (h0 : m4S.1 a = 249) (hj : j < 2) : mjFld w a j = some (.int (m4X w a j)) ∧ 0 ≤ (m4X w a j).toInt ∧ (m4X w a j).toInt ≤ 9 := m4_int hT h0 (by decide) ln_249 hj (ta_249 j)
theorem ta_250 (j : Nat) : m4S.2.2.2 250 j = (0, 0, 100) := (m4Un_ok 250 j (by decide +kernel)).trans (by decide +kernel)
theorem ar_250 {w : MjW} (hT : mjTyd m4S w) {a j : Nat} (h0 : m4S.1 a = 250) (hj : j < 2) : mjFld w a j = some (.int (m4X w a j)) ∧ 0 ≤ (m4X w a j).toInt ∧ (m4X w a j).toInt ≤ 100 := m4_int hT h0 (by decide) ln_250 hj (ta_250 j)
theorem ta_251 (j : Nat) : m4S.2.2.2 251 j = (0, 0, 999) := (m4Un_ok 251 j (by decide +kernel)).trans (by decide +kernel)
theorem ar_251 {w : MjW} (hT : mjTyd m4S w) {a j : Nat} (h0 : m4S.1 a = 251) (hj : j < 2) : mjFld w a j = some (.int (m4X w a j)) ∧ 0 ≤ (m4X w a j).toInt ∧ (m4X w a j).toInt ≤ 999 := m4_int hT h0 (by decide) ln_251 hj (ta_251 j)
theorem fi_240_2 {w : MjW} (hT : mjTyd m4S w) : mjFld w 240 2 = some (.int (m4X w 240 2)) ∧ 0 ≤ (m4X w 240 2).toInt ∧ (m4X w 240 2).toInt ≤ 1600 := m4_int hT ro_240 (by decide) ln_241 (by decide) ty_241_2
theorem fi_240_48 {w : MjW} (hT : mjTyd m4S w) : mjFld w 240 48 = some (.int (m4X w 240 48)) ∧ 0 ≤ (m4X w 240 48).toInt ∧ (m4X w 240 48).toInt ≤ 1 := m4_int hT ro_240 (by decide) ln_241 (by decide) ty_241_48
theorem fr_240_0 {w : MjW} (hT : mjTyd m4S w) : mjFld w 240 0 = some (.ref 241) := m4_ref hT ro_240 (by decide) ln_241 (by decide) ty_241_0
theorem fr_240_13 {w : MjW} (hT : mjTyd m4S w) : mjFld w 240 13 = some (.ref 245) := m4_ref hT ro_240 (by decide) ln_241 (by decide) ty_241_13
theorem fr_240_14 {w : MjW} (hT : mjTyd m4S w) : mjFld w 240 14 = some (.ref 246) := m4_ref hT ro_240 (by decide) ln_241 (by decide) ty_241_14
theorem fr_240_16 {w : MjW} (hT : mjTyd m4S w) : mjFld w 240 16 = some (.ref 248) := m4_ref hT ro_240 (by decide) ln_241 (by decide) ty_241_16
theorem fr_240_17 {w : MjW} (hT : mjTyd m4S w) : mjFld w 240 17 = some (.ref 249) := m4_ref hT ro_240 (by decide) ln_241 (by decide) ty_241_17
theorem fr_240_18 {w : MjW} (hT : mjTyd m4S w) : mjFld w 240 18 = some (.ref 250) := m4_ref hT ro_240 (by decide) ln_241 (by decide) ty_241_18
theorem M_176 : mjMt 176 = some mjM_176 := rfl
theorem M_177 : mjMt 177 = some mjM_177 := rfl
theorem M_180 : mjMt 180 = some mjM_180 := rfl
theorem M_188 : mjMt 188 = some mjM_188 := rfl
theorem M_189 : mjMt 189 = some mjM_189 := rfl
theorem M_191 : mjMt 191 = some mjM_191 := rfl
theorem M_194 : mjMt 194 = some mjM_194 := rfl
theorem M_195 : mjMt 195 = some mjM_195 := rfl
theorem M_196 : mjMt 196 = some mjM_196 := rfl
theorem M_199 : mjMt 199 = some mjM_199 := rfl
theorem M_201 : mjMt 201 = some mjM_201 := rfl
theorem M_202 : mjMt 202 = some mjM_202 := rfl
theorem M_205 : mjMt 205 = some mjM_205 := rfl
theorem q_176_0 : mjTb 176 0 = some (.aload_n 0, 1, 1, []) := by decide +kernel
theorem q_177_0 : mjTb 177 0 = some (.aload_n 0, 1, 1, []) := by decide +kernel
theorem q_180_0 : mjTb 180 0 = some (.aload_n 0, 1, 1, []) := by decide +kernel
theorem q_180_1 : mjTb 180 1 = some (.iconst 0, 1, 0, []) := by decide +kernel
theorem q_180_2 : mjTb 180 2 = some (.putfield 176, 3, 4, [10, 4, 1419]) := by decide +kernel
theorem q_180_5 : mjTb 180 5 = some (.aload_n 0, 1, 1, []) := by decide +kernel
theorem q_180_6 : mjTb 180 6 = some (.iconst (-1), 1, 0, []) := by decide +kernel
theorem q_180_7 : mjTb 180 7 = some (.putfield 16, 3, 4, [10, 5, 1420]) := by decide +kernel
theorem q_180_10 : mjTb 180 10 = some (.aload_n 0, 1, 1, []) := by decide +kernel
theorem q_180_11 : mjTb 180 11 = some (.aload_n 0, 1, 1, []) := by decide +kernel
theorem q_180_12 : mjTb 180 12 = some (.getfield 306, 3, 4, [10, 2, 1417]) := by decide +kernel
theorem q_180_15 : mjTb 180 15 = some (.putfield 173, 3, 4, [10, 3, 1418]) := by decide +kernel
theorem q_180_18 : mjTb 180 18 = some (.iconst 0, 1, 0, []) := by decide +kernel
theorem q_180_19 : mjTb 180 19 = some (.istore_n 1, 1, 2, []) := by decide +kernel
theorem q_180_20 : mjTb 180 20 = some (.iload_n 1, 1, 1, []) := by decide +kernel
theorem q_180_21 : mjTb 180 21 = some (.aload_n 0, 1, 1, []) := by decide +kernel
theorem q_180_22 : mjTb 180 22 = some (.getfield 173, 3, 4, [10, 3, 1418]) := by decide +kernel
theorem q_180_25 : mjTb 180 25 = some (.if_icmp .ge 21, 3, 3, [46]) := by decide +kernel
theorem q_180_28 : mjTb 180 28 = some (.aload_n 0, 1, 1, []) := by decide +kernel
theorem q_180_29 : mjTb 180 29 = some (.getfield 13, 3, 4, [10, 1, 1416]) := by decide +kernel
theorem q_180_32 : mjTb 180 32 = some (.iload_n 1, 1, 1, []) := by decide +kernel
theorem q_180_33 : mjTb 180 33 = some (.aload_n 0, 1, 1, []) := by decide +kernel
theorem q_180_34 : mjTb 180 34 = some (.getfield 7, 3, 4, [10, 0, 1415]) := by decide +kernel
theorem q_180_37 : mjTb 180 37 = some (.iload_n 1, 1, 1, []) := by decide +kernel
theorem q_180_38 : mjTb 180 38 = some (.baload, 1, 4, []) := by decide +kernel
theorem q_180_39 : mjTb 180 39 = some (.bastore, 1, 4, []) := by decide +kernel
theorem q_180_40 : mjTb 180 40 = some (.iinc 1 1, 3, 2, []) := by decide +kernel
theorem q_180_43 : mjTb 180 43 = some (.goto (-23), 3, 3, [20]) := by decide +kernel
theorem q_180_46 : mjTb 180 46 = some (.aload_n 0, 1, 1, []) := by decide +kernel
theorem q_180_47 : mjTb 180 47 = some (.iconst 0, 1, 0, []) := by decide +kernel
theorem q_180_48 : mjTb 180 48 = some (.putfield 306, 3, 4, [10, 2, 1417]) := by decide +kernel
theorem q_180_51 : mjTb 180 51 = some (.aload_n 0, 1, 1, []) := by decide +kernel
theorem q_180_52 : mjTb 180 52 = some (.iconst 0, 1, 0, []) := by decide +kernel
theorem q_180_53 : mjTb 180 53 = some (.putfield 233, 3, 4, [10, 7, 1422]) := by decide +kernel
theorem q_180_56 : mjTb 180 56 = some (.aload_n 0, 1, 1, []) := by decide +kernel
theorem q_180_57 : mjTb 180 57 = some (.iconst 1, 1, 0, []) := by decide +kernel
theorem q_180_58 : mjTb 180 58 = some (.aload_n 0, 1, 1, []) := by decide +kernel
theorem q_180_59 : mjTb 180 59 = some (.getfield 309, 3, 4, [10, 42, 1457]) := by decide +kernel
theorem q_180_62 : mjTb 180 62 = some (.isub, 1, 0, []) := by decide +kernel
theorem q_180_63 : mjTb 180 63 = some (.putfield 296, 3, 4, [10, 43, 1458]) := by decide +kernel
theorem q_180_66 : mjTb 180 66 = some (.aload_n 0, 1, 1, []) := by decide +kernel
theorem q_180_67 : mjTb 180 67 = some (.invokevirtual 167, 3, 6, [0, 176, 0, 10, 1399, 1401, 51, 142]) := by decide +kernel
theorem q_180_70 : mjTb 180 70 = some (.aload_n 0, 1, 1, []) := by decide +kernel
theorem q_180_71 : mjTb 180 71 = some (.invokevirtual 275, 3, 6, [0, 181, 0, 10, 1651, 1653, 55, 142]) := by decide +kernel
theorem q_180_74 : mjTb 180 74 = some (.aload_n 0, 1, 1, []) := by decide +kernel
theorem q_180_75 : mjTb 180 75 = some (.invokevirtual 271, 3, 6, [0, 187, 0, 10, 1698, 1700, 57, 142]) := by decide +kernel
theorem q_180_78 : mjTb 180 78 = some (.ifCond .eq 17, 3, 3, [95]) := by decide +kernel
theorem q_180_81 : mjTb 180 81 = some (.aload_n 0, 1, 1, []) := by decide +kernel
theorem q_180_82 : mjTb 180 82 = some (.getfield 243, 3, 4, [10, 8, 1423]) := by decide +kernel
theorem q_180_85 : mjTb 180 85 = some (.ifCond .eq 10, 3, 3, [95]) := by decide +kernel
theorem q_180_88 : mjTb 180 88 = some (.aload_n 0, 1, 1, []) := by decide +kernel
theorem q_180_89 : mjTb 180 89 = some (.invokevirtual 312, 3, 6, [0, 188, 0, 10, 1702, 1704, 58, 142]) := by decide +kernel
theorem q_180_92 : mjTb 180 92 = some (.goto (-18), 3, 3, [74]) := by decide +kernel
theorem q_180_95 : mjTb 180 95 = some (.aload_n 0, 1, 1, []) := by decide +kernel
theorem q_180_96 : mjTb 180 96 = some (.invokevirtual 271, 3, 6, [0, 187, 0, 10, 1698, 1700, 57, 142]) := by decide +kernel
theorem q_180_99 : mjTb 180 99 = some (.ifCond .ne 5, 3, 3, [104]) := by decide +kernel
theorem q_180_102 : mjTb 180 102 = some (.iconst (-1), 1, 0, []) := by decide +kernel
theorem q_180_103 : mjTb 180 103 = some (.ireturn, 1, 8, []) := by decide +kernel
theorem q_180_104 : mjTb 180 104 = some (.aload_n 0, 1, 1, []) := by decide +kernel
theorem q_180_105 : mjTb 180 105 = some (.aload_n 0, 1, 1, []) := by decide +kernel
theorem q_180_106 : mjTb 180 106 = some (.getfield 296, 3, 4, [10, 43, 1458]) := by decide +kernel
theorem q_180_109 : mjTb 180 109 = some (.putfield 309, 3, 4, [10, 42, 1457]) := by decide +kernel
theorem q_180_112 : mjTb 180 112 = some (.aload_n 0, 1, 1, []) := by decide +kernel
theorem q_180_113 : mjTb 180 113 = some (.invokevirtual 170, 3, 6, [0, 177, 0, 10, 1403, 1405, 52, 142]) := by decide +kernel
theorem q_180_116 : mjTb 180 116 = some (.aload_n 0, 1, 1, []) := by decide +kernel
theorem q_180_117 : mjTb 180 117 = some (.getfield 27, 3, 4, [10, 13, 1428]) := by decide +kernel
theorem q_180_120 : mjTb 180 120 = some (.aload_n 0, 1, 1, []) := by decide +kernel
theorem q_180_121 : mjTb 180 121 = some (.getfield 309, 3, 4, [10, 42, 1457]) := by decide +kernel
theorem q_180_124 : mjTb 180 124 = some (.iaload, 1, 4, []) := by decide +kernel
theorem q_180_125 : mjTb 180 125 = some (.ireturn, 1, 8, []) := by decide +kernel
theorem q_188_0 : mjTb 188 0 = some (.aload_n 0, 1, 1, []) := by decide +kernel
theorem q_188_1 : mjTb 188 1 = some (.getfield 250, 3, 4, [10, 10, 1425]) := by decide +kernel
theorem q_188_4 : mjTb 188 4 = some (.lstore_n 1, 1, 2, []) := by decide +kernel
theorem q_188_5 : mjTb 188 5 = some (.aload_n 0, 1, 1, []) := by decide +kernel
theorem q_188_6 : mjTb 188 6 = some (.getfield 243, 3, 4, [10, 8, 1423]) := by decide +kernel
theorem q_188_9 : mjTb 188 9 = some (.iconst 3, 1, 0, []) := by decide +kernel
theorem q_188_10 : mjTb 188 10 = some (.if_icmp .ne 10, 3, 3, [20]) := by decide +kernel
theorem q_188_13 : mjTb 188 13 = some (.aload_n 0, 1, 1, []) := by decide +kernel
theorem q_188_14 : mjTb 188 14 = some (.invokevirtual 315, 3, 6, [0, 189, 0, 10, 1706, 1708, 59, 142]) := by decide +kernel
theorem q_188_17 : mjTb 188 17 = some (.ifCond .eq 7, 3, 3, [24]) := by decide +kernel
theorem q_188_20 : mjTb 188 20 = some (.aload_n 0, 1, 1, []) := by decide +kernel
theorem q_188_21 : mjTb 188 21 = some (.invokevirtual 278, 3, 6, [0, 192, 0, 10, 1717, 1719, 61, 142]) := by decide +kernel
theorem q_188_24 : mjTb 188 24 = some (.aload_n 0, 1, 1, []) := by decide +kernel
theorem q_188_25 : mjTb 188 25 = some (.invokevirtual 271, 3, 6, [0, 187, 0, 10, 1698, 1700, 57, 142]) := by decide +kernel
theorem q_188_28 : mjTb 188 28 = some (.ifCond .ne 4, 3, 3, [32]) := by decide +kernel
theorem q_188_31 : mjTb 188 31 = some (.return_, 1, 8, []) := by decide +kernel
theorem q_188_32 : mjTb 188 32 = some (.aload_n 0, 1, 1, []) := by decide +kernel
theorem q_188_33 : mjTb 188 33 = some (.invokevirtual 275, 3, 6, [0, 181, 0, 10, 1651, 1653, 55, 142]) := by decide +kernel
theorem q_188_36 : mjTb 188 36 = some (.aload_n 0, 1, 1, []) := by decide +kernel
theorem q_188_37 : mjTb 188 37 = some (.dup, 1, 0, []) := by decide +kernel
theorem q_188_38 : mjTb 188 38 = some (.getfield 299, 3, 4, [10, 48, 1463]) := by decide +kernel
theorem q_188_41 : mjTb 188 41 = some (.lload_n 1, 1, 1, []) := by decide +kernel
theorem q_188_42 : mjTb 188 42 = some (.ldc2_w 183, 3, 5, [495740481637, 1667]) := by decide +kernel
theorem q_188_45 : mjTb 188 45 = some (.lcmp, 1, 0, []) := by decide +kernel
theorem q_188_46 : mjTb 188 46 = some (.ifCond .eq 27, 3, 3, [73]) := by decide +kernel
theorem q_188_49 : mjTb 188 49 = some (.lload_n 1, 1, 1, []) := by decide +kernel
theorem q_188_50 : mjTb 188 50 = some (.ldc2_w 187, 3, 5, [1818846579, 1669]) := by decide +kernel
theorem q_188_53 : mjTb 188 53 = some (.lcmp, 1, 0, []) := by decide +kernel
theorem q_188_54 : mjTb 188 54 = some (.ifCond .eq 19, 3, 3, [73]) := by decide +kernel
theorem q_188_57 : mjTb 188 57 = some (.lload_n 1, 1, 1, []) := by decide +kernel
theorem q_188_58 : mjTb 188 58 = some (.ldc2_w 191, 3, 5, [2002873452, 1671]) := by decide +kernel
theorem q_188_61 : mjTb 188 61 = some (.lcmp, 1, 0, []) := by decide +kernel
theorem q_188_62 : mjTb 188 62 = some (.ifCond .eq 11, 3, 3, [73]) := by decide +kernel
theorem q_188_65 : mjTb 188 65 = some (.lload_n 1, 1, 1, []) := by decide +kernel
theorem q_188_66 : mjTb 188 66 = some (.ldc2_w 197, 3, 5, [1919905645, 1674]) := by decide +kernel
theorem q_188_69 : mjTb 188 69 = some (.lcmp, 1, 0, []) := by decide +kernel
theorem q_188_70 : mjTb 188 70 = some (.ifCond .ne 7, 3, 3, [77]) := by decide +kernel
theorem q_188_73 : mjTb 188 73 = some (.iconst 1, 1, 0, []) := by decide +kernel
theorem q_188_74 : mjTb 188 74 = some (.goto 4, 3, 3, [78]) := by decide +kernel
theorem q_188_77 : mjTb 188 77 = some (.iconst 0, 1, 0, []) := by decide +kernel
theorem q_188_78 : mjTb 188 78 = some (.ior, 1, 0, []) := by decide +kernel
theorem q_188_79 : mjTb 188 79 = some (.putfield 299, 3, 4, [10, 48, 1463]) := by decide +kernel
theorem q_188_82 : mjTb 188 82 = some (.lload_n 1, 1, 1, []) := by decide +kernel
theorem q_188_83 : mjTb 188 83 = some (.ldc2_w 179, 3, 5, [465491092851, 1665]) := by decide +kernel
theorem q_188_86 : mjTb 188 86 = some (.lcmp, 1, 0, []) := by decide +kernel
theorem q_188_87 : mjTb 188 87 = some (.ifCond .ne 20, 3, 3, [107]) := by decide +kernel
theorem q_188_90 : mjTb 188 90 = some (.aload_n 0, 1, 1, []) := by decide +kernel
theorem q_188_91 : mjTb 188 91 = some (.getfield 20, 3, 4, [10, 11, 1426]) := by decide +kernel
theorem q_188_94 : mjTb 188 94 = some (.aload_n 0, 1, 1, []) := by decide +kernel
theorem q_188_95 : mjTb 188 95 = some (.getfield 296, 3, 4, [10, 43, 1458]) := by decide +kernel
theorem q_188_98 : mjTb 188 98 = some (.aload_n 0, 1, 1, []) := by decide +kernel
theorem q_188_99 : mjTb 188 99 = some (.iconst 0, 1, 0, []) := by decide +kernel
theorem q_188_100 : mjTb 188 100 = some (.iconst 1, 1, 0, []) := by decide +kernel
theorem q_188_101 : mjTb 188 101 = some (.bipush 6, 2, 5, []) := by decide +kernel
theorem q_188_103 : mjTb 188 103 = some (.invokevirtual 318, 3, 6, [0, 194, 3, 10, 1725, 1727, 63, 142]) := by decide +kernel
theorem q_188_106 : mjTb 188 106 = some (.iastore, 1, 4, []) := by decide +kernel
theorem q_188_107 : mjTb 188 107 = some (.lload_n 1, 1, 1, []) := by decide +kernel
theorem q_188_108 : mjTb 188 108 = some (.ldc2_w 181, 3, 5, [1919907699, 1666]) := by decide +kernel
theorem q_188_111 : mjTb 188 111 = some (.lcmp, 1, 0, []) := by decide +kernel
theorem q_188_112 : mjTb 188 112 = some (.ifCond .ne 19, 3, 3, [131]) := by decide +kernel
theorem q_188_115 : mjTb 188 115 = some (.aload_n 0, 1, 1, []) := by decide +kernel
theorem q_188_116 : mjTb 188 116 = some (.getfield 24, 3, 4, [10, 12, 1427]) := by decide +kernel
theorem q_188_119 : mjTb 188 119 = some (.aload_n 0, 1, 1, []) := by decide +kernel
theorem q_188_120 : mjTb 188 120 = some (.getfield 296, 3, 4, [10, 43, 1458]) := by decide +kernel
theorem q_188_123 : mjTb 188 123 = some (.aload_n 0, 1, 1, []) := by decide +kernel
theorem q_188_124 : mjTb 188 124 = some (.iconst 1, 1, 0, []) := by decide +kernel
theorem q_188_125 : mjTb 188 125 = some (.iconst 1, 1, 0, []) := by decide +kernel
theorem q_188_126 : mjTb 188 126 = some (.iconst 5, 1, 0, []) := by decide +kernel
theorem q_188_127 : mjTb 188 127 = some (.invokevirtual 318, 3, 6, [0, 194, 3, 10, 1725, 1727, 63, 142]) := by decide +kernel
theorem q_188_130 : mjTb 188 130 = some (.iastore, 1, 4, []) := by decide +kernel
theorem q_188_131 : mjTb 188 131 = some (.lload_n 1, 1, 1, []) := by decide +kernel
theorem q_188_132 : mjTb 188 132 = some (.ldc2_w 183, 3, 5, [495740481637, 1667]) := by decide +kernel
theorem q_188_135 : mjTb 188 135 = some (.lcmp, 1, 0, []) := by decide +kernel
theorem q_188_136 : mjTb 188 136 = some (.ifCond .ne 7, 3, 3, [143]) := by decide +kernel
theorem q_188_139 : mjTb 188 139 = some (.aload_n 0, 1, 1, []) := by decide +kernel
theorem q_188_140 : mjTb 188 140 = some (.invokevirtual 321, 3, 6, [0, 196, 0, 10, 1733, 1735, 65, 142]) := by decide +kernel
theorem q_188_143 : mjTb 188 143 = some (.lload_n 1, 1, 1, []) := by decide +kernel
theorem q_188_144 : mjTb 188 144 = some (.ldc2_w 187, 3, 5, [1818846579, 1669]) := by decide +kernel
theorem q_188_147 : mjTb 188 147 = some (.lcmp, 1, 0, []) := by decide +kernel
theorem q_188_148 : mjTb 188 148 = some (.ifCond .ne 7, 3, 3, [155]) := by decide +kernel
theorem q_188_151 : mjTb 188 151 = some (.aload_n 0, 1, 1, []) := by decide +kernel
theorem q_188_152 : mjTb 188 152 = some (.invokevirtual 324, 3, 6, [0, 199, 0, 10, 1745, 1747, 68, 142]) := by decide +kernel
theorem q_188_155 : mjTb 188 155 = some (.lload_n 1, 1, 1, []) := by decide +kernel
theorem q_188_156 : mjTb 188 156 = some (.ldc2_w 191, 3, 5, [2002873452, 1671]) := by decide +kernel
theorem q_188_159 : mjTb 188 159 = some (.lcmp, 1, 0, []) := by decide +kernel
theorem q_188_160 : mjTb 188 160 = some (.ifCond .ne 7, 3, 3, [167]) := by decide +kernel
theorem q_188_163 : mjTb 188 163 = some (.aload_n 0, 1, 1, []) := by decide +kernel
theorem q_188_164 : mjTb 188 164 = some (.invokevirtual 327, 3, 6, [0, 201, 0, 10, 1753, 1755, 70, 142]) := by decide +kernel
theorem q_188_167 : mjTb 188 167 = some (.lload_n 1, 1, 1, []) := by decide +kernel
theorem q_188_168 : mjTb 188 168 = some (.ldc2_w 197, 3, 5, [1919905645, 1674]) := by decide +kernel
theorem q_188_171 : mjTb 188 171 = some (.lcmp, 1, 0, []) := by decide +kernel
theorem q_188_172 : mjTb 188 172 = some (.ifCond .ne 7, 3, 3, [179]) := by decide +kernel
theorem q_188_175 : mjTb 188 175 = some (.aload_n 0, 1, 1, []) := by decide +kernel
theorem q_188_176 : mjTb 188 176 = some (.invokevirtual 330, 3, 6, [0, 202, 0, 10, 1757, 1759, 71, 142]) := by decide +kernel
theorem q_188_179 : mjTb 188 179 = some (.lload_n 1, 1, 1, []) := by decide +kernel
theorem q_188_180 : mjTb 188 180 = some (.ldc2_w 205, 3, 5, [444351214452, 1678]) := by decide +kernel
theorem q_188_183 : mjTb 188 183 = some (.lcmp, 1, 0, []) := by decide +kernel
theorem q_188_184 : mjTb 188 184 = some (.ifCond .ne 7, 3, 3, [191]) := by decide +kernel
theorem q_188_187 : mjTb 188 187 = some (.aload_n 0, 1, 1, []) := by decide +kernel
theorem q_188_188 : mjTb 188 188 = some (.invokevirtual 333, 3, 6, [0, 205, 0, 10, 1769, 1771, 74, 142]) := by decide +kernel
theorem q_188_191 : mjTb 188 191 = some (.lload_n 1, 1, 1, []) := by decide +kernel
theorem q_188_192 : mjTb 188 192 = some (.ldc2_w 213, 3, 5, [1953067123, 1682]) := by decide +kernel
theorem q_188_195 : mjTb 188 195 = some (.lcmp, 1, 0, []) := by decide +kernel
theorem q_188_196 : mjTb 188 196 = some (.ifCond .ne 7, 3, 3, [203]) := by decide +kernel
theorem q_188_199 : mjTb 188 199 = some (.aload_n 0, 1, 1, []) := by decide +kernel
theorem q_188_200 : mjTb 188 200 = some (.invokevirtual 336, 3, 6, [0, 206, 0, 10, 1773, 1775, 75, 142]) := by decide +kernel
theorem q_188_203 : mjTb 188 203 = some (.lload_n 1, 1, 1, []) := by decide +kernel
theorem q_188_204 : mjTb 188 204 = some (.ldc2_w 215, 3, 5, [439721159795, 1683]) := by decide +kernel
theorem q_188_207 : mjTb 188 207 = some (.lcmp, 1, 0, []) := by decide +kernel
theorem q_188_208 : mjTb 188 208 = some (.ifCond .ne 20, 3, 3, [228]) := by decide +kernel
theorem q_188_211 : mjTb 188 211 = some (.aload_n 0, 1, 1, []) := by decide +kernel
theorem q_188_212 : mjTb 188 212 = some (.getfield 36, 3, 4, [10, 16, 1431]) := by decide +kernel
theorem q_188_215 : mjTb 188 215 = some (.aload_n 0, 1, 1, []) := by decide +kernel
theorem q_188_216 : mjTb 188 216 = some (.getfield 296, 3, 4, [10, 43, 1458]) := by decide +kernel
theorem q_188_219 : mjTb 188 219 = some (.aload_n 0, 1, 1, []) := by decide +kernel
theorem q_188_220 : mjTb 188 220 = some (.iconst 3, 1, 0, []) := by decide +kernel
theorem q_188_221 : mjTb 188 221 = some (.iconst 0, 1, 0, []) := by decide +kernel
theorem q_188_222 : mjTb 188 222 = some (.bipush 9, 2, 5, []) := by decide +kernel
theorem q_188_224 : mjTb 188 224 = some (.invokevirtual 318, 3, 6, [0, 194, 3, 10, 1725, 1727, 63, 142]) := by decide +kernel
theorem q_188_227 : mjTb 188 227 = some (.iastore, 1, 4, []) := by decide +kernel
theorem q_188_228 : mjTb 188 228 = some (.lload_n 1, 1, 1, []) := by decide +kernel
theorem q_188_229 : mjTb 188 229 = some (.ldc2_w 217, 3, 5, [2003398244, 1684]) := by decide +kernel
theorem q_188_232 : mjTb 188 232 = some (.lcmp, 1, 0, []) := by decide +kernel
theorem q_188_233 : mjTb 188 233 = some (.ifCond .ne 20, 3, 3, [253]) := by decide +kernel
theorem q_188_236 : mjTb 188 236 = some (.aload_n 0, 1, 1, []) := by decide +kernel
theorem q_188_237 : mjTb 188 237 = some (.getfield 39, 3, 4, [10, 17, 1432]) := by decide +kernel
theorem q_188_240 : mjTb 188 240 = some (.aload_n 0, 1, 1, []) := by decide +kernel
theorem q_188_241 : mjTb 188 241 = some (.getfield 296, 3, 4, [10, 43, 1458]) := by decide +kernel
theorem q_188_244 : mjTb 188 244 = some (.aload_n 0, 1, 1, []) := by decide +kernel
theorem q_188_245 : mjTb 188 245 = some (.iconst 4, 1, 0, []) := by decide +kernel
theorem q_188_246 : mjTb 188 246 = some (.iconst 0, 1, 0, []) := by decide +kernel
theorem q_188_247 : mjTb 188 247 = some (.bipush 100, 2, 5, []) := by decide +kernel
theorem q_188_249 : mjTb 188 249 = some (.invokevirtual 318, 3, 6, [0, 194, 3, 10, 1725, 1727, 63, 142]) := by decide +kernel
theorem q_188_252 : mjTb 188 252 = some (.iastore, 1, 4, []) := by decide +kernel
theorem q_188_253 : mjTb 188 253 = some (.lload_n 1, 1, 1, []) := by decide +kernel
theorem q_188_254 : mjTb 188 254 = some (.ldc2_w 219, 3, 5, [1685217655, 1685]) := by decide +kernel
theorem q_188_257 : mjTb 188 257 = some (.lcmp, 1, 0, []) := by decide +kernel
theorem q_188_258 : mjTb 188 258 = some (.ifCond .ne 21, 3, 3, [279]) := by decide +kernel
theorem q_188_261 : mjTb 188 261 = some (.aload_n 0, 1, 1, []) := by decide +kernel
theorem q_188_262 : mjTb 188 262 = some (.getfield 42, 3, 4, [10, 18, 1433]) := by decide +kernel
theorem q_188_265 : mjTb 188 265 = some (.aload_n 0, 1, 1, []) := by decide +kernel
theorem q_188_266 : mjTb 188 266 = some (.getfield 296, 3, 4, [10, 43, 1458]) := by decide +kernel
theorem q_188_269 : mjTb 188 269 = some (.aload_n 0, 1, 1, []) := by decide +kernel
theorem q_188_270 : mjTb 188 270 = some (.iconst 5, 1, 0, []) := by decide +kernel
theorem q_188_271 : mjTb 188 271 = some (.iconst 0, 1, 0, []) := by decide +kernel
theorem q_188_272 : mjTb 188 272 = some (.sipush 999, 3, 5, []) := by decide +kernel
theorem q_188_275 : mjTb 188 275 = some (.invokevirtual 318, 3, 6, [0, 194, 3, 10, 1725, 1727, 63, 142]) := by decide +kernel
theorem q_188_278 : mjTb 188 278 = some (.iastore, 1, 4, []) := by decide +kernel
theorem q_188_279 : mjTb 188 279 = some (.aload_n 0, 1, 1, []) := by decide +kernel
theorem q_188_280 : mjTb 188 280 = some (.aload_n 0, 1, 1, []) := by decide +kernel
theorem q_188_281 : mjTb 188 281 = some (.bipush 59, 2, 5, []) := by decide +kernel
theorem q_188_283 : mjTb 188 283 = some (.invokevirtual 339, 3, 6, [0, 210, 1, 10, 1789, 1791, 79, 142]) := by decide +kernel
theorem q_188_286 : mjTb 188 286 = some (.invokevirtual 288, 3, 6, [0, 198, 1, 10, 1741, 1743, 67, 142]) := by decide +kernel
theorem q_188_289 : mjTb 188 289 = some (.return_, 1, 8, []) := by decide +kernel
theorem q_189_0 : mjTb 189 0 = some (.aload_n 0, 1, 1, []) := by decide +kernel
theorem q_189_1 : mjTb 189 1 = some (.ldc2_w 179, 3, 5, [465491092851, 1665]) := by decide +kernel
theorem q_189_4 : mjTb 189 4 = some (.invokevirtual 285, 3, 6, [0, 190, 1, 10, 1710, 1712, 60, 142]) := by decide +kernel
theorem q_189_7 : mjTb 189 7 = some (.ifCond .eq 32, 3, 3, [39]) := by decide +kernel
theorem q_189_10 : mjTb 189 10 = some (.aload_n 0, 1, 1, []) := by decide +kernel
theorem q_189_11 : mjTb 189 11 = some (.getfield 299, 3, 4, [10, 48, 1463]) := by decide +kernel
theorem q_189_14 : mjTb 189 14 = some (.ifCond .ne 19, 3, 3, [33]) := by decide +kernel
theorem q_189_17 : mjTb 189 17 = some (.aload_n 0, 1, 1, []) := by decide +kernel
theorem q_189_18 : mjTb 189 18 = some (.getfield 45, 3, 4, [10, 19, 1434]) := by decide +kernel
theorem q_189_21 : mjTb 189 21 = some (.aload_n 0, 1, 1, []) := by decide +kernel
theorem q_189_22 : mjTb 189 22 = some (.getfield 296, 3, 4, [10, 43, 1458]) := by decide +kernel
theorem q_189_25 : mjTb 189 25 = some (.iaload, 1, 4, []) := by decide +kernel
theorem q_189_26 : mjTb 189 26 = some (.iconst 0, 1, 0, []) := by decide +kernel
theorem q_189_27 : mjTb 189 27 = some (.invokestatic 281, 3, 6, [0, 191, 2, 0, 1714, 1715, 142]) := by decide +kernel
theorem q_189_30 : mjTb 189 30 = some (.ifCond .eq 7, 3, 3, [37]) := by decide +kernel
theorem q_189_33 : mjTb 189 33 = some (.iconst 1, 1, 0, []) := by decide +kernel
theorem q_189_34 : mjTb 189 34 = some (.goto 4, 3, 3, [38]) := by decide +kernel
theorem q_189_37 : mjTb 189 37 = some (.iconst 0, 1, 0, []) := by decide +kernel
theorem q_189_38 : mjTb 189 38 = some (.ireturn, 1, 8, []) := by decide +kernel
theorem q_189_39 : mjTb 189 39 = some (.aload_n 0, 1, 1, []) := by decide +kernel
theorem q_189_40 : mjTb 189 40 = some (.ldc2_w 181, 3, 5, [1919907699, 1666]) := by decide +kernel
theorem q_189_43 : mjTb 189 43 = some (.invokevirtual 285, 3, 6, [0, 190, 1, 10, 1710, 1712, 60, 142]) := by decide +kernel
theorem q_189_46 : mjTb 189 46 = some (.ifCond .eq 32, 3, 3, [78]) := by decide +kernel
theorem q_189_49 : mjTb 189 49 = some (.aload_n 0, 1, 1, []) := by decide +kernel
theorem q_189_50 : mjTb 189 50 = some (.getfield 299, 3, 4, [10, 48, 1463]) := by decide +kernel
theorem q_189_53 : mjTb 189 53 = some (.ifCond .ne 19, 3, 3, [72]) := by decide +kernel
theorem q_189_56 : mjTb 189 56 = some (.aload_n 0, 1, 1, []) := by decide +kernel
theorem q_189_57 : mjTb 189 57 = some (.getfield 45, 3, 4, [10, 19, 1434]) := by decide +kernel
theorem q_189_60 : mjTb 189 60 = some (.aload_n 0, 1, 1, []) := by decide +kernel
theorem q_189_61 : mjTb 189 61 = some (.getfield 296, 3, 4, [10, 43, 1458]) := by decide +kernel
theorem q_189_64 : mjTb 189 64 = some (.iaload, 1, 4, []) := by decide +kernel
theorem q_189_65 : mjTb 189 65 = some (.iconst 1, 1, 0, []) := by decide +kernel
theorem q_189_66 : mjTb 189 66 = some (.invokestatic 281, 3, 6, [0, 191, 2, 0, 1714, 1715, 142]) := by decide +kernel
theorem q_189_69 : mjTb 189 69 = some (.ifCond .eq 7, 3, 3, [76]) := by decide +kernel
theorem q_189_72 : mjTb 189 72 = some (.iconst 1, 1, 0, []) := by decide +kernel
theorem q_189_73 : mjTb 189 73 = some (.goto 4, 3, 3, [77]) := by decide +kernel
theorem q_189_76 : mjTb 189 76 = some (.iconst 0, 1, 0, []) := by decide +kernel
theorem q_189_77 : mjTb 189 77 = some (.ireturn, 1, 8, []) := by decide +kernel
theorem q_189_78 : mjTb 189 78 = some (.aload_n 0, 1, 1, []) := by decide +kernel
theorem q_189_79 : mjTb 189 79 = some (.ldc2_w 183, 3, 5, [495740481637, 1667]) := by decide +kernel
theorem q_189_82 : mjTb 189 82 = some (.invokevirtual 285, 3, 6, [0, 190, 1, 10, 1710, 1712, 60, 142]) := by decide +kernel
theorem q_189_85 : mjTb 189 85 = some (.ifCond .ne 23, 3, 3, [108]) := by decide +kernel
theorem q_189_88 : mjTb 189 88 = some (.aload_n 0, 1, 1, []) := by decide +kernel
theorem q_189_89 : mjTb 189 89 = some (.ldc2_w 187, 3, 5, [1818846579, 1669]) := by decide +kernel
theorem q_189_92 : mjTb 189 92 = some (.invokevirtual 285, 3, 6, [0, 190, 1, 10, 1710, 1712, 60, 142]) := by decide +kernel
theorem q_189_95 : mjTb 189 95 = some (.ifCond .ne 13, 3, 3, [108]) := by decide +kernel
theorem q_189_98 : mjTb 189 98 = some (.aload_n 0, 1, 1, []) := by decide +kernel
theorem q_189_99 : mjTb 189 99 = some (.ldc2_w 191, 3, 5, [2002873452, 1671]) := by decide +kernel
theorem q_189_102 : mjTb 189 102 = some (.invokevirtual 285, 3, 6, [0, 190, 1, 10, 1710, 1712, 60, 142]) := by decide +kernel
theorem q_189_105 : mjTb 189 105 = some (.ifCond .eq 5, 3, 3, [110]) := by decide +kernel
theorem q_189_108 : mjTb 189 108 = some (.iconst 0, 1, 0, []) := by decide +kernel
theorem q_189_109 : mjTb 189 109 = some (.ireturn, 1, 8, []) := by decide +kernel
theorem q_189_110 : mjTb 189 110 = some (.aload_n 0, 1, 1, []) := by decide +kernel
theorem q_189_111 : mjTb 189 111 = some (.ldc2_w 197, 3, 5, [1919905645, 1674]) := by decide +kernel
theorem q_189_114 : mjTb 189 114 = some (.invokevirtual 285, 3, 6, [0, 190, 1, 10, 1710, 1712, 60, 142]) := by decide +kernel
theorem q_189_117 : mjTb 189 117 = some (.ifCond .eq 22, 3, 3, [139]) := by decide +kernel
theorem q_189_120 : mjTb 189 120 = some (.aload_n 0, 1, 1, []) := by decide +kernel
theorem q_189_121 : mjTb 189 121 = some (.getfield 27, 3, 4, [10, 13, 1428]) := by decide +kernel
theorem q_189_124 : mjTb 189 124 = some (.aload_n 0, 1, 1, []) := by decide +kernel
theorem q_189_125 : mjTb 189 125 = some (.getfield 296, 3, 4, [10, 43, 1458]) := by decide +kernel
theorem q_189_128 : mjTb 189 128 = some (.iaload, 1, 4, []) := by decide +kernel
theorem q_189_129 : mjTb 189 129 = some (.iconst 5, 1, 0, []) := by decide +kernel
theorem q_189_130 : mjTb 189 130 = some (.if_icmp .ne 7, 3, 3, [137]) := by decide +kernel
theorem q_189_133 : mjTb 189 133 = some (.iconst 1, 1, 0, []) := by decide +kernel
theorem q_189_134 : mjTb 189 134 = some (.goto 4, 3, 3, [138]) := by decide +kernel
theorem q_189_137 : mjTb 189 137 = some (.iconst 0, 1, 0, []) := by decide +kernel
theorem q_189_138 : mjTb 189 138 = some (.ireturn, 1, 8, []) := by decide +kernel
theorem q_189_139 : mjTb 189 139 = some (.aload_n 0, 1, 1, []) := by decide +kernel
theorem q_189_140 : mjTb 189 140 = some (.ldc2_w 205, 3, 5, [444351214452, 1678]) := by decide +kernel
theorem q_189_143 : mjTb 189 143 = some (.invokevirtual 285, 3, 6, [0, 190, 1, 10, 1710, 1712, 60, 142]) := by decide +kernel
theorem q_189_146 : mjTb 189 146 = some (.ifCond .eq 23, 3, 3, [169]) := by decide +kernel
theorem q_189_149 : mjTb 189 149 = some (.aload_n 0, 1, 1, []) := by decide +kernel
theorem q_189_150 : mjTb 189 150 = some (.getfield 30, 3, 4, [10, 14, 1429]) := by decide +kernel
theorem q_189_153 : mjTb 189 153 = some (.aload_n 0, 1, 1, []) := by decide +kernel
theorem q_189_154 : mjTb 189 154 = some (.getfield 296, 3, 4, [10, 43, 1458]) := by decide +kernel
theorem q_189_157 : mjTb 189 157 = some (.iaload, 1, 4, []) := by decide +kernel
theorem q_189_158 : mjTb 189 158 = some (.bipush 6, 2, 5, []) := by decide +kernel
theorem q_189_160 : mjTb 189 160 = some (.if_icmp .ne 7, 3, 3, [167]) := by decide +kernel
theorem q_189_163 : mjTb 189 163 = some (.iconst 1, 1, 0, []) := by decide +kernel
theorem q_189_164 : mjTb 189 164 = some (.goto 4, 3, 3, [168]) := by decide +kernel
theorem q_189_167 : mjTb 189 167 = some (.iconst 0, 1, 0, []) := by decide +kernel
theorem q_189_168 : mjTb 189 168 = some (.ireturn, 1, 8, []) := by decide +kernel
theorem q_189_169 : mjTb 189 169 = some (.aload_n 0, 1, 1, []) := by decide +kernel
theorem q_189_170 : mjTb 189 170 = some (.ldc2_w 213, 3, 5, [1953067123, 1682]) := by decide +kernel
theorem q_189_173 : mjTb 189 173 = some (.invokevirtual 285, 3, 6, [0, 190, 1, 10, 1710, 1712, 60, 142]) := by decide +kernel
theorem q_189_176 : mjTb 189 176 = some (.ifCond .eq 17, 3, 3, [193]) := by decide +kernel
theorem q_189_179 : mjTb 189 179 = some (.aload_n 0, 1, 1, []) := by decide +kernel
theorem q_189_180 : mjTb 189 180 = some (.getfield 45, 3, 4, [10, 19, 1434]) := by decide +kernel
theorem q_189_183 : mjTb 189 183 = some (.aload_n 0, 1, 1, []) := by decide +kernel
theorem q_189_184 : mjTb 189 184 = some (.getfield 296, 3, 4, [10, 43, 1458]) := by decide +kernel
theorem q_189_187 : mjTb 189 187 = some (.iaload, 1, 4, []) := by decide +kernel
theorem q_189_188 : mjTb 189 188 = some (.iconst 2, 1, 0, []) := by decide +kernel
theorem q_189_189 : mjTb 189 189 = some (.invokestatic 281, 3, 6, [0, 191, 2, 0, 1714, 1715, 142]) := by decide +kernel
theorem q_189_192 : mjTb 189 192 = some (.ireturn, 1, 8, []) := by decide +kernel
theorem q_189_193 : mjTb 189 193 = some (.aload_n 0, 1, 1, []) := by decide +kernel
theorem q_189_194 : mjTb 189 194 = some (.ldc2_w 215, 3, 5, [439721159795, 1683]) := by decide +kernel
theorem q_189_197 : mjTb 189 197 = some (.invokevirtual 285, 3, 6, [0, 190, 1, 10, 1710, 1712, 60, 142]) := by decide +kernel
theorem q_189_200 : mjTb 189 200 = some (.ifCond .eq 17, 3, 3, [217]) := by decide +kernel
theorem q_189_203 : mjTb 189 203 = some (.aload_n 0, 1, 1, []) := by decide +kernel
theorem q_189_204 : mjTb 189 204 = some (.getfield 45, 3, 4, [10, 19, 1434]) := by decide +kernel
theorem q_189_207 : mjTb 189 207 = some (.aload_n 0, 1, 1, []) := by decide +kernel
theorem q_189_208 : mjTb 189 208 = some (.getfield 296, 3, 4, [10, 43, 1458]) := by decide +kernel
theorem q_189_211 : mjTb 189 211 = some (.iaload, 1, 4, []) := by decide +kernel
theorem q_189_212 : mjTb 189 212 = some (.iconst 3, 1, 0, []) := by decide +kernel
theorem q_189_213 : mjTb 189 213 = some (.invokestatic 281, 3, 6, [0, 191, 2, 0, 1714, 1715, 142]) := by decide +kernel
theorem q_189_216 : mjTb 189 216 = some (.ireturn, 1, 8, []) := by decide +kernel
theorem q_189_217 : mjTb 189 217 = some (.aload_n 0, 1, 1, []) := by decide +kernel
theorem q_189_218 : mjTb 189 218 = some (.ldc2_w 217, 3, 5, [2003398244, 1684]) := by decide +kernel
theorem q_189_221 : mjTb 189 221 = some (.invokevirtual 285, 3, 6, [0, 190, 1, 10, 1710, 1712, 60, 142]) := by decide +kernel
theorem q_189_224 : mjTb 189 224 = some (.ifCond .eq 17, 3, 3, [241]) := by decide +kernel
theorem q_189_227 : mjTb 189 227 = some (.aload_n 0, 1, 1, []) := by decide +kernel
theorem q_189_228 : mjTb 189 228 = some (.getfield 45, 3, 4, [10, 19, 1434]) := by decide +kernel
theorem q_189_231 : mjTb 189 231 = some (.aload_n 0, 1, 1, []) := by decide +kernel
theorem q_189_232 : mjTb 189 232 = some (.getfield 296, 3, 4, [10, 43, 1458]) := by decide +kernel
theorem q_189_235 : mjTb 189 235 = some (.iaload, 1, 4, []) := by decide +kernel
theorem q_189_236 : mjTb 189 236 = some (.iconst 4, 1, 0, []) := by decide +kernel
theorem q_189_237 : mjTb 189 237 = some (.invokestatic 281, 3, 6, [0, 191, 2, 0, 1714, 1715, 142]) := by decide +kernel
theorem q_189_240 : mjTb 189 240 = some (.ireturn, 1, 8, []) := by decide +kernel
theorem q_189_241 : mjTb 189 241 = some (.aload_n 0, 1, 1, []) := by decide +kernel
theorem q_189_242 : mjTb 189 242 = some (.ldc2_w 219, 3, 5, [1685217655, 1685]) := by decide +kernel
theorem q_189_245 : mjTb 189 245 = some (.invokevirtual 285, 3, 6, [0, 190, 1, 10, 1710, 1712, 60, 142]) := by decide +kernel
theorem q_189_248 : mjTb 189 248 = some (.ifCond .eq 19, 3, 3, [267]) := by decide +kernel
theorem q_189_251 : mjTb 189 251 = some (.aload_n 0, 1, 1, []) := by decide +kernel
theorem q_189_252 : mjTb 189 252 = some (.getfield 45, 3, 4, [10, 19, 1434]) := by decide +kernel
theorem q_189_255 : mjTb 189 255 = some (.aload_n 0, 1, 1, []) := by decide +kernel
theorem q_189_256 : mjTb 189 256 = some (.getfield 296, 3, 4, [10, 43, 1458]) := by decide +kernel
theorem q_189_259 : mjTb 189 259 = some (.iaload, 1, 4, []) := by decide +kernel
theorem q_189_260 : mjTb 189 260 = some (.iconst 5, 1, 0, []) := by decide +kernel
theorem q_189_261 : mjTb 189 261 = some (.invokestatic 281, 3, 6, [0, 191, 2, 0, 1714, 1715, 142]) := by decide +kernel
theorem q_189_264 : mjTb 189 264 = some (.ifCond .eq 7, 3, 3, [271]) := by decide +kernel
theorem q_189_267 : mjTb 189 267 = some (.iconst 1, 1, 0, []) := by decide +kernel
theorem q_189_268 : mjTb 189 268 = some (.goto 4, 3, 3, [272]) := by decide +kernel
theorem q_189_271 : mjTb 189 271 = some (.iconst 0, 1, 0, []) := by decide +kernel
theorem q_189_272 : mjTb 189 272 = some (.ireturn, 1, 8, []) := by decide +kernel
theorem q_191_0 : mjTb 191 0 = some (.iload_n 0, 1, 1, []) := by decide +kernel
theorem q_191_1 : mjTb 191 1 = some (.iload_n 1, 1, 1, []) := by decide +kernel
theorem q_191_2 : mjTb 191 2 = some (.ishr, 1, 0, []) := by decide +kernel
theorem q_191_3 : mjTb 191 3 = some (.iconst 1, 1, 0, []) := by decide +kernel
theorem q_191_4 : mjTb 191 4 = some (.iand, 1, 0, []) := by decide +kernel
theorem q_191_5 : mjTb 191 5 = some (.iconst 1, 1, 0, []) := by decide +kernel
theorem q_191_6 : mjTb 191 6 = some (.if_icmp .ne 7, 3, 3, [13]) := by decide +kernel
theorem q_191_9 : mjTb 191 9 = some (.iconst 1, 1, 0, []) := by decide +kernel
theorem q_191_10 : mjTb 191 10 = some (.goto 4, 3, 3, [14]) := by decide +kernel
theorem q_191_13 : mjTb 191 13 = some (.iconst 0, 1, 0, []) := by decide +kernel
theorem q_191_14 : mjTb 191 14 = some (.ireturn, 1, 8, []) := by decide +kernel
theorem q_194_0 : mjTb 194 0 = some (.aload_n 0, 1, 1, []) := by decide +kernel
theorem q_194_1 : mjTb 194 1 = some (.getfield 45, 3, 4, [10, 19, 1434]) := by decide +kernel
theorem q_194_4 : mjTb 194 4 = some (.aload_n 0, 1, 1, []) := by decide +kernel
theorem q_194_5 : mjTb 194 5 = some (.getfield 296, 3, 4, [10, 43, 1458]) := by decide +kernel
theorem q_194_8 : mjTb 194 8 = some (.dup2, 1, 0, []) := by decide +kernel
theorem q_194_9 : mjTb 194 9 = some (.iaload, 1, 4, []) := by decide +kernel
theorem q_194_10 : mjTb 194 10 = some (.iconst 1, 1, 0, []) := by decide +kernel
theorem q_194_11 : mjTb 194 11 = some (.iload_n 1, 1, 1, []) := by decide +kernel
theorem q_194_12 : mjTb 194 12 = some (.ishl, 1, 0, []) := by decide +kernel
theorem q_194_13 : mjTb 194 13 = some (.ior, 1, 0, []) := by decide +kernel
theorem q_194_14 : mjTb 194 14 = some (.iastore, 1, 4, []) := by decide +kernel
theorem q_194_15 : mjTb 194 15 = some (.aload_n 0, 1, 1, []) := by decide +kernel
theorem q_194_16 : mjTb 194 16 = some (.iload_n 2, 1, 1, []) := by decide +kernel
theorem q_194_17 : mjTb 194 17 = some (.iload_n 3, 1, 1, []) := by decide +kernel
theorem q_194_18 : mjTb 194 18 = some (.iconst 0, 1, 0, []) := by decide +kernel
theorem q_194_19 : mjTb 194 19 = some (.invokevirtual 292, 3, 6, [0, 195, 3, 10, 1729, 1731, 64, 142]) := by decide +kernel
theorem q_194_22 : mjTb 194 22 = some (.ireturn, 1, 8, []) := by decide +kernel
theorem q_195_0 : mjTb 195 0 = some (.aload_n 0, 1, 1, []) := by decide +kernel
theorem q_196_0 : mjTb 196 0 = some (.aload_n 0, 1, 1, []) := by decide +kernel
theorem q_198_1 : mjTb 198 1 = some (.invokevirtual 271, 3, 6, [0, 187, 0, 10, 1698, 1700, 57, 142]) := by decide +kernel
theorem q_198_4 : mjTb 198 4 = some (.ifCond .ne 4, 3, 3, [8]) := by decide +kernel
theorem q_198_7 : mjTb 198 7 = some (.return_, 1, 8, []) := by decide +kernel
theorem q_199_0 : mjTb 199 0 = some (.aload_n 0, 1, 1, []) := by decide +kernel
theorem q_201_0 : mjTb 201 0 = some (.aload_n 0, 1, 1, []) := by decide +kernel
theorem q_202_0 : mjTb 202 0 = some (.iconst 5, 1, 0, []) := by decide +kernel
theorem q_205_0 : mjTb 205 0 = some (.bipush 6, 2, 5, []) := by decide +kernel
