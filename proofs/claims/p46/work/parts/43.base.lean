/-! ===== more places and instructions ===== -/
theorem c_3 : (3 : Int32).toInt = 3 := rfl
theorem c_4 : (4 : Int32).toInt = 4 := rfl
theorem c_5 : (5 : Int32).toInt = 5 := rfl
theorem c_6 : (6 : Int32).toInt = 6 := rfl
theorem c_7 : (7 : Int32).toInt = 7 := rfl
theorem c_8 : (8 : Int32).toInt = 8 := rfl
theorem c_10 : (10 : Int32).toInt = 10 := rfl
theorem c_32 : (32 : Int32).toInt = 32 := rfl
theorem c_37 : (37 : Int32).toInt = 37 := rfl
theorem c_38 : (38 : Int32).toInt = 38 := rfl
theorem c_41 : (41 : Int32).toInt = 41 := rfl
theorem c_42 : (42 : Int32).toInt = 42 := rfl
theorem c_43 : (43 : Int32).toInt = 43 := rfl
theorem c_45 : (45 : Int32).toInt = 45 := rfl
theorem c_47 : (47 : Int32).toInt = 47 := rfl
theorem c_48 : (48 : Int32).toInt = 48 := rfl
theorem c_57 : (57 : Int32).toInt = 57 := rfl
theorem c_60 : (60 : Int32).toInt = 60 := rfl
theorem c_61 : (61 : Int32).toInt = 61 := rfl
theorem c_62 : (62 : Int32).toInt = 62 := rfl
theorem c_98 : (98 : Int32).toInt = 98 := rfl
theorem c_104 : (104 : Int32).toInt = 104 := rfl
theorem c_110 : (110 : Int32).toInt = 110 := rfl
theorem c_111 : (111 : Int32).toInt = 111 := rfl
theorem c_114 : (114 : Int32).toInt = 114 := rfl
theorem c_115 : (115 : Int32).toInt = 115 := rfl
theorem c_116 : (116 : Int32).toInt = 116 := rfl
theorem c_124 : (124 : Int32).toInt = 124 := rfl
theorem c_255 : (255 : Int32).toInt = 255 := rfl
theorem ro_242 : m4S.1 242 = 243 := by decide +kernel
theorem ro_247 : m4S.1 247 = 248 := by decide +kernel
theorem ro_251 : m4S.1 251 = 252 := by decide +kernel
theorem ro_271 : m4S.1 271 = 272 := by decide +kernel
theorem ro_272 : m4S.1 272 = 273 := by decide +kernel
theorem kd_243 : m4S.2.1 243 = 101 := by decide +kernel
theorem ln_243 : m4S.2.2.1 243 = 1600 := by decide +kernel
theorem kd_248 : m4S.2.1 248 = 100 := by decide +kernel
theorem ln_248 : m4S.2.2.1 248 = 2 := by decide +kernel
theorem kd_252 : m4S.2.1 252 = 100 := by decide +kernel
theorem ln_252 : m4S.2.2.1 252 = 2 := by decide +kernel
theorem kd_272 : m4S.2.1 272 = 100 := by decide +kernel
theorem ln_272 : m4S.2.2.1 272 = 90 := by decide +kernel
theorem kd_273 : m4S.2.1 273 = 100 := by decide +kernel
theorem ln_273 : m4S.2.2.1 273 = 90 := by decide +kernel
theorem ty_241_1 : m4S.2.2.2 241 1 = (3, ((242 : Nat) : Int), 242) := by decide +kernel
theorem ty_241_3 : m4S.2.2.2 241 3 = (0, 0, 1600) := by decide +kernel
theorem ty_241_4 : m4S.2.2.2 241 4 = (0, 0, 5) := by decide +kernel
theorem ty_241_6 : m4S.2.2.2 241 6 = (0, 0, 1600) := by decide +kernel
theorem ty_241_7 : m4S.2.2.2 241 7 = (0, 0, 1601) := by decide +kernel
theorem ty_241_8 : m4S.2.2.2 241 8 = (0, 0, 5) := by decide +kernel
theorem ty_241_9 : m4S.2.2.2 241 9 = (0, 0, 9999) := by decide +kernel
theorem ty_241_15 : m4S.2.2.2 241 15 = (3, ((247 : Nat) : Int), 247) := by decide +kernel
theorem ty_241_19 : m4S.2.2.2 241 19 = (3, ((251 : Nat) : Int), 251) := by decide +kernel
theorem ty_241_39 : m4S.2.2.2 241 39 = (3, ((271 : Nat) : Int), 271) := by decide +kernel
theorem ty_241_40 : m4S.2.2.2 241 40 = (3, ((272 : Nat) : Int), 272) := by decide +kernel
theorem ty_241_43 : m4S.2.2.2 241 43 = (0, 0, 1) := by decide +kernel
theorem ty_241_44 : m4S.2.2.2 241 44 = (0, 0, 1120) := by decide +kernel
theorem ty_241_45 : m4S.2.2.2 241 45 = (0, 0, 7) := by decide +kernel
theorem ty_241_46 : m4S.2.2.2 241 46 = (0, 0, 90) := by decide +kernel
theorem ty_241_47 : m4S.2.2.2 241 47 = (0, 0, 30) := by decide +kernel
theorem ta_243 (j : Nat) : m4S.2.2.2 243 j = (0, (-128), 127) := (m4Un_ok 243 j (by decide +kernel)).trans (by decide +kernel)
theorem ar_243 {w : MjW} (hT : mjTyd m4S w) {a j : Nat} (h0 : m4S.1 a = 243) (hj : j < 1600) : mjFld w a j = some (.int (m4X w a j)) ∧ (-128) ≤ (m4X w a j).toInt ∧ (m4X w a j).toInt ≤ 127 := m4_int hT h0 (by decide) ln_243 hj (ta_243 j)
theorem ta_248 (j : Nat) : m4S.2.2.2 248 j = (0, (-2147483648), 2147483647) := (m4Un_ok 248 j (by decide +kernel)).trans (by decide +kernel)
theorem ar_248 {w : MjW} (hT : mjTyd m4S w) {a j : Nat} (h0 : m4S.1 a = 248) (hj : j < 2) : mjFld w a j = some (.int (m4X w a j)) ∧ (-2147483648) ≤ (m4X w a j).toInt ∧ (m4X w a j).toInt ≤ 2147483647 := m4_int hT h0 (by decide) ln_248 hj (ta_248 j)
theorem ta_252 (j : Nat) : m4S.2.2.2 252 j = (0, 0, 63) := (m4Un_ok 252 j (by decide +kernel)).trans (by decide +kernel)
theorem ar_252 {w : MjW} (hT : mjTyd m4S w) {a j : Nat} (h0 : m4S.1 a = 252) (hj : j < 2) : mjFld w a j = some (.int (m4X w a j)) ∧ 0 ≤ (m4X w a j).toInt ∧ (m4X w a j).toInt ≤ 63 := m4_int hT h0 (by decide) ln_252 hj (ta_252 j)
theorem ta_272 (j : Nat) : m4S.2.2.2 272 j = (0, (-2147483648), 2147483647) := (m4Un_ok 272 j (by decide +kernel)).trans (by decide +kernel)
theorem ar_272 {w : MjW} (hT : mjTyd m4S w) {a j : Nat} (h0 : m4S.1 a = 272) (hj : j < 90) : mjFld w a j = some (.int (m4X w a j)) ∧ (-2147483648) ≤ (m4X w a j).toInt ∧ (m4X w a j).toInt ≤ 2147483647 := m4_int hT h0 (by decide) ln_272 hj (ta_272 j)
theorem ta_273 (j : Nat) : m4S.2.2.2 273 j = (0, (-2147483648), 2147483647) := (m4Un_ok 273 j (by decide +kernel)).trans (by decide +kernel)
theorem ar_273 {w : MjW} (hT : mjTyd m4S w) {a j : Nat} (h0 : m4S.1 a = 273) (hj : j < 90) : mjFld w a j = some (.int (m4X w a j)) ∧ (-2147483648) ≤ (m4X w a j).toInt ∧ (m4X w a j).toInt ≤ 2147483647 := m4_int hT h0 (by decide) ln_273 hj (ta_273 j)
theorem fi_240_3 {w : MjW} (hT : mjTyd m4S w) : mjFld w 240 3 = some (.int (m4X w 240 3)) ∧ 0 ≤ (m4X w 240 3).toInt ∧ (m4X w 240 3).toInt ≤ 1600 := m4_int hT ro_240 (by decide) ln_241 (by decide) ty_241_3
theorem fi_240_4 {w : MjW} (hT : mjTyd m4S w) : mjFld w 240 4 = some (.int (m4X w 240 4)) ∧ 0 ≤ (m4X w 240 4).toInt ∧ (m4X w 240 4).toInt ≤ 5 := m4_int hT ro_240 (by decide) ln_241 (by decide) ty_241_4
theorem fi_240_6 {w : MjW} (hT : mjTyd m4S w) : mjFld w 240 6 = some (.int (m4X w 240 6)) ∧ 0 ≤ (m4X w 240 6).toInt ∧ (m4X w 240 6).toInt ≤ 1600 := m4_int hT ro_240 (by decide) ln_241 (by decide) ty_241_6
theorem fi_240_7 {w : MjW} (hT : mjTyd m4S w) : mjFld w 240 7 = some (.int (m4X w 240 7)) ∧ 0 ≤ (m4X w 240 7).toInt ∧ (m4X w 240 7).toInt ≤ 1601 := m4_int hT ro_240 (by decide) ln_241 (by decide) ty_241_7
theorem fi_240_8 {w : MjW} (hT : mjTyd m4S w) : mjFld w 240 8 = some (.int (m4X w 240 8)) ∧ 0 ≤ (m4X w 240 8).toInt ∧ (m4X w 240 8).toInt ≤ 5 := m4_int hT ro_240 (by decide) ln_241 (by decide) ty_241_8
theorem fi_240_9 {w : MjW} (hT : mjTyd m4S w) : mjFld w 240 9 = some (.int (m4X w 240 9)) ∧ 0 ≤ (m4X w 240 9).toInt ∧ (m4X w 240 9).toInt ≤ 9999 := m4_int hT ro_240 (by decide) ln_241 (by decide) ty_241_9
theorem fi_240_43 {w : MjW} (hT : mjTyd m4S w) : mjFld w 240 43 = some (.int (m4X w 240 43)) ∧ 0 ≤ (m4X w 240 43).toInt ∧ (m4X w 240 43).toInt ≤ 1 := m4_int hT ro_240 (by decide) ln_241 (by decide) ty_241_43
theorem fi_240_44 {w : MjW} (hT : mjTyd m4S w) : mjFld w 240 44 = some (.int (m4X w 240 44)) ∧ 0 ≤ (m4X w 240 44).toInt ∧ (m4X w 240 44).toInt ≤ 1120 := m4_int hT ro_240 (by decide) ln_241 (by decide) ty_241_44
theorem fi_240_45 {w : MjW} (hT : mjTyd m4S w) : mjFld w 240 45 = some (.int (m4X w 240 45)) ∧ 0 ≤ (m4X w 240 45).toInt ∧ (m4X w 240 45).toInt ≤ 7 := m4_int hT ro_240 (by decide) ln_241 (by decide) ty_241_45
theorem fi_240_46 {w : MjW} (hT : mjTyd m4S w) : mjFld w 240 46 = some (.int (m4X w 240 46)) ∧ 0 ≤ (m4X w 240 46).toInt ∧ (m4X w 240 46).toInt ≤ 90 := m4_int hT ro_240 (by decide) ln_241 (by decide) ty_241_46
theorem fi_240_47 {w : MjW} (hT : mjTyd m4S w) : mjFld w 240 47 = some (.int (m4X w 240 47)) ∧ 0 ≤ (m4X w 240 47).toInt ∧ (m4X w 240 47).toInt ≤ 30 := m4_int hT ro_240 (by decide) ln_241 (by decide) ty_241_47
theorem fr_240_1 {w : MjW} (hT : mjTyd m4S w) : mjFld w 240 1 = some (.ref 242) := m4_ref hT ro_240 (by decide) ln_241 (by decide) ty_241_1
theorem fr_240_15 {w : MjW} (hT : mjTyd m4S w) : mjFld w 240 15 = some (.ref 247) := m4_ref hT ro_240 (by decide) ln_241 (by decide) ty_241_15
theorem fr_240_19 {w : MjW} (hT : mjTyd m4S w) : mjFld w 240 19 = some (.ref 251) := m4_ref hT ro_240 (by decide) ln_241 (by decide) ty_241_19
theorem fr_240_39 {w : MjW} (hT : mjTyd m4S w) : mjFld w 240 39 = some (.ref 271) := m4_ref hT ro_240 (by decide) ln_241 (by decide) ty_241_39
theorem fr_240_40 {w : MjW} (hT : mjTyd m4S w) : mjFld w 240 40 = some (.ref 272) := m4_ref hT ro_240 (by decide) ln_241 (by decide) ty_241_40
theorem M_181 : mjMt 181 = some mjM_181 := rfl
theorem M_182 : mjMt 182 = some mjM_182 := rfl
theorem M_185 : mjMt 185 = some mjM_185 := rfl
theorem M_187 : mjMt 187 = some mjM_187 := rfl
theorem M_190 : mjMt 190 = some mjM_190 := rfl
theorem M_192 : mjMt 192 = some mjM_192 := rfl
theorem M_198 : mjMt 198 = some mjM_198 := rfl
theorem M_206 : mjMt 206 = some mjM_206 := rfl
theorem M_207 : mjMt 207 = some mjM_207 := rfl
theorem M_208 : mjMt 208 = some mjM_208 := rfl
theorem M_209 : mjMt 209 = some mjM_209 := rfl
theorem M_210 : mjMt 210 = some mjM_210 := rfl
theorem M_211 : mjMt 211 = some mjM_211 := rfl
theorem M_212 : mjMt 212 = some mjM_212 := rfl
theorem M_213 : mjMt 213 = some mjM_213 := rfl
theorem M_214 : mjMt 214 = some mjM_214 := rfl
theorem M_215 : mjMt 215 = some mjM_215 := rfl
theorem q_181_0 : mjTb 181 0 = some (.aload_n 0, 1, 1, []) := by decide +kernel
theorem q_181_1 : mjTb 181 1 = some (.aload_n 0, 1, 1, []) := by decide +kernel
theorem q_181_2 : mjTb 181 2 = some (.getfield 233, 3, 4, [10, 7, 1422]) := by decide +kernel
theorem q_181_5 : mjTb 181 5 = some (.putfield 236, 3, 4, [10, 6, 1421]) := by decide +kernel
theorem q_181_8 : mjTb 181 8 = some (.aload_n 0, 1, 1, []) := by decide +kernel
theorem q_181_9 : mjTb 181 9 = some (.getfield 236, 3, 4, [10, 6, 1421]) := by decide +kernel
theorem q_181_12 : mjTb 181 12 = some (.aload_n 0, 1, 1, []) := by decide +kernel
theorem q_181_13 : mjTb 181 13 = some (.getfield 173, 3, 4, [10, 3, 1418]) := by decide +kernel
theorem q_181_16 : mjTb 181 16 = some (.if_icmp .ge 42, 3, 3, [58]) := by decide +kernel
theorem q_181_19 : mjTb 181 19 = some (.aload_n 0, 1, 1, []) := by decide +kernel
theorem q_181_20 : mjTb 181 20 = some (.aload_n 0, 1, 1, []) := by decide +kernel
theorem q_181_21 : mjTb 181 21 = some (.getfield 236, 3, 4, [10, 6, 1421]) := by decide +kernel
theorem q_181_24 : mjTb 181 24 = some (.invokevirtual 239, 3, 6, [0, 182, 1, 10, 1655, 1657, 56, 142]) := by decide +kernel
theorem q_181_27 : mjTb 181 27 = some (.bipush 32, 2, 5, []) := by decide +kernel
theorem q_181_29 : mjTb 181 29 = some (.if_icmp .eq 16, 3, 3, [45]) := by decide +kernel
theorem q_181_32 : mjTb 181 32 = some (.aload_n 0, 1, 1, []) := by decide +kernel
theorem q_181_33 : mjTb 181 33 = some (.aload_n 0, 1, 1, []) := by decide +kernel
theorem q_181_34 : mjTb 181 34 = some (.getfield 236, 3, 4, [10, 6, 1421]) := by decide +kernel
theorem q_181_37 : mjTb 181 37 = some (.invokevirtual 239, 3, 6, [0, 182, 1, 10, 1655, 1657, 56, 142]) := by decide +kernel
theorem q_181_40 : mjTb 181 40 = some (.bipush 10, 2, 5, []) := by decide +kernel
theorem q_181_42 : mjTb 181 42 = some (.if_icmp .ne 16, 3, 3, [58]) := by decide +kernel
theorem q_181_45 : mjTb 181 45 = some (.aload_n 0, 1, 1, []) := by decide +kernel
theorem q_181_46 : mjTb 181 46 = some (.dup, 1, 0, []) := by decide +kernel
theorem q_181_47 : mjTb 181 47 = some (.getfield 236, 3, 4, [10, 6, 1421]) := by decide +kernel
theorem q_181_50 : mjTb 181 50 = some (.iconst 1, 1, 0, []) := by decide +kernel
theorem q_181_51 : mjTb 181 51 = some (.iadd, 1, 0, []) := by decide +kernel
theorem q_181_52 : mjTb 181 52 = some (.putfield 236, 3, 4, [10, 6, 1421]) := by decide +kernel
theorem q_181_55 : mjTb 181 55 = some (.goto (-47), 3, 3, [8]) := by decide +kernel
theorem q_181_58 : mjTb 181 58 = some (.aload_n 0, 1, 1, []) := by decide +kernel
theorem q_181_59 : mjTb 181 59 = some (.aload_n 0, 1, 1, []) := by decide +kernel
theorem q_181_60 : mjTb 181 60 = some (.getfield 236, 3, 4, [10, 6, 1421]) := by decide +kernel
theorem q_181_63 : mjTb 181 63 = some (.invokevirtual 239, 3, 6, [0, 182, 1, 10, 1655, 1657, 56, 142]) := by decide +kernel
theorem q_181_66 : mjTb 181 66 = some (.istore_n 1, 1, 2, []) := by decide +kernel
theorem q_181_67 : mjTb 181 67 = some (.aload_n 0, 1, 1, []) := by decide +kernel
theorem q_181_68 : mjTb 181 68 = some (.aload_n 0, 1, 1, []) := by decide +kernel
theorem q_181_69 : mjTb 181 69 = some (.getfield 236, 3, 4, [10, 6, 1421]) := by decide +kernel
theorem q_181_72 : mjTb 181 72 = some (.iconst 1, 1, 0, []) := by decide +kernel
theorem q_181_73 : mjTb 181 73 = some (.iadd, 1, 0, []) := by decide +kernel
theorem q_181_74 : mjTb 181 74 = some (.putfield 233, 3, 4, [10, 7, 1422]) := by decide +kernel
theorem q_181_77 : mjTb 181 77 = some (.aload_n 0, 1, 1, []) := by decide +kernel
theorem q_181_78 : mjTb 181 78 = some (.getfield 236, 3, 4, [10, 6, 1421]) := by decide +kernel
theorem q_181_81 : mjTb 181 81 = some (.aload_n 0, 1, 1, []) := by decide +kernel
theorem q_181_82 : mjTb 181 82 = some (.getfield 173, 3, 4, [10, 3, 1418]) := by decide +kernel
theorem q_181_85 : mjTb 181 85 = some (.if_icmp .lt 27, 3, 3, [112]) := by decide +kernel
theorem q_181_88 : mjTb 181 88 = some (.aload_n 0, 1, 1, []) := by decide +kernel
theorem q_181_89 : mjTb 181 89 = some (.iconst 0, 1, 0, []) := by decide +kernel
theorem q_181_90 : mjTb 181 90 = some (.putfield 243, 3, 4, [10, 8, 1423]) := by decide +kernel
theorem q_181_93 : mjTb 181 93 = some (.aload_n 0, 1, 1, []) := by decide +kernel
theorem q_181_94 : mjTb 181 94 = some (.aload_n 0, 1, 1, []) := by decide +kernel
theorem q_181_95 : mjTb 181 95 = some (.getfield 173, 3, 4, [10, 3, 1418]) := by decide +kernel
theorem q_181_98 : mjTb 181 98 = some (.putfield 236, 3, 4, [10, 6, 1421]) := by decide +kernel
theorem q_181_101 : mjTb 181 101 = some (.aload_n 0, 1, 1, []) := by decide +kernel
theorem q_181_102 : mjTb 181 102 = some (.aload_n 0, 1, 1, []) := by decide +kernel
theorem q_181_103 : mjTb 181 103 = some (.getfield 173, 3, 4, [10, 3, 1418]) := by decide +kernel
theorem q_181_106 : mjTb 181 106 = some (.putfield 233, 3, 4, [10, 7, 1422]) := by decide +kernel
theorem q_181_109 : mjTb 181 109 = some (.goto 268, 3, 3, [377]) := by decide +kernel
theorem q_181_112 : mjTb 181 112 = some (.iload_n 1, 1, 1, []) := by decide +kernel
theorem q_181_113 : mjTb 181 113 = some (.invokestatic 246, 3, 6, [0, 183, 1, 0, 1659, 1660, 142]) := by decide +kernel
theorem q_181_116 : mjTb 181 116 = some (.ifCond .eq 123, 3, 3, [239]) := by decide +kernel
theorem q_181_119 : mjTb 181 119 = some (.aload_n 0, 1, 1, []) := by decide +kernel
theorem q_181_120 : mjTb 181 120 = some (.aload_n 0, 1, 1, []) := by decide +kernel
theorem q_181_121 : mjTb 181 121 = some (.getfield 233, 3, 4, [10, 7, 1422]) := by decide +kernel
theorem q_181_124 : mjTb 181 124 = some (.invokevirtual 239, 3, 6, [0, 182, 1, 10, 1655, 1657, 56, 142]) := by decide +kernel
theorem q_181_127 : mjTb 181 127 = some (.invokestatic 246, 3, 6, [0, 183, 1, 0, 1659, 1660, 142]) := by decide +kernel
theorem q_181_130 : mjTb 181 130 = some (.ifCond .eq 16, 3, 3, [146]) := by decide +kernel
theorem q_181_133 : mjTb 181 133 = some (.aload_n 0, 1, 1, []) := by decide +kernel
theorem q_181_134 : mjTb 181 134 = some (.dup, 1, 0, []) := by decide +kernel
theorem q_181_135 : mjTb 181 135 = some (.getfield 233, 3, 4, [10, 7, 1422]) := by decide +kernel
theorem q_181_138 : mjTb 181 138 = some (.iconst 1, 1, 0, []) := by decide +kernel
theorem q_181_139 : mjTb 181 139 = some (.iadd, 1, 0, []) := by decide +kernel
theorem q_181_140 : mjTb 181 140 = some (.putfield 233, 3, 4, [10, 7, 1422]) := by decide +kernel
theorem q_181_143 : mjTb 181 143 = some (.goto (-24), 3, 3, [119]) := by decide +kernel
theorem q_181_146 : mjTb 181 146 = some (.aload_n 0, 1, 1, []) := by decide +kernel
theorem q_181_147 : mjTb 181 147 = some (.lconst 0, 1, 0, []) := by decide +kernel
theorem q_181_148 : mjTb 181 148 = some (.putfield 250, 3, 4, [10, 10, 1425]) := by decide +kernel
theorem q_181_151 : mjTb 181 151 = some (.aload_n 0, 1, 1, []) := by decide +kernel
theorem q_181_152 : mjTb 181 152 = some (.getfield 236, 3, 4, [10, 6, 1421]) := by decide +kernel
theorem q_181_155 : mjTb 181 155 = some (.istore_n 2, 1, 2, []) := by decide +kernel
theorem q_181_156 : mjTb 181 156 = some (.iload_n 2, 1, 1, []) := by decide +kernel
theorem q_181_157 : mjTb 181 157 = some (.aload_n 0, 1, 1, []) := by decide +kernel
theorem q_181_158 : mjTb 181 158 = some (.getfield 233, 3, 4, [10, 7, 1422]) := by decide +kernel
theorem q_181_161 : mjTb 181 161 = some (.if_icmp .ge 38, 3, 3, [199]) := by decide +kernel
theorem q_181_164 : mjTb 181 164 = some (.iload_n 2, 1, 1, []) := by decide +kernel
theorem q_181_165 : mjTb 181 165 = some (.aload_n 0, 1, 1, []) := by decide +kernel
theorem q_181_166 : mjTb 181 166 = some (.getfield 236, 3, 4, [10, 6, 1421]) := by decide +kernel
theorem q_181_169 : mjTb 181 169 = some (.bipush 8, 2, 5, []) := by decide +kernel
theorem q_181_171 : mjTb 181 171 = some (.iadd, 1, 0, []) := by decide +kernel
theorem q_181_172 : mjTb 181 172 = some (.if_icmp .ge 27, 3, 3, [199]) := by decide +kernel
theorem q_181_175 : mjTb 181 175 = some (.aload_n 0, 1, 1, []) := by decide +kernel
theorem q_181_176 : mjTb 181 176 = some (.aload_n 0, 1, 1, []) := by decide +kernel
theorem q_181_177 : mjTb 181 177 = some (.getfield 250, 3, 4, [10, 10, 1425]) := by decide +kernel
theorem q_181_180 : mjTb 181 180 = some (.bipush 8, 2, 5, []) := by decide +kernel
theorem q_181_182 : mjTb 181 182 = some (.lshl, 1, 0, []) := by decide +kernel
theorem q_181_183 : mjTb 181 183 = some (.aload_n 0, 1, 1, []) := by decide +kernel
theorem q_181_184 : mjTb 181 184 = some (.iload_n 2, 1, 1, []) := by decide +kernel
theorem q_181_185 : mjTb 181 185 = some (.invokevirtual 239, 3, 6, [0, 182, 1, 10, 1655, 1657, 56, 142]) := by decide +kernel
theorem q_181_188 : mjTb 181 188 = some (.i2l, 1, 0, []) := by decide +kernel
theorem q_181_189 : mjTb 181 189 = some (.lor, 1, 0, []) := by decide +kernel
theorem q_181_190 : mjTb 181 190 = some (.putfield 250, 3, 4, [10, 10, 1425]) := by decide +kernel
theorem q_181_193 : mjTb 181 193 = some (.iinc 2 1, 3, 2, []) := by decide +kernel
theorem q_181_196 : mjTb 181 196 = some (.goto (-40), 3, 3, [156]) := by decide +kernel
theorem q_181_199 : mjTb 181 199 = some (.aload_n 0, 1, 1, []) := by decide +kernel
theorem q_181_200 : mjTb 181 200 = some (.aload_n 0, 1, 1, []) := by decide +kernel
theorem q_181_201 : mjTb 181 201 = some (.getfield 233, 3, 4, [10, 7, 1422]) := by decide +kernel
theorem q_181_204 : mjTb 181 204 = some (.aload_n 0, 1, 1, []) := by decide +kernel
theorem q_181_205 : mjTb 181 205 = some (.getfield 236, 3, 4, [10, 6, 1421]) := by decide +kernel
theorem q_181_208 : mjTb 181 208 = some (.isub, 1, 0, []) := by decide +kernel
theorem q_181_209 : mjTb 181 209 = some (.bipush 8, 2, 5, []) := by decide +kernel
theorem q_181_211 : mjTb 181 211 = some (.if_icmp .le 7, 3, 3, [218]) := by decide +kernel
theorem q_181_214 : mjTb 181 214 = some (.iconst 1, 1, 0, []) := by decide +kernel
theorem q_181_215 : mjTb 181 215 = some (.goto 18, 3, 3, [233]) := by decide +kernel
theorem q_181_218 : mjTb 181 218 = some (.aload_n 0, 1, 1, []) := by decide +kernel
theorem q_181_219 : mjTb 181 219 = some (.getfield 250, 3, 4, [10, 10, 1425]) := by decide +kernel
theorem q_181_222 : mjTb 181 222 = some (.invokestatic 254, 3, 6, [0, 184, 1, 0, 1662, 1663, 142]) := by decide +kernel
theorem q_181_225 : mjTb 181 225 = some (.ifCond .eq 7, 3, 3, [232]) := by decide +kernel
theorem q_181_228 : mjTb 181 228 = some (.iconst 3, 1, 0, []) := by decide +kernel
theorem q_181_229 : mjTb 181 229 = some (.goto 4, 3, 3, [233]) := by decide +kernel
theorem q_181_232 : mjTb 181 232 = some (.iconst 2, 1, 0, []) := by decide +kernel
theorem q_181_233 : mjTb 181 233 = some (.putfield 243, 3, 4, [10, 8, 1423]) := by decide +kernel
theorem q_181_236 : mjTb 181 236 = some (.goto 141, 3, 3, [377]) := by decide +kernel
theorem q_181_239 : mjTb 181 239 = some (.iload_n 1, 1, 1, []) := by decide +kernel
theorem q_181_240 : mjTb 181 240 = some (.invokestatic 258, 3, 6, [0, 185, 1, 0, 1692, 1693, 142]) := by decide +kernel
theorem q_181_243 : mjTb 181 243 = some (.ifCond .eq 118, 3, 3, [361]) := by decide +kernel
theorem q_181_246 : mjTb 181 246 = some (.aload_n 0, 1, 1, []) := by decide +kernel
theorem q_181_247 : mjTb 181 247 = some (.iconst 0, 1, 0, []) := by decide +kernel
theorem q_181_248 : mjTb 181 248 = some (.putfield 261, 3, 4, [10, 9, 1424]) := by decide +kernel
theorem q_181_251 : mjTb 181 251 = some (.aload_n 0, 1, 1, []) := by decide +kernel
theorem q_181_252 : mjTb 181 252 = some (.aload_n 0, 1, 1, []) := by decide +kernel
theorem q_181_253 : mjTb 181 253 = some (.getfield 236, 3, 4, [10, 6, 1421]) := by decide +kernel
theorem q_181_256 : mjTb 181 256 = some (.putfield 233, 3, 4, [10, 7, 1422]) := by decide +kernel
theorem q_181_259 : mjTb 181 259 = some (.aload_n 0, 1, 1, []) := by decide +kernel
theorem q_181_260 : mjTb 181 260 = some (.aload_n 0, 1, 1, []) := by decide +kernel
theorem q_181_261 : mjTb 181 261 = some (.getfield 233, 3, 4, [10, 7, 1422]) := by decide +kernel
theorem q_181_264 : mjTb 181 264 = some (.invokevirtual 239, 3, 6, [0, 182, 1, 10, 1655, 1657, 56, 142]) := by decide +kernel
theorem q_181_267 : mjTb 181 267 = some (.invokestatic 258, 3, 6, [0, 185, 1, 0, 1692, 1693, 142]) := by decide +kernel
theorem q_181_270 : mjTb 181 270 = some (.ifCond .eq 52, 3, 3, [322]) := by decide +kernel
theorem q_181_273 : mjTb 181 273 = some (.aload_n 0, 1, 1, []) := by decide +kernel
theorem q_181_274 : mjTb 181 274 = some (.getfield 233, 3, 4, [10, 7, 1422]) := by decide +kernel
theorem q_181_277 : mjTb 181 277 = some (.aload_n 0, 1, 1, []) := by decide +kernel
theorem q_181_278 : mjTb 181 278 = some (.getfield 236, 3, 4, [10, 6, 1421]) := by decide +kernel
theorem q_181_281 : mjTb 181 281 = some (.isub, 1, 0, []) := by decide +kernel
theorem q_181_282 : mjTb 181 282 = some (.iconst 4, 1, 0, []) := by decide +kernel
theorem q_181_283 : mjTb 181 283 = some (.if_icmp .ge 26, 3, 3, [309]) := by decide +kernel
theorem q_181_286 : mjTb 181 286 = some (.aload_n 0, 1, 1, []) := by decide +kernel
theorem q_181_287 : mjTb 181 287 = some (.bipush 10, 2, 5, []) := by decide +kernel
theorem q_181_289 : mjTb 181 289 = some (.aload_n 0, 1, 1, []) := by decide +kernel
theorem q_181_290 : mjTb 181 290 = some (.getfield 261, 3, 4, [10, 9, 1424]) := by decide +kernel
theorem q_181_293 : mjTb 181 293 = some (.imul, 1, 0, []) := by decide +kernel
theorem q_181_294 : mjTb 181 294 = some (.aload_n 0, 1, 1, []) := by decide +kernel
theorem q_181_295 : mjTb 181 295 = some (.aload_n 0, 1, 1, []) := by decide +kernel
theorem q_181_296 : mjTb 181 296 = some (.getfield 233, 3, 4, [10, 7, 1422]) := by decide +kernel
theorem q_181_299 : mjTb 181 299 = some (.invokevirtual 239, 3, 6, [0, 182, 1, 10, 1655, 1657, 56, 142]) := by decide +kernel
theorem q_181_302 : mjTb 181 302 = some (.iadd, 1, 0, []) := by decide +kernel
theorem q_181_303 : mjTb 181 303 = some (.bipush 48, 2, 5, []) := by decide +kernel
theorem q_181_305 : mjTb 181 305 = some (.isub, 1, 0, []) := by decide +kernel
theorem q_181_306 : mjTb 181 306 = some (.putfield 261, 3, 4, [10, 9, 1424]) := by decide +kernel
theorem q_181_309 : mjTb 181 309 = some (.aload_n 0, 1, 1, []) := by decide +kernel
theorem q_181_310 : mjTb 181 310 = some (.dup, 1, 0, []) := by decide +kernel
theorem q_181_311 : mjTb 181 311 = some (.getfield 233, 3, 4, [10, 7, 1422]) := by decide +kernel
theorem q_181_314 : mjTb 181 314 = some (.iconst 1, 1, 0, []) := by decide +kernel
theorem q_181_315 : mjTb 181 315 = some (.iadd, 1, 0, []) := by decide +kernel
theorem q_181_316 : mjTb 181 316 = some (.putfield 233, 3, 4, [10, 7, 1422]) := by decide +kernel
theorem q_181_319 : mjTb 181 319 = some (.goto (-60), 3, 3, [259]) := by decide +kernel
theorem q_181_322 : mjTb 181 322 = some (.aload_n 0, 1, 1, []) := by decide +kernel
theorem q_181_323 : mjTb 181 323 = some (.aload_n 0, 1, 1, []) := by decide +kernel
theorem q_181_324 : mjTb 181 324 = some (.getfield 233, 3, 4, [10, 7, 1422]) := by decide +kernel
theorem q_181_327 : mjTb 181 327 = some (.aload_n 0, 1, 1, []) := by decide +kernel
theorem q_181_328 : mjTb 181 328 = some (.getfield 236, 3, 4, [10, 6, 1421]) := by decide +kernel
theorem q_181_331 : mjTb 181 331 = some (.isub, 1, 0, []) := by decide +kernel
theorem q_181_332 : mjTb 181 332 = some (.iconst 4, 1, 0, []) := by decide +kernel
theorem q_181_333 : mjTb 181 333 = some (.if_icmp .gt 17, 3, 3, [350]) := by decide +kernel
theorem q_181_336 : mjTb 181 336 = some (.aload_n 0, 1, 1, []) := by decide +kernel
theorem q_181_337 : mjTb 181 337 = some (.aload_n 0, 1, 1, []) := by decide +kernel
theorem q_181_338 : mjTb 181 338 = some (.getfield 233, 3, 4, [10, 7, 1422]) := by decide +kernel
theorem q_181_341 : mjTb 181 341 = some (.invokevirtual 239, 3, 6, [0, 182, 1, 10, 1655, 1657, 56, 142]) := by decide +kernel
theorem q_181_344 : mjTb 181 344 = some (.invokestatic 246, 3, 6, [0, 183, 1, 0, 1659, 1660, 142]) := by decide +kernel
theorem q_181_347 : mjTb 181 347 = some (.ifCond .eq 7, 3, 3, [354]) := by decide +kernel
theorem q_181_350 : mjTb 181 350 = some (.iconst 1, 1, 0, []) := by decide +kernel
theorem q_181_351 : mjTb 181 351 = some (.goto 4, 3, 3, [355]) := by decide +kernel
theorem q_181_354 : mjTb 181 354 = some (.iconst 4, 1, 0, []) := by decide +kernel
theorem q_181_355 : mjTb 181 355 = some (.putfield 243, 3, 4, [10, 8, 1423]) := by decide +kernel
theorem q_181_358 : mjTb 181 358 = some (.goto 19, 3, 3, [377]) := by decide +kernel
theorem q_181_361 : mjTb 181 361 = some (.aload_n 0, 1, 1, []) := by decide +kernel
theorem q_181_362 : mjTb 181 362 = some (.iload_n 1, 1, 1, []) := by decide +kernel
theorem q_181_363 : mjTb 181 363 = some (.invokestatic 264, 3, 6, [0, 186, 1, 0, 1695, 1696, 142]) := by decide +kernel
theorem q_181_366 : mjTb 181 366 = some (.ifCond .eq 7, 3, 3, [373]) := by decide +kernel
theorem q_181_369 : mjTb 181 369 = some (.iconst 5, 1, 0, []) := by decide +kernel
theorem q_181_370 : mjTb 181 370 = some (.goto 4, 3, 3, [374]) := by decide +kernel
theorem q_181_373 : mjTb 181 373 = some (.iconst 1, 1, 0, []) := by decide +kernel
theorem q_181_374 : mjTb 181 374 = some (.putfield 243, 3, 4, [10, 8, 1423]) := by decide +kernel
theorem q_181_377 : mjTb 181 377 = some (.return_, 1, 8, []) := by decide +kernel
theorem q_182_0 : mjTb 182 0 = some (.iload_n 1, 1, 1, []) := by decide +kernel
theorem q_182_1 : mjTb 182 1 = some (.aload_n 0, 1, 1, []) := by decide +kernel
theorem q_182_2 : mjTb 182 2 = some (.getfield 173, 3, 4, [10, 3, 1418]) := by decide +kernel
theorem q_182_5 : mjTb 182 5 = some (.if_icmp .ge 16, 3, 3, [21]) := by decide +kernel
theorem q_182_8 : mjTb 182 8 = some (.aload_n 0, 1, 1, []) := by decide +kernel
theorem q_182_9 : mjTb 182 9 = some (.getfield 13, 3, 4, [10, 1, 1416]) := by decide +kernel
theorem q_182_12 : mjTb 182 12 = some (.iload_n 1, 1, 1, []) := by decide +kernel
theorem q_182_13 : mjTb 182 13 = some (.baload, 1, 4, []) := by decide +kernel
theorem q_182_14 : mjTb 182 14 = some (.sipush 255, 3, 5, []) := by decide +kernel
theorem q_182_17 : mjTb 182 17 = some (.iand, 1, 0, []) := by decide +kernel
theorem q_182_18 : mjTb 182 18 = some (.goto 4, 3, 3, [22]) := by decide +kernel
theorem q_182_21 : mjTb 182 21 = some (.iconst 0, 1, 0, []) := by decide +kernel
theorem q_182_22 : mjTb 182 22 = some (.ireturn, 1, 8, []) := by decide +kernel
theorem q_185_0 : mjTb 185 0 = some (.iload_n 0, 1, 1, []) := by decide +kernel
theorem q_185_1 : mjTb 185 1 = some (.bipush 48, 2, 5, []) := by decide +kernel
theorem q_185_3 : mjTb 185 3 = some (.if_icmp .lt 13, 3, 3, [16]) := by decide +kernel
theorem q_185_6 : mjTb 185 6 = some (.iload_n 0, 1, 1, []) := by decide +kernel
theorem q_185_7 : mjTb 185 7 = some (.bipush 57, 2, 5, []) := by decide +kernel
theorem q_185_9 : mjTb 185 9 = some (.if_icmp .gt 7, 3, 3, [16]) := by decide +kernel
theorem q_185_12 : mjTb 185 12 = some (.iconst 1, 1, 0, []) := by decide +kernel
theorem q_185_13 : mjTb 185 13 = some (.goto 4, 3, 3, [17]) := by decide +kernel
theorem q_185_16 : mjTb 185 16 = some (.iconst 0, 1, 0, []) := by decide +kernel
theorem q_185_17 : mjTb 185 17 = some (.ireturn, 1, 8, []) := by decide +kernel
theorem q_187_0 : mjTb 187 0 = some (.aload_n 0, 1, 1, []) := by decide +kernel
theorem q_187_1 : mjTb 187 1 = some (.getfield 176, 3, 4, [10, 4, 1419]) := by decide +kernel
theorem q_187_4 : mjTb 187 4 = some (.ifCond .ne 7, 3, 3, [11]) := by decide +kernel
theorem q_187_7 : mjTb 187 7 = some (.iconst 1, 1, 0, []) := by decide +kernel
theorem q_187_8 : mjTb 187 8 = some (.goto 4, 3, 3, [12]) := by decide +kernel
theorem q_187_11 : mjTb 187 11 = some (.iconst 0, 1, 0, []) := by decide +kernel
theorem q_187_12 : mjTb 187 12 = some (.ireturn, 1, 8, []) := by decide +kernel
theorem q_190_0 : mjTb 190 0 = some (.aload_n 0, 1, 1, []) := by decide +kernel
theorem q_190_1 : mjTb 190 1 = some (.getfield 243, 3, 4, [10, 8, 1423]) := by decide +kernel
theorem q_190_4 : mjTb 190 4 = some (.iconst 3, 1, 0, []) := by decide +kernel
theorem q_190_5 : mjTb 190 5 = some (.if_icmp .ne 16, 3, 3, [21]) := by decide +kernel
theorem q_190_8 : mjTb 190 8 = some (.aload_n 0, 1, 1, []) := by decide +kernel
theorem q_190_9 : mjTb 190 9 = some (.getfield 250, 3, 4, [10, 10, 1425]) := by decide +kernel
theorem q_190_12 : mjTb 190 12 = some (.lload_n 1, 1, 1, []) := by decide +kernel
theorem q_190_13 : mjTb 190 13 = some (.lcmp, 1, 0, []) := by decide +kernel
theorem q_190_14 : mjTb 190 14 = some (.ifCond .ne 7, 3, 3, [21]) := by decide +kernel
theorem q_190_17 : mjTb 190 17 = some (.iconst 1, 1, 0, []) := by decide +kernel
theorem q_190_18 : mjTb 190 18 = some (.goto 4, 3, 3, [22]) := by decide +kernel
theorem q_190_21 : mjTb 190 21 = some (.iconst 0, 1, 0, []) := by decide +kernel
theorem q_190_22 : mjTb 190 22 = some (.ireturn, 1, 8, []) := by decide +kernel
theorem q_192_0 : mjTb 192 0 = some (.aload_n 0, 1, 1, []) := by decide +kernel
theorem q_198_0 : mjTb 198 0 = some (.aload_n 0, 1, 1, []) := by decide +kernel
theorem q_206_0 : mjTb 206 0 = some (.aload_n 0, 1, 1, []) := by decide +kernel
theorem q_206_1 : mjTb 206 1 = some (.getfield 45, 3, 4, [10, 19, 1434]) := by decide +kernel
theorem q_206_4 : mjTb 206 4 = some (.aload_n 0, 1, 1, []) := by decide +kernel
theorem q_206_5 : mjTb 206 5 = some (.getfield 296, 3, 4, [10, 43, 1458]) := by decide +kernel
theorem q_206_8 : mjTb 206 8 = some (.dup2, 1, 0, []) := by decide +kernel
theorem q_206_9 : mjTb 206 9 = some (.iaload, 1, 4, []) := by decide +kernel
theorem q_206_10 : mjTb 206 10 = some (.iconst 4, 1, 0, []) := by decide +kernel
theorem q_206_11 : mjTb 206 11 = some (.ior, 1, 0, []) := by decide +kernel
theorem q_206_12 : mjTb 206 12 = some (.iastore, 1, 4, []) := by decide +kernel
theorem q_206_13 : mjTb 206 13 = some (.aload_n 0, 1, 1, []) := by decide +kernel
theorem q_206_14 : mjTb 206 14 = some (.iconst 0, 1, 0, []) := by decide +kernel
theorem q_206_15 : mjTb 206 15 = some (.putfield 358, 3, 4, [10, 47, 1462]) := by decide +kernel
theorem q_206_18 : mjTb 206 18 = some (.aload_n 0, 1, 1, []) := by decide +kernel
theorem q_206_19 : mjTb 206 19 = some (.getfield 87, 3, 4, [10, 33, 1448]) := by decide +kernel
theorem q_206_22 : mjTb 206 22 = some (.aload_n 0, 1, 1, []) := by decide +kernel
theorem q_206_23 : mjTb 206 23 = some (.getfield 296, 3, 4, [10, 43, 1458]) := by decide +kernel
theorem q_206_26 : mjTb 206 26 = some (.aload_n 0, 1, 1, []) := by decide +kernel
theorem q_206_27 : mjTb 206 27 = some (.getfield 303, 3, 4, [10, 44, 1459]) := by decide +kernel
theorem q_206_30 : mjTb 206 30 = some (.iastore, 1, 4, []) := by decide +kernel
theorem q_206_31 : mjTb 206 31 = some (.aload_n 0, 1, 1, []) := by decide +kernel
theorem q_206_32 : mjTb 206 32 = some (.invokevirtual 361, 3, 6, [0, 207, 0, 10, 1777, 1779, 76, 142]) := by decide +kernel
theorem q_206_35 : mjTb 206 35 = some (.aload_n 0, 1, 1, []) := by decide +kernel
theorem q_206_36 : mjTb 206 36 = some (.getfield 90, 3, 4, [10, 34, 1449]) := by decide +kernel
theorem q_206_39 : mjTb 206 39 = some (.aload_n 0, 1, 1, []) := by decide +kernel
theorem q_206_40 : mjTb 206 40 = some (.getfield 296, 3, 4, [10, 43, 1458]) := by decide +kernel
theorem q_206_43 : mjTb 206 43 = some (.aload_n 0, 1, 1, []) := by decide +kernel
theorem q_206_44 : mjTb 206 44 = some (.getfield 303, 3, 4, [10, 44, 1459]) := by decide +kernel
theorem q_206_47 : mjTb 206 47 = some (.iastore, 1, 4, []) := by decide +kernel
theorem q_206_48 : mjTb 206 48 = some (.return_, 1, 8, []) := by decide +kernel
theorem q_207_0 : mjTb 207 0 = some (.aload_n 0, 1, 1, []) := by decide +kernel
theorem q_207_1 : mjTb 207 1 = some (.iconst 0, 1, 0, []) := by decide +kernel
theorem q_207_2 : mjTb 207 2 = some (.putfield 364, 3, 4, [10, 46, 1461]) := by decide +kernel
theorem q_207_5 : mjTb 207 5 = some (.aload_n 0, 1, 1, []) := by decide +kernel
theorem q_207_6 : mjTb 207 6 = some (.iconst 0, 1, 0, []) := by decide +kernel
theorem q_207_7 : mjTb 207 7 = some (.putfield 367, 3, 4, [10, 45, 1460]) := by decide +kernel
theorem q_207_10 : mjTb 207 10 = some (.aload_n 0, 1, 1, []) := by decide +kernel
theorem q_207_11 : mjTb 207 11 = some (.bipush 8, 2, 5, []) := by decide +kernel
theorem q_207_13 : mjTb 207 13 = some (.iconst 0, 1, 0, []) := by decide +kernel
theorem q_207_14 : mjTb 207 14 = some (.invokevirtual 370, 3, 6, [0, 208, 2, 10, 1781, 1783, 77, 142]) := by decide +kernel
theorem q_207_17 : mjTb 207 17 = some (.iconst 1, 1, 0, []) := by decide +kernel
theorem q_207_18 : mjTb 207 18 = some (.istore_n 1, 1, 2, []) := by decide +kernel
theorem q_207_19 : mjTb 207 19 = some (.aload_n 0, 1, 1, []) := by decide +kernel
theorem q_207_20 : mjTb 207 20 = some (.invokevirtual 271, 3, 6, [0, 187, 0, 10, 1698, 1700, 57, 142]) := by decide +kernel
theorem q_207_23 : mjTb 207 23 = some (.ifCond .eq 29, 3, 3, [52]) := by decide +kernel
theorem q_207_26 : mjTb 207 26 = some (.aload_n 0, 1, 1, []) := by decide +kernel
theorem q_207_27 : mjTb 207 27 = some (.getfield 364, 3, 4, [10, 46, 1461]) := by decide +kernel
theorem q_207_30 : mjTb 207 30 = some (.ifCond .le 22, 3, 3, [52]) := by decide +kernel
theorem q_207_33 : mjTb 207 33 = some (.iload_n 1, 1, 1, []) := by decide +kernel
theorem q_207_34 : mjTb 207 34 = some (.ifCond .eq 10, 3, 3, [44]) := by decide +kernel
theorem q_207_37 : mjTb 207 37 = some (.aload_n 0, 1, 1, []) := by decide +kernel
theorem q_207_38 : mjTb 207 38 = some (.invokevirtual 373, 3, 6, [0, 209, 0, 10, 1785, 1787, 78, 142]) := by decide +kernel
theorem q_207_41 : mjTb 207 41 = some (.goto 7, 3, 3, [48]) := by decide +kernel
theorem q_207_44 : mjTb 207 44 = some (.aload_n 0, 1, 1, []) := by decide +kernel
theorem q_207_45 : mjTb 207 45 = some (.invokevirtual 376, 3, 6, [0, 213, 0, 10, 1801, 1803, 82, 142]) := by decide +kernel
theorem q_207_48 : mjTb 207 48 = some (.istore_n 1, 1, 2, []) := by decide +kernel
theorem q_207_49 : mjTb 207 49 = some (.goto (-30), 3, 3, [19]) := by decide +kernel
theorem q_207_52 : mjTb 207 52 = some (.return_, 1, 8, []) := by decide +kernel
theorem q_208_0 : mjTb 208 0 = some (.aload_n 0, 1, 1, []) := by decide +kernel
theorem q_208_1 : mjTb 208 1 = some (.getfield 106, 3, 4, [10, 39, 1454]) := by decide +kernel
theorem q_208_4 : mjTb 208 4 = some (.aload_n 0, 1, 1, []) := by decide +kernel
theorem q_208_5 : mjTb 208 5 = some (.getfield 364, 3, 4, [10, 46, 1461]) := by decide +kernel
theorem q_208_8 : mjTb 208 8 = some (.iload_n 1, 1, 1, []) := by decide +kernel
theorem q_208_9 : mjTb 208 9 = some (.iastore, 1, 4, []) := by decide +kernel
theorem q_208_10 : mjTb 208 10 = some (.aload_n 0, 1, 1, []) := by decide +kernel
theorem q_208_11 : mjTb 208 11 = some (.getfield 109, 3, 4, [10, 40, 1455]) := by decide +kernel
theorem q_208_14 : mjTb 208 14 = some (.aload_n 0, 1, 1, []) := by decide +kernel
theorem q_208_15 : mjTb 208 15 = some (.getfield 364, 3, 4, [10, 46, 1461]) := by decide +kernel
theorem q_208_18 : mjTb 208 18 = some (.iload_n 2, 1, 1, []) := by decide +kernel
theorem q_208_19 : mjTb 208 19 = some (.iastore, 1, 4, []) := by decide +kernel
theorem q_208_20 : mjTb 208 20 = some (.aload_n 0, 1, 1, []) := by decide +kernel
theorem q_208_21 : mjTb 208 21 = some (.dup, 1, 0, []) := by decide +kernel
theorem q_208_22 : mjTb 208 22 = some (.getfield 364, 3, 4, [10, 46, 1461]) := by decide +kernel
theorem q_208_25 : mjTb 208 25 = some (.iconst 1, 1, 0, []) := by decide +kernel
theorem q_208_26 : mjTb 208 26 = some (.iadd, 1, 0, []) := by decide +kernel
theorem q_208_27 : mjTb 208 27 = some (.putfield 364, 3, 4, [10, 46, 1461]) := by decide +kernel
theorem q_208_30 : mjTb 208 30 = some (.return_, 1, 8, []) := by decide +kernel
theorem q_209_0 : mjTb 209 0 = some (.aload_n 0, 1, 1, []) := by decide +kernel
theorem q_209_1 : mjTb 209 1 = some (.getfield 106, 3, 4, [10, 39, 1454]) := by decide +kernel
theorem q_209_4 : mjTb 209 4 = some (.aload_n 0, 1, 1, []) := by decide +kernel
theorem q_209_5 : mjTb 209 5 = some (.getfield 364, 3, 4, [10, 46, 1461]) := by decide +kernel
theorem q_209_8 : mjTb 209 8 = some (.iconst 1, 1, 0, []) := by decide +kernel
theorem q_209_9 : mjTb 209 9 = some (.isub, 1, 0, []) := by decide +kernel
theorem q_209_10 : mjTb 209 10 = some (.iaload, 1, 4, []) := by decide +kernel
theorem q_209_11 : mjTb 209 11 = some (.iconst 3, 1, 0, []) := by decide +kernel
theorem q_209_12 : mjTb 209 12 = some (.if_icmp .le 19, 3, 3, [31]) := by decide +kernel
theorem q_209_15 : mjTb 209 15 = some (.aload_n 0, 1, 1, []) := by decide +kernel
theorem q_209_16 : mjTb 209 16 = some (.getfield 106, 3, 4, [10, 39, 1454]) := by decide +kernel
theorem q_209_19 : mjTb 209 19 = some (.aload_n 0, 1, 1, []) := by decide +kernel
theorem q_209_20 : mjTb 209 20 = some (.getfield 364, 3, 4, [10, 46, 1461]) := by decide +kernel
theorem q_209_23 : mjTb 209 23 = some (.iconst 1, 1, 0, []) := by decide +kernel
theorem q_209_24 : mjTb 209 24 = some (.isub, 1, 0, []) := by decide +kernel
theorem q_209_25 : mjTb 209 25 = some (.iaload, 1, 4, []) := by decide +kernel
theorem q_209_26 : mjTb 209 26 = some (.bipush 7, 2, 5, []) := by decide +kernel
theorem q_209_28 : mjTb 209 28 = some (.if_icmp .lt 7, 3, 3, [35]) := by decide +kernel
theorem q_209_31 : mjTb 209 31 = some (.iconst 1, 1, 0, []) := by decide +kernel
theorem q_209_32 : mjTb 209 32 = some (.goto 4, 3, 3, [36]) := by decide +kernel
theorem q_209_35 : mjTb 209 35 = some (.iconst 0, 1, 0, []) := by decide +kernel
theorem q_209_36 : mjTb 209 36 = some (.istore_n 1, 1, 2, []) := by decide +kernel
theorem q_209_37 : mjTb 209 37 = some (.iload_n 1, 1, 1, []) := by decide +kernel
theorem q_209_38 : mjTb 209 38 = some (.ifCond .eq 17, 3, 3, [55]) := by decide +kernel
theorem q_209_41 : mjTb 209 41 = some (.aload_n 0, 1, 1, []) := by decide +kernel
theorem q_209_42 : mjTb 209 42 = some (.ldc2_w 231, 3, 5, [7237492, 1691]) := by decide +kernel
theorem q_209_45 : mjTb 209 45 = some (.invokevirtual 285, 3, 6, [0, 190, 1, 10, 1710, 1712, 60, 142]) := by decide +kernel
theorem q_209_48 : mjTb 209 48 = some (.ifCond .eq 7, 3, 3, [55]) := by decide +kernel
theorem q_209_51 : mjTb 209 51 = some (.iconst 1, 1, 0, []) := by decide +kernel
theorem q_209_52 : mjTb 209 52 = some (.goto 4, 3, 3, [56]) := by decide +kernel
theorem q_209_55 : mjTb 209 55 = some (.iconst 0, 1, 0, []) := by decide +kernel
theorem q_209_56 : mjTb 209 56 = some (.istore_n 2, 1, 2, []) := by decide +kernel
theorem q_209_57 : mjTb 209 57 = some (.aload_n 0, 1, 1, []) := by decide +kernel
theorem q_209_58 : mjTb 209 58 = some (.bipush 40, 2, 5, []) := by decide +kernel
theorem q_209_60 : mjTb 209 60 = some (.invokevirtual 339, 3, 6, [0, 210, 1, 10, 1789, 1791, 79, 142]) := by decide +kernel
theorem q_209_63 : mjTb 209 63 = some (.istore_n 3, 1, 2, []) := by decide +kernel
theorem q_209_64 : mjTb 209 64 = some (.aload_n 0, 1, 1, []) := by decide +kernel
theorem q_209_65 : mjTb 209 65 = some (.invokevirtual 379, 3, 6, [0, 211, 0, 10, 1793, 1795, 80, 142]) := by decide +kernel
theorem q_209_68 : mjTb 209 68 = some (.istore 4, 2, 2, []) := by decide +kernel
theorem q_209_70 : mjTb 209 70 = some (.aload_n 0, 1, 1, []) := by decide +kernel
theorem q_209_71 : mjTb 209 71 = some (.getfield 33, 3, 4, [10, 15, 1430]) := by decide +kernel
theorem q_209_74 : mjTb 209 74 = some (.aload_n 0, 1, 1, []) := by decide +kernel
theorem q_209_75 : mjTb 209 75 = some (.getfield 296, 3, 4, [10, 43, 1458]) := by decide +kernel
theorem q_209_78 : mjTb 209 78 = some (.iaload, 1, 4, []) := by decide +kernel
theorem q_209_79 : mjTb 209 79 = some (.bipush 60, 2, 5, []) := by decide +kernel
theorem q_209_81 : mjTb 209 81 = some (.if_icmp .eq 12, 3, 3, [93]) := by decide +kernel
theorem q_209_84 : mjTb 209 84 = some (.aload_n 0, 1, 1, []) := by decide +kernel
theorem q_209_85 : mjTb 209 85 = some (.getfield 358, 3, 4, [10, 47, 1462]) := by decide +kernel
theorem q_209_88 : mjTb 209 88 = some (.bipush 30, 2, 5, []) := by decide +kernel
theorem q_209_90 : mjTb 209 90 = some (.if_icmp .ne 7, 3, 3, [97]) := by decide +kernel
theorem q_209_93 : mjTb 209 93 = some (.iconst 1, 1, 0, []) := by decide +kernel
theorem q_209_94 : mjTb 209 94 = some (.goto 4, 3, 3, [98]) := by decide +kernel
theorem q_209_97 : mjTb 209 97 = some (.iconst 0, 1, 0, []) := by decide +kernel
theorem q_209_98 : mjTb 209 98 = some (.istore 5, 2, 2, []) := by decide +kernel
theorem q_209_100 : mjTb 209 100 = some (.iload_n 2, 1, 1, []) := by decide +kernel
theorem q_209_101 : mjTb 209 101 = some (.ifCond .ne 25, 3, 3, [126]) := by decide +kernel
theorem q_209_104 : mjTb 209 104 = some (.iload 4, 2, 1, []) := by decide +kernel
theorem q_209_106 : mjTb 209 106 = some (.ifCond .ne 15, 3, 3, [121]) := by decide +kernel
theorem q_209_109 : mjTb 209 109 = some (.aload_n 0, 1, 1, []) := by decide +kernel
theorem q_209_110 : mjTb 209 110 = some (.getfield 243, 3, 4, [10, 8, 1423]) := by decide +kernel
theorem q_209_113 : mjTb 209 113 = some (.iconst 4, 1, 0, []) := by decide +kernel
theorem q_209_114 : mjTb 209 114 = some (.if_icmp .eq 7, 3, 3, [121]) := by decide +kernel
theorem q_209_117 : mjTb 209 117 = some (.iload_n 3, 1, 1, []) := by decide +kernel
theorem q_209_118 : mjTb 209 118 = some (.ifCond .eq 25, 3, 3, [143]) := by decide +kernel
theorem q_209_121 : mjTb 209 121 = some (.iload 5, 2, 1, []) := by decide +kernel
theorem q_209_123 : mjTb 209 123 = some (.ifCond .ne 20, 3, 3, [143]) := by decide +kernel
theorem q_209_126 : mjTb 209 126 = some (.iload_n 2, 1, 1, []) := by decide +kernel
theorem q_209_127 : mjTb 209 127 = some (.ifCond .ne 7, 3, 3, [134]) := by decide +kernel
theorem q_209_130 : mjTb 209 130 = some (.iload_n 3, 1, 1, []) := by decide +kernel
theorem q_209_131 : mjTb 209 131 = some (.ifCond .eq 16, 3, 3, [147]) := by decide +kernel
theorem q_209_134 : mjTb 209 134 = some (.aload_n 0, 1, 1, []) := by decide +kernel
theorem q_209_135 : mjTb 209 135 = some (.getfield 367, 3, 4, [10, 45, 1460]) := by decide +kernel
theorem q_209_138 : mjTb 209 138 = some (.bipush 7, 2, 5, []) := by decide +kernel
theorem q_209_140 : mjTb 209 140 = some (.if_icmp .ne 7, 3, 3, [147]) := by decide +kernel
theorem q_209_143 : mjTb 209 143 = some (.aload_n 0, 1, 1, []) := by decide +kernel
theorem q_209_144 : mjTb 209 144 = some (.invokevirtual 278, 3, 6, [0, 192, 0, 10, 1717, 1719, 61, 142]) := by decide +kernel
theorem q_209_147 : mjTb 209 147 = some (.aload_n 0, 1, 1, []) := by decide +kernel
theorem q_209_148 : mjTb 209 148 = some (.invokevirtual 271, 3, 6, [0, 187, 0, 10, 1698, 1700, 57, 142]) := by decide +kernel
theorem q_209_151 : mjTb 209 151 = some (.ifCond .ne 5, 3, 3, [156]) := by decide +kernel
theorem q_209_154 : mjTb 209 154 = some (.iconst 1, 1, 0, []) := by decide +kernel
theorem q_209_155 : mjTb 209 155 = some (.ireturn, 1, 8, []) := by decide +kernel
theorem q_209_156 : mjTb 209 156 = some (.aload_n 0, 1, 1, []) := by decide +kernel
theorem q_209_157 : mjTb 209 157 = some (.getfield 33, 3, 4, [10, 15, 1430]) := by decide +kernel
theorem q_209_160 : mjTb 209 160 = some (.aload_n 0, 1, 1, []) := by decide +kernel
theorem q_209_161 : mjTb 209 161 = some (.getfield 296, 3, 4, [10, 43, 1458]) := by decide +kernel
theorem q_209_164 : mjTb 209 164 = some (.dup2, 1, 0, []) := by decide +kernel
theorem q_209_165 : mjTb 209 165 = some (.iaload, 1, 4, []) := by decide +kernel
theorem q_209_166 : mjTb 209 166 = some (.iload_n 2, 1, 1, []) := by decide +kernel
theorem q_209_167 : mjTb 209 167 = some (.ifCond .eq 7, 3, 3, [174]) := by decide +kernel
theorem q_209_170 : mjTb 209 170 = some (.iconst 0, 1, 0, []) := by decide +kernel
theorem q_209_171 : mjTb 209 171 = some (.goto 4, 3, 3, [175]) := by decide +kernel
theorem q_209_174 : mjTb 209 174 = some (.iconst 1, 1, 0, []) := by decide +kernel
theorem q_209_175 : mjTb 209 175 = some (.iadd, 1, 0, []) := by decide +kernel
theorem q_209_176 : mjTb 209 176 = some (.iastore, 1, 4, []) := by decide +kernel
theorem q_209_177 : mjTb 209 177 = some (.aload_n 0, 1, 1, []) := by decide +kernel
theorem q_209_178 : mjTb 209 178 = some (.dup, 1, 0, []) := by decide +kernel
theorem q_209_179 : mjTb 209 179 = some (.getfield 358, 3, 4, [10, 47, 1462]) := by decide +kernel
theorem q_209_182 : mjTb 209 182 = some (.iload_n 2, 1, 1, []) := by decide +kernel
theorem q_209_183 : mjTb 209 183 = some (.ifCond .eq 7, 3, 3, [190]) := by decide +kernel
theorem q_209_186 : mjTb 209 186 = some (.iconst 0, 1, 0, []) := by decide +kernel
theorem q_209_187 : mjTb 209 187 = some (.goto 4, 3, 3, [191]) := by decide +kernel
theorem q_209_190 : mjTb 209 190 = some (.iconst 1, 1, 0, []) := by decide +kernel
theorem q_209_191 : mjTb 209 191 = some (.iadd, 1, 0, []) := by decide +kernel
theorem q_209_192 : mjTb 209 192 = some (.putfield 358, 3, 4, [10, 47, 1462]) := by decide +kernel
theorem q_209_195 : mjTb 209 195 = some (.iload 4, 2, 1, []) := by decide +kernel
theorem q_209_197 : mjTb 209 197 = some (.ifCond .ne 10, 3, 3, [207]) := by decide +kernel
theorem q_209_200 : mjTb 209 200 = some (.aload_n 0, 1, 1, []) := by decide +kernel
theorem q_209_201 : mjTb 209 201 = some (.getfield 261, 3, 4, [10, 9, 1424]) := by decide +kernel
theorem q_209_204 : mjTb 209 204 = some (.goto 4, 3, 3, [208]) := by decide +kernel
theorem q_209_207 : mjTb 209 207 = some (.iconst 0, 1, 0, []) := by decide +kernel
theorem q_209_208 : mjTb 209 208 = some (.istore 6, 2, 2, []) := by decide +kernel
theorem q_209_210 : mjTb 209 210 = some (.aload_n 0, 1, 1, []) := by decide +kernel
theorem q_209_211 : mjTb 209 211 = some (.invokevirtual 275, 3, 6, [0, 181, 0, 10, 1651, 1653, 55, 142]) := by decide +kernel
theorem q_209_214 : mjTb 209 214 = some (.iload_n 2, 1, 1, []) := by decide +kernel
theorem q_209_215 : mjTb 209 215 = some (.ifCond .ne 7, 3, 3, [222]) := by decide +kernel
theorem q_209_218 : mjTb 209 218 = some (.iload_n 3, 1, 1, []) := by decide +kernel
theorem q_209_219 : mjTb 209 219 = some (.ifCond .eq 31, 3, 3, [250]) := by decide +kernel
theorem q_209_222 : mjTb 209 222 = some (.aload_n 0, 1, 1, []) := by decide +kernel
theorem q_209_223 : mjTb 209 223 = some (.iload_n 2, 1, 1, []) := by decide +kernel
theorem q_209_224 : mjTb 209 224 = some (.ifCond .eq 7, 3, 3, [231]) := by decide +kernel
theorem q_209_227 : mjTb 209 227 = some (.iconst 3, 1, 0, []) := by decide +kernel
theorem q_209_228 : mjTb 209 228 = some (.goto 5, 3, 3, [233]) := by decide +kernel
theorem q_209_231 : mjTb 209 231 = some (.bipush 7, 2, 5, []) := by decide +kernel
theorem q_209_233 : mjTb 209 233 = some (.bipush 126, 2, 5, []) := by decide +kernel
theorem q_209_235 : mjTb 209 235 = some (.invokevirtual 370, 3, 6, [0, 208, 2, 10, 1781, 1783, 77, 142]) := by decide +kernel
theorem q_209_238 : mjTb 209 238 = some (.aload_n 0, 1, 1, []) := by decide +kernel
theorem q_209_239 : mjTb 209 239 = some (.dup, 1, 0, []) := by decide +kernel
theorem q_209_240 : mjTb 209 240 = some (.getfield 367, 3, 4, [10, 45, 1460]) := by decide +kernel
theorem q_209_243 : mjTb 209 243 = some (.iconst 1, 1, 0, []) := by decide +kernel
theorem q_209_244 : mjTb 209 244 = some (.iadd, 1, 0, []) := by decide +kernel
theorem q_209_245 : mjTb 209 245 = some (.putfield 367, 3, 4, [10, 45, 1460]) := by decide +kernel
theorem q_209_248 : mjTb 209 248 = some (.iconst 1, 1, 0, []) := by decide +kernel
theorem q_209_249 : mjTb 209 249 = some (.ireturn, 1, 8, []) := by decide +kernel
theorem q_209_250 : mjTb 209 250 = some (.aload_n 0, 1, 1, []) := by decide +kernel
theorem q_209_251 : mjTb 209 251 = some (.iload 4, 2, 1, []) := by decide +kernel
theorem q_209_253 : mjTb 209 253 = some (.ifCond .ne 8, 3, 3, [261]) := by decide +kernel
theorem q_209_256 : mjTb 209 256 = some (.bipush 110, 2, 5, []) := by decide +kernel
theorem q_209_258 : mjTb 209 258 = some (.goto 5, 3, 3, [263]) := by decide +kernel
theorem q_209_261 : mjTb 209 261 = some (.iload 4, 2, 1, []) := by decide +kernel
theorem q_209_263 : mjTb 209 263 = some (.iload 6, 2, 1, []) := by decide +kernel
theorem q_209_265 : mjTb 209 265 = some (.invokevirtual 383, 3, 6, [0, 212, 2, 10, 1797, 1799, 81, 142]) := by decide +kernel
theorem q_209_268 : mjTb 209 268 = some (.iconst 0, 1, 0, []) := by decide +kernel
theorem q_209_269 : mjTb 209 269 = some (.ireturn, 1, 8, []) := by decide +kernel
theorem q_210_0 : mjTb 210 0 = some (.aload_n 0, 1, 1, []) := by decide +kernel
theorem q_210_1 : mjTb 210 1 = some (.getfield 243, 3, 4, [10, 8, 1423]) := by decide +kernel
theorem q_210_4 : mjTb 210 4 = some (.iconst 5, 1, 0, []) := by decide +kernel
theorem q_210_5 : mjTb 210 5 = some (.if_icmp .ne 19, 3, 3, [24]) := by decide +kernel
theorem q_210_8 : mjTb 210 8 = some (.aload_n 0, 1, 1, []) := by decide +kernel
theorem q_210_9 : mjTb 210 9 = some (.aload_n 0, 1, 1, []) := by decide +kernel
theorem q_210_10 : mjTb 210 10 = some (.getfield 236, 3, 4, [10, 6, 1421]) := by decide +kernel
theorem q_210_13 : mjTb 210 13 = some (.invokevirtual 239, 3, 6, [0, 182, 1, 10, 1655, 1657, 56, 142]) := by decide +kernel
theorem q_210_16 : mjTb 210 16 = some (.iload_n 1, 1, 1, []) := by decide +kernel
theorem q_210_17 : mjTb 210 17 = some (.if_icmp .ne 7, 3, 3, [24]) := by decide +kernel
theorem q_210_20 : mjTb 210 20 = some (.iconst 1, 1, 0, []) := by decide +kernel
theorem q_210_21 : mjTb 210 21 = some (.goto 4, 3, 3, [25]) := by decide +kernel
theorem q_210_24 : mjTb 210 24 = some (.iconst 0, 1, 0, []) := by decide +kernel
theorem q_210_25 : mjTb 210 25 = some (.ireturn, 1, 8, []) := by decide +kernel
theorem q_211_0 : mjTb 211 0 = some (.aload_n 0, 1, 1, []) := by decide +kernel
theorem q_211_1 : mjTb 211 1 = some (.ldc2_w 189, 3, 5, [1936617335, 1670]) := by decide +kernel
theorem q_211_4 : mjTb 211 4 = some (.invokevirtual 285, 3, 6, [0, 190, 1, 10, 1710, 1712, 60, 142]) := by decide +kernel
theorem q_211_7 : mjTb 211 7 = some (.ifCond .eq 6, 3, 3, [13]) := by decide +kernel
theorem q_211_10 : mjTb 211 10 = some (.bipush 115, 2, 5, []) := by decide +kernel
theorem q_211_12 : mjTb 211 12 = some (.ireturn, 1, 8, []) := by decide +kernel
theorem q_211_13 : mjTb 211 13 = some (.aload_n 0, 1, 1, []) := by decide +kernel
theorem q_211_14 : mjTb 211 14 = some (.ldc2_w 185, 3, 5, [495874041200, 1668]) := by decide +kernel
theorem q_211_17 : mjTb 211 17 = some (.invokevirtual 285, 3, 6, [0, 190, 1, 10, 1710, 1712, 60, 142]) := by decide +kernel
theorem q_211_20 : mjTb 211 20 = some (.ifCond .eq 6, 3, 3, [26]) := by decide +kernel
theorem q_211_23 : mjTb 211 23 = some (.bipush 116, 2, 5, []) := by decide +kernel
theorem q_211_25 : mjTb 211 25 = some (.ireturn, 1, 8, []) := by decide +kernel
theorem q_211_26 : mjTb 211 26 = some (.aload_n 0, 1, 1, []) := by decide +kernel
theorem q_211_27 : mjTb 211 27 = some (.ldc2_w 207, 3, 5, [474315584357, 1679]) := by decide +kernel
theorem q_211_30 : mjTb 211 30 = some (.invokevirtual 285, 3, 6, [0, 190, 1, 10, 1710, 1712, 60, 142]) := by decide +kernel
theorem q_211_33 : mjTb 211 33 = some (.ifCond .eq 6, 3, 3, [39]) := by decide +kernel
theorem q_211_36 : mjTb 211 36 = some (.bipush 111, 2, 5, []) := by decide +kernel
theorem q_211_38 : mjTb 211 38 = some (.ireturn, 1, 8, []) := by decide +kernel
theorem q_211_39 : mjTb 211 39 = some (.aload_n 0, 1, 1, []) := by decide +kernel
theorem q_211_40 : mjTb 211 40 = some (.ldc2_w 221, 3, 5, [422608400247, 1686]) := by decide +kernel
theorem q_211_43 : mjTb 211 43 = some (.invokevirtual 285, 3, 6, [0, 190, 1, 10, 1710, 1712, 60, 142]) := by decide +kernel
theorem q_211_46 : mjTb 211 46 = some (.ifCond .eq 6, 3, 3, [52]) := by decide +kernel
theorem q_211_49 : mjTb 211 49 = some (.bipush 98, 2, 5, []) := by decide +kernel
theorem q_211_51 : mjTb 211 51 = some (.ireturn, 1, 8, []) := by decide +kernel
theorem q_211_52 : mjTb 211 52 = some (.aload_n 0, 1, 1, []) := by decide +kernel
theorem q_211_53 : mjTb 211 53 = some (.ldc2_w 223, 3, 5, [1752135026, 1687]) := by decide +kernel
theorem q_211_56 : mjTb 211 56 = some (.invokevirtual 285, 3, 6, [0, 190, 1, 10, 1710, 1712, 60, 142]) := by decide +kernel
theorem q_211_59 : mjTb 211 59 = some (.ifCond .eq 6, 3, 3, [65]) := by decide +kernel
theorem q_211_62 : mjTb 211 62 = some (.bipush 104, 2, 5, []) := by decide +kernel
theorem q_211_64 : mjTb 211 64 = some (.ireturn, 1, 8, []) := by decide +kernel
theorem q_211_65 : mjTb 211 65 = some (.aload_n 0, 1, 1, []) := by decide +kernel
theorem q_211_66 : mjTb 211 66 = some (.ldc2_w 225, 3, 5, [7499639, 1688]) := by decide +kernel
theorem q_211_69 : mjTb 211 69 = some (.invokevirtual 285, 3, 6, [0, 190, 1, 10, 1710, 1712, 60, 142]) := by decide +kernel
theorem q_211_72 : mjTb 211 72 = some (.ifCond .eq 8, 3, 3, [80]) := by decide +kernel
theorem q_211_75 : mjTb 211 75 = some (.bipush 114, 2, 5, []) := by decide +kernel
theorem q_211_77 : mjTb 211 77 = some (.goto 4, 3, 3, [81]) := by decide +kernel
theorem q_211_80 : mjTb 211 80 = some (.iconst 0, 1, 0, []) := by decide +kernel
theorem q_211_81 : mjTb 211 81 = some (.ireturn, 1, 8, []) := by decide +kernel
theorem q_212_0 : mjTb 212 0 = some (.aload_n 0, 1, 1, []) := by decide +kernel
theorem q_212_1 : mjTb 212 1 = some (.getfield 100, 3, 4, [10, 37, 1452]) := by decide +kernel
theorem q_212_4 : mjTb 212 4 = some (.aload_n 0, 1, 1, []) := by decide +kernel
theorem q_212_5 : mjTb 212 5 = some (.getfield 303, 3, 4, [10, 44, 1459]) := by decide +kernel
theorem q_212_8 : mjTb 212 8 = some (.iload_n 1, 1, 1, []) := by decide +kernel
theorem q_212_9 : mjTb 212 9 = some (.iastore, 1, 4, []) := by decide +kernel
theorem q_212_10 : mjTb 212 10 = some (.aload_n 0, 1, 1, []) := by decide +kernel
theorem q_212_11 : mjTb 212 11 = some (.getfield 103, 3, 4, [10, 38, 1453]) := by decide +kernel
theorem q_212_14 : mjTb 212 14 = some (.aload_n 0, 1, 1, []) := by decide +kernel
theorem q_212_15 : mjTb 212 15 = some (.getfield 303, 3, 4, [10, 44, 1459]) := by decide +kernel
theorem q_212_18 : mjTb 212 18 = some (.iload_n 2, 1, 1, []) := by decide +kernel
theorem q_212_19 : mjTb 212 19 = some (.iastore, 1, 4, []) := by decide +kernel
theorem q_212_20 : mjTb 212 20 = some (.aload_n 0, 1, 1, []) := by decide +kernel
theorem q_212_21 : mjTb 212 21 = some (.dup, 1, 0, []) := by decide +kernel
theorem q_212_22 : mjTb 212 22 = some (.getfield 303, 3, 4, [10, 44, 1459]) := by decide +kernel
theorem q_212_25 : mjTb 212 25 = some (.iconst 1, 1, 0, []) := by decide +kernel
theorem q_212_26 : mjTb 212 26 = some (.iadd, 1, 0, []) := by decide +kernel
theorem q_212_27 : mjTb 212 27 = some (.putfield 303, 3, 4, [10, 44, 1459]) := by decide +kernel
theorem q_212_30 : mjTb 212 30 = some (.return_, 1, 8, []) := by decide +kernel
theorem q_213_0 : mjTb 213 0 = some (.aload_n 0, 1, 1, []) := by decide +kernel
theorem q_213_1 : mjTb 213 1 = some (.invokevirtual 386, 3, 6, [0, 214, 0, 10, 1805, 1807, 83, 142]) := by decide +kernel
theorem q_213_4 : mjTb 213 4 = some (.istore_n 1, 1, 2, []) := by decide +kernel
theorem q_213_5 : mjTb 213 5 = some (.iload_n 1, 1, 1, []) := by decide +kernel
theorem q_213_6 : mjTb 213 6 = some (.iconst 4, 1, 0, []) := by decide +kernel
theorem q_213_7 : mjTb 213 7 = some (.if_icmp .ne 16, 3, 3, [23]) := by decide +kernel
theorem q_213_10 : mjTb 213 10 = some (.aload_n 0, 1, 1, []) := by decide +kernel
theorem q_213_11 : mjTb 213 11 = some (.invokevirtual 389, 3, 6, [0, 215, 0, 10, 1809, 1811, 84, 142]) := by decide +kernel
theorem q_213_14 : mjTb 213 14 = some (.ifCond .eq 9, 3, 3, [23]) := by decide +kernel
theorem q_213_17 : mjTb 213 17 = some (.aload_n 0, 1, 1, []) := by decide +kernel
theorem q_213_18 : mjTb 213 18 = some (.invokevirtual 278, 3, 6, [0, 192, 0, 10, 1717, 1719, 61, 142]) := by decide +kernel
theorem q_213_21 : mjTb 213 21 = some (.iconst 1, 1, 0, []) := by decide +kernel
theorem q_213_22 : mjTb 213 22 = some (.ireturn, 1, 8, []) := by decide +kernel
theorem q_213_23 : mjTb 213 23 = some (.aload_n 0, 1, 1, []) := by decide +kernel
theorem q_213_24 : mjTb 213 24 = some (.getfield 106, 3, 4, [10, 39, 1454]) := by decide +kernel
theorem q_213_27 : mjTb 213 27 = some (.aload_n 0, 1, 1, []) := by decide +kernel
theorem q_213_28 : mjTb 213 28 = some (.getfield 364, 3, 4, [10, 46, 1461]) := by decide +kernel
theorem q_213_31 : mjTb 213 31 = some (.iconst 1, 1, 0, []) := by decide +kernel
theorem q_213_32 : mjTb 213 32 = some (.isub, 1, 0, []) := by decide +kernel
theorem q_213_33 : mjTb 213 33 = some (.iaload, 1, 4, []) := by decide +kernel
theorem q_213_34 : mjTb 213 34 = some (.bipush 6, 2, 5, []) := by decide +kernel
theorem q_213_36 : mjTb 213 36 = some (.if_icmp .gt 68, 3, 3, [104]) := by decide +kernel
theorem q_213_39 : mjTb 213 39 = some (.aload_n 0, 1, 1, []) := by decide +kernel
theorem q_213_40 : mjTb 213 40 = some (.getfield 106, 3, 4, [10, 39, 1454]) := by decide +kernel
theorem q_213_43 : mjTb 213 43 = some (.aload_n 0, 1, 1, []) := by decide +kernel
theorem q_213_44 : mjTb 213 44 = some (.getfield 364, 3, 4, [10, 46, 1461]) := by decide +kernel
theorem q_213_47 : mjTb 213 47 = some (.iconst 1, 1, 0, []) := by decide +kernel
theorem q_213_48 : mjTb 213 48 = some (.isub, 1, 0, []) := by decide +kernel
theorem q_213_49 : mjTb 213 49 = some (.iaload, 1, 4, []) := by decide +kernel
theorem q_213_50 : mjTb 213 50 = some (.iload_n 1, 1, 1, []) := by decide +kernel
theorem q_213_51 : mjTb 213 51 = some (.if_icmp .lt 53, 3, 3, [104]) := by decide +kernel
theorem q_213_54 : mjTb 213 54 = some (.aload_n 0, 1, 1, []) := by decide +kernel
theorem q_213_55 : mjTb 213 55 = some (.dup, 1, 0, []) := by decide +kernel
theorem q_213_56 : mjTb 213 56 = some (.getfield 364, 3, 4, [10, 46, 1461]) := by decide +kernel
theorem q_213_59 : mjTb 213 59 = some (.iconst 1, 1, 0, []) := by decide +kernel
theorem q_213_60 : mjTb 213 60 = some (.isub, 1, 0, []) := by decide +kernel
theorem q_213_61 : mjTb 213 61 = some (.putfield 364, 3, 4, [10, 46, 1461]) := by decide +kernel
theorem q_213_64 : mjTb 213 64 = some (.aload_n 0, 1, 1, []) := by decide +kernel
theorem q_213_65 : mjTb 213 65 = some (.getfield 106, 3, 4, [10, 39, 1454]) := by decide +kernel
theorem q_213_68 : mjTb 213 68 = some (.aload_n 0, 1, 1, []) := by decide +kernel
theorem q_213_69 : mjTb 213 69 = some (.getfield 364, 3, 4, [10, 46, 1461]) := by decide +kernel
theorem q_213_72 : mjTb 213 72 = some (.iaload, 1, 4, []) := by decide +kernel
theorem q_213_73 : mjTb 213 73 = some (.iconst 3, 1, 0, []) := by decide +kernel
theorem q_213_74 : mjTb 213 74 = some (.if_icmp .ne 13, 3, 3, [87]) := by decide +kernel
theorem q_213_77 : mjTb 213 77 = some (.aload_n 0, 1, 1, []) := by decide +kernel
theorem q_213_78 : mjTb 213 78 = some (.dup, 1, 0, []) := by decide +kernel
theorem q_213_79 : mjTb 213 79 = some (.getfield 367, 3, 4, [10, 45, 1460]) := by decide +kernel
theorem q_213_82 : mjTb 213 82 = some (.iconst 1, 1, 0, []) := by decide +kernel
theorem q_213_83 : mjTb 213 83 = some (.isub, 1, 0, []) := by decide +kernel
theorem q_213_84 : mjTb 213 84 = some (.putfield 367, 3, 4, [10, 45, 1460]) := by decide +kernel
theorem q_213_87 : mjTb 213 87 = some (.aload_n 0, 1, 1, []) := by decide +kernel
theorem q_213_88 : mjTb 213 88 = some (.aload_n 0, 1, 1, []) := by decide +kernel
theorem q_213_89 : mjTb 213 89 = some (.getfield 109, 3, 4, [10, 40, 1455]) := by decide +kernel
theorem q_213_92 : mjTb 213 92 = some (.aload_n 0, 1, 1, []) := by decide +kernel
theorem q_213_93 : mjTb 213 93 = some (.getfield 364, 3, 4, [10, 46, 1461]) := by decide +kernel
theorem q_213_96 : mjTb 213 96 = some (.iaload, 1, 4, []) := by decide +kernel
theorem q_213_97 : mjTb 213 97 = some (.iconst 0, 1, 0, []) := by decide +kernel
theorem q_213_98 : mjTb 213 98 = some (.invokevirtual 383, 3, 6, [0, 212, 2, 10, 1797, 1799, 81, 142]) := by decide +kernel
theorem q_213_101 : mjTb 213 101 = some (.goto (-78), 3, 3, [23]) := by decide +kernel
theorem q_213_104 : mjTb 213 104 = some (.iload_n 1, 1, 1, []) := by decide +kernel
theorem q_213_105 : mjTb 213 105 = some (.ifCond .le 42, 3, 3, [147]) := by decide +kernel
theorem q_213_108 : mjTb 213 108 = some (.aload_n 0, 1, 1, []) := by decide +kernel
theorem q_213_109 : mjTb 213 109 = some (.iload_n 1, 1, 1, []) := by decide +kernel
theorem q_213_110 : mjTb 213 110 = some (.iload_n 1, 1, 1, []) := by decide +kernel
theorem q_213_111 : mjTb 213 111 = some (.iconst 2, 1, 0, []) := by decide +kernel
theorem q_213_112 : mjTb 213 112 = some (.if_icmp .ne 8, 3, 3, [120]) := by decide +kernel
theorem q_213_115 : mjTb 213 115 = some (.bipush 38, 2, 5, []) := by decide +kernel
theorem q_213_117 : mjTb 213 117 = some (.goto 21, 3, 3, [138]) := by decide +kernel
theorem q_213_120 : mjTb 213 120 = some (.iload_n 1, 1, 1, []) := by decide +kernel
theorem q_213_121 : mjTb 213 121 = some (.iconst 1, 1, 0, []) := by decide +kernel
theorem q_213_122 : mjTb 213 122 = some (.if_icmp .ne 8, 3, 3, [130]) := by decide +kernel
theorem q_213_125 : mjTb 213 125 = some (.bipush 124, 2, 5, []) := by decide +kernel
theorem q_213_127 : mjTb 213 127 = some (.goto 11, 3, 3, [138]) := by decide +kernel
theorem q_213_130 : mjTb 213 130 = some (.aload_n 0, 1, 1, []) := by decide +kernel
theorem q_213_131 : mjTb 213 131 = some (.aload_n 0, 1, 1, []) := by decide +kernel
theorem q_213_132 : mjTb 213 132 = some (.getfield 236, 3, 4, [10, 6, 1421]) := by decide +kernel
theorem q_213_135 : mjTb 213 135 = some (.invokevirtual 239, 3, 6, [0, 182, 1, 10, 1655, 1657, 56, 142]) := by decide +kernel
theorem q_213_138 : mjTb 213 138 = some (.invokevirtual 370, 3, 6, [0, 208, 2, 10, 1781, 1783, 77, 142]) := by decide +kernel
theorem q_213_141 : mjTb 213 141 = some (.aload_n 0, 1, 1, []) := by decide +kernel
theorem q_213_142 : mjTb 213 142 = some (.invokevirtual 275, 3, 6, [0, 181, 0, 10, 1651, 1653, 55, 142]) := by decide +kernel
theorem q_213_145 : mjTb 213 145 = some (.iconst 1, 1, 0, []) := by decide +kernel
theorem q_213_146 : mjTb 213 146 = some (.ireturn, 1, 8, []) := by decide +kernel
theorem q_213_147 : mjTb 213 147 = some (.aload_n 0, 1, 1, []) := by decide +kernel
theorem q_213_148 : mjTb 213 148 = some (.dup, 1, 0, []) := by decide +kernel
theorem q_213_149 : mjTb 213 149 = some (.getfield 364, 3, 4, [10, 46, 1461]) := by decide +kernel
theorem q_213_152 : mjTb 213 152 = some (.iconst 1, 1, 0, []) := by decide +kernel
theorem q_213_153 : mjTb 213 153 = some (.isub, 1, 0, []) := by decide +kernel
theorem q_213_154 : mjTb 213 154 = some (.putfield 364, 3, 4, [10, 46, 1461]) := by decide +kernel
theorem q_213_157 : mjTb 213 157 = some (.aload_n 0, 1, 1, []) := by decide +kernel
theorem q_213_158 : mjTb 213 158 = some (.getfield 106, 3, 4, [10, 39, 1454]) := by decide +kernel
theorem q_213_161 : mjTb 213 161 = some (.aload_n 0, 1, 1, []) := by decide +kernel
theorem q_213_162 : mjTb 213 162 = some (.getfield 364, 3, 4, [10, 46, 1461]) := by decide +kernel
theorem q_213_165 : mjTb 213 165 = some (.iaload, 1, 4, []) := by decide +kernel
theorem q_213_166 : mjTb 213 166 = some (.bipush 7, 2, 5, []) := by decide +kernel
theorem q_213_168 : mjTb 213 168 = some (.if_icmp .ne 23, 3, 3, [191]) := by decide +kernel
theorem q_213_171 : mjTb 213 171 = some (.aload_n 0, 1, 1, []) := by decide +kernel
theorem q_213_172 : mjTb 213 172 = some (.dup, 1, 0, []) := by decide +kernel
theorem q_213_173 : mjTb 213 173 = some (.getfield 367, 3, 4, [10, 45, 1460]) := by decide +kernel
theorem q_213_176 : mjTb 213 176 = some (.iconst 1, 1, 0, []) := by decide +kernel
theorem q_213_177 : mjTb 213 177 = some (.isub, 1, 0, []) := by decide +kernel
theorem q_213_178 : mjTb 213 178 = some (.putfield 367, 3, 4, [10, 45, 1460]) := by decide +kernel
theorem q_213_181 : mjTb 213 181 = some (.aload_n 0, 1, 1, []) := by decide +kernel
theorem q_213_182 : mjTb 213 182 = some (.aload_n 0, 1, 1, []) := by decide +kernel
theorem q_213_183 : mjTb 213 183 = some (.bipush 41, 2, 5, []) := by decide +kernel
theorem q_213_185 : mjTb 213 185 = some (.invokevirtual 339, 3, 6, [0, 210, 1, 10, 1789, 1791, 79, 142]) := by decide +kernel
theorem q_213_188 : mjTb 213 188 = some (.invokevirtual 288, 3, 6, [0, 198, 1, 10, 1741, 1743, 67, 142]) := by decide +kernel
theorem q_213_191 : mjTb 213 191 = some (.iconst 0, 1, 0, []) := by decide +kernel
theorem q_213_192 : mjTb 213 192 = some (.ireturn, 1, 8, []) := by decide +kernel
theorem q_214_0 : mjTb 214 0 = some (.aload_n 0, 1, 1, []) := by decide +kernel
theorem q_214_1 : mjTb 214 1 = some (.ldc2_w 229, 3, 5, [6385252, 1690]) := by decide +kernel
theorem q_214_4 : mjTb 214 4 = some (.invokevirtual 285, 3, 6, [0, 190, 1, 10, 1710, 1712, 60, 142]) := by decide +kernel
theorem q_214_7 : mjTb 214 7 = some (.ifCond .eq 5, 3, 3, [12]) := by decide +kernel
theorem q_214_10 : mjTb 214 10 = some (.iconst 2, 1, 0, []) := by decide +kernel
theorem q_214_11 : mjTb 214 11 = some (.ireturn, 1, 8, []) := by decide +kernel
theorem q_214_12 : mjTb 214 12 = some (.aload_n 0, 1, 1, []) := by decide +kernel
theorem q_214_13 : mjTb 214 13 = some (.ldc2_w 227, 3, 5, [28530, 1689]) := by decide +kernel
theorem q_214_16 : mjTb 214 16 = some (.invokevirtual 285, 3, 6, [0, 190, 1, 10, 1710, 1712, 60, 142]) := by decide +kernel
theorem q_214_19 : mjTb 214 19 = some (.ifCond .eq 5, 3, 3, [24]) := by decide +kernel
theorem q_214_22 : mjTb 214 22 = some (.iconst 1, 1, 0, []) := by decide +kernel
theorem q_214_23 : mjTb 214 23 = some (.ireturn, 1, 8, []) := by decide +kernel
theorem q_214_24 : mjTb 214 24 = some (.aload_n 0, 1, 1, []) := by decide +kernel
theorem q_214_25 : mjTb 214 25 = some (.bipush 60, 2, 5, []) := by decide +kernel
theorem q_214_27 : mjTb 214 27 = some (.invokevirtual 339, 3, 6, [0, 210, 1, 10, 1789, 1791, 79, 142]) := by decide +kernel
theorem q_214_30 : mjTb 214 30 = some (.ifCond .ne 21, 3, 3, [51]) := by decide +kernel
theorem q_214_33 : mjTb 214 33 = some (.aload_n 0, 1, 1, []) := by decide +kernel
theorem q_214_34 : mjTb 214 34 = some (.bipush 62, 2, 5, []) := by decide +kernel
theorem q_214_36 : mjTb 214 36 = some (.invokevirtual 339, 3, 6, [0, 210, 1, 10, 1789, 1791, 79, 142]) := by decide +kernel
theorem q_214_39 : mjTb 214 39 = some (.ifCond .ne 12, 3, 3, [51]) := by decide +kernel
theorem q_214_42 : mjTb 214 42 = some (.aload_n 0, 1, 1, []) := by decide +kernel
theorem q_214_43 : mjTb 214 43 = some (.bipush 61, 2, 5, []) := by decide +kernel
theorem q_214_45 : mjTb 214 45 = some (.invokevirtual 339, 3, 6, [0, 210, 1, 10, 1789, 1791, 79, 142]) := by decide +kernel
theorem q_214_48 : mjTb 214 48 = some (.ifCond .eq 5, 3, 3, [53]) := by decide +kernel
theorem q_214_51 : mjTb 214 51 = some (.iconst 4, 1, 0, []) := by decide +kernel
theorem q_214_52 : mjTb 214 52 = some (.ireturn, 1, 8, []) := by decide +kernel
theorem q_214_53 : mjTb 214 53 = some (.aload_n 0, 1, 1, []) := by decide +kernel
theorem q_214_54 : mjTb 214 54 = some (.bipush 43, 2, 5, []) := by decide +kernel
theorem q_214_56 : mjTb 214 56 = some (.invokevirtual 339, 3, 6, [0, 210, 1, 10, 1789, 1791, 79, 142]) := by decide +kernel
theorem q_214_59 : mjTb 214 59 = some (.ifCond .ne 12, 3, 3, [71]) := by decide +kernel
theorem q_214_62 : mjTb 214 62 = some (.aload_n 0, 1, 1, []) := by decide +kernel
theorem q_214_63 : mjTb 214 63 = some (.bipush 45, 2, 5, []) := by decide +kernel
theorem q_214_65 : mjTb 214 65 = some (.invokevirtual 339, 3, 6, [0, 210, 1, 10, 1789, 1791, 79, 142]) := by decide +kernel
theorem q_214_68 : mjTb 214 68 = some (.ifCond .eq 5, 3, 3, [73]) := by decide +kernel
theorem q_214_71 : mjTb 214 71 = some (.iconst 5, 1, 0, []) := by decide +kernel
theorem q_214_72 : mjTb 214 72 = some (.ireturn, 1, 8, []) := by decide +kernel
theorem q_214_73 : mjTb 214 73 = some (.aload_n 0, 1, 1, []) := by decide +kernel
theorem q_214_74 : mjTb 214 74 = some (.bipush 42, 2, 5, []) := by decide +kernel
theorem q_214_76 : mjTb 214 76 = some (.invokevirtual 339, 3, 6, [0, 210, 1, 10, 1789, 1791, 79, 142]) := by decide +kernel
theorem q_214_79 : mjTb 214 79 = some (.ifCond .ne 21, 3, 3, [100]) := by decide +kernel
theorem q_214_82 : mjTb 214 82 = some (.aload_n 0, 1, 1, []) := by decide +kernel
theorem q_214_83 : mjTb 214 83 = some (.bipush 47, 2, 5, []) := by decide +kernel
theorem q_214_85 : mjTb 214 85 = some (.invokevirtual 339, 3, 6, [0, 210, 1, 10, 1789, 1791, 79, 142]) := by decide +kernel
theorem q_214_88 : mjTb 214 88 = some (.ifCond .ne 12, 3, 3, [100]) := by decide +kernel
theorem q_214_91 : mjTb 214 91 = some (.aload_n 0, 1, 1, []) := by decide +kernel
theorem q_214_92 : mjTb 214 92 = some (.bipush 37, 2, 5, []) := by decide +kernel
theorem q_214_94 : mjTb 214 94 = some (.invokevirtual 339, 3, 6, [0, 210, 1, 10, 1789, 1791, 79, 142]) := by decide +kernel
theorem q_214_97 : mjTb 214 97 = some (.ifCond .eq 8, 3, 3, [105]) := by decide +kernel
theorem q_214_100 : mjTb 214 100 = some (.bipush 6, 2, 5, []) := by decide +kernel
theorem q_214_102 : mjTb 214 102 = some (.goto 4, 3, 3, [106]) := by decide +kernel
theorem q_214_105 : mjTb 214 105 = some (.iconst 0, 1, 0, []) := by decide +kernel
theorem q_214_106 : mjTb 214 106 = some (.ireturn, 1, 8, []) := by decide +kernel
theorem q_215_0 : mjTb 215 0 = some (.aload_n 0, 1, 1, []) := by decide +kernel
theorem q_215_1 : mjTb 215 1 = some (.getfield 364, 3, 4, [10, 46, 1461]) := by decide +kernel
theorem q_215_4 : mjTb 215 4 = some (.iconst 1, 1, 0, []) := by decide +kernel
theorem q_215_5 : mjTb 215 5 = some (.isub, 1, 0, []) := by decide +kernel
theorem q_215_6 : mjTb 215 6 = some (.istore_n 1, 1, 2, []) := by decide +kernel
theorem q_215_7 : mjTb 215 7 = some (.aload_n 0, 1, 1, []) := by decide +kernel
theorem q_215_8 : mjTb 215 8 = some (.getfield 106, 3, 4, [10, 39, 1454]) := by decide +kernel
theorem q_215_11 : mjTb 215 11 = some (.iload_n 1, 1, 1, []) := by decide +kernel
theorem q_215_12 : mjTb 215 12 = some (.iaload, 1, 4, []) := by decide +kernel
theorem q_215_13 : mjTb 215 13 = some (.iconst 5, 1, 0, []) := by decide +kernel
theorem q_215_14 : mjTb 215 14 = some (.if_icmp .eq 14, 3, 3, [28]) := by decide +kernel
theorem q_215_17 : mjTb 215 17 = some (.aload_n 0, 1, 1, []) := by decide +kernel
theorem q_215_18 : mjTb 215 18 = some (.getfield 106, 3, 4, [10, 39, 1454]) := by decide +kernel
theorem q_215_21 : mjTb 215 21 = some (.iload_n 1, 1, 1, []) := by decide +kernel
theorem q_215_22 : mjTb 215 22 = some (.iaload, 1, 4, []) := by decide +kernel
theorem q_215_23 : mjTb 215 23 = some (.bipush 6, 2, 5, []) := by decide +kernel
theorem q_215_25 : mjTb 215 25 = some (.if_icmp .ne 9, 3, 3, [34]) := by decide +kernel
theorem q_215_28 : mjTb 215 28 = some (.iinc 1 (-1), 3, 2, []) := by decide +kernel
theorem q_215_31 : mjTb 215 31 = some (.goto (-24), 3, 3, [7]) := by decide +kernel
theorem q_215_34 : mjTb 215 34 = some (.aload_n 0, 1, 1, []) := by decide +kernel
theorem q_215_35 : mjTb 215 35 = some (.getfield 106, 3, 4, [10, 39, 1454]) := by decide +kernel
theorem q_215_38 : mjTb 215 38 = some (.iload_n 1, 1, 1, []) := by decide +kernel
theorem q_215_39 : mjTb 215 39 = some (.iaload, 1, 4, []) := by decide +kernel
theorem q_215_40 : mjTb 215 40 = some (.iconst 4, 1, 0, []) := by decide +kernel
theorem q_215_41 : mjTb 215 41 = some (.if_icmp .ne 7, 3, 3, [48]) := by decide +kernel
theorem q_215_44 : mjTb 215 44 = some (.iconst 1, 1, 0, []) := by decide +kernel
theorem q_215_45 : mjTb 215 45 = some (.goto 4, 3, 3, [49]) := by decide +kernel
theorem q_215_48 : mjTb 215 48 = some (.iconst 0, 1, 0, []) := by decide +kernel
theorem q_215_49 : mjTb 215 49 = some (.ireturn, 1, 8, []) := by decide +kernel
/-- the long at a place -/
def m4L (w : MjW) (a k : Nat) : Int64 := match mjFld w a k with | some (.long x) => x | _ => 0
theorem m4_lng {w : MjW} (hT : mjTyd m4S w) {a k r n : Nat} {lo hi : Int} (h0 : m4S.1 a = r) (hr : 0 < r) (hn : m4S.2.2.1 r = n) (hk : k < n) (ht : m4S.2.2.2 r k = (1, lo, hi)) : mjFld w a k = some (.long (m4L w a k)) := by
  obtain ⟨vs, g1, g2, g3⟩ := hT.at h0 hr
  have hv : vs[k]? = some vs[k] := List.getElem?_eq_getElem (by rw [g2, hn]; exact hk)
  have h9 := g3 k _ hv
  rw [ht] at h9
  obtain ⟨x, e1⟩ := h9
  have hf : mjFld w a k = some (.long x) := by unfold mjFld; rw [g1]; exact hv.trans (by rw [e1])
  unfold m4L
  rw [hf]
theorem ty_241_10 : m4S.2.2.2 241 10 = (1, 0, 0) := by decide +kernel
theorem fl_240_10 {w : MjW} (hT : mjTyd m4S w) : mjFld w 240 10 = some (.long (m4L w 240 10)) := m4_lng hT ro_240 (by decide) ln_241 (by decide) ty_241_10
theorem m4_hasL {x : Int64} : mjHasT m4S (.long x) (m4S.2.2.2 241 10) := by rw [ty_241_10]; exact ⟨x, rfl⟩
theorem m4_fitL {ci k : Nat} (h : mjTyp ci k = .long) {x : Int64} : mjFit (mjTyp ci k) (.long x) = true := by rw [h]; simp [mjFit, narrow, fits]
theorem mjKp.L {w w1 : MjW} {mods : List (Nat × Nat)} (h : mjKp m4S mods w w1) {a k r : Nat} (hr : m4S.1 a = r) (hm : aiMod mods r k = false) : m4L w1 a k = m4L w a k := by unfold m4L; rw [h.2 a k (by rw [hr]; exact hm)]
section M4H3
variable {sc : List Int32} {d y pc : Nat} {ls : MjL} {st st1 : List Value} {w : MjW} {P : Option Value → MjW → Prop} {M : MjM} {inf : List Nat} {ins : Instr} {len : Nat}
theorem h_lany {z : Int64} (hM : mjMt y = some M) (hq : mjTb y pc = some (ins, len, 0, inf)) (h : mjA ins st = some (.long z :: st1)) (k : ∀ z : Int64, mjGo mjTb mjMt sc d y (pc + 1, ls, .long z :: st1, w) P) : mjGo mjTb mjMt sc d y (pc, ls, st, w) P := g_A hM hq h (k z)
theorem h_bald {a r j : Nat} {x : Int32} {v : Value} (hM : mjMt y = some M) (hq : mjTb y pc = some (.baload, len, 4, inf)) (hT : mjTyd m4S w) (h0 : m4S.1 a = r) (hr : 0 < r) (hc : m4S.2.1 r = 101) (hx : x.toInt = (j : Int)) (hf : mjFld w a j = some v) (kk : mjGo mjTb mjMt sc d y (pc + 1, ls, v :: st, w) P) : mjGo mjTb mjMt sc d y (pc, ls, .int x :: .ref a :: st, w) P := by
  obtain ⟨vs, g1, -⟩ := m4_kd hT h0 hr hc
  have hv : vs[j]? = some v := by unfold mjFld at hf; rw [g1] at hf; exact hf
  have hj : j < vs.length := (List.getElem?_eq_some_iff.mp hv).1
  obtain ⟨i0, i1, i2⟩ := mj_ix (n := vs.length) (x := x) (lo := (j : Int)) (hi := (j : Int)) ⟨by omega, by omega⟩ (by omega) (by omega)
  have e : x.toNatClampNeg = j := by omega
  have hrd : mjRd vs x = some v := by unfold mjRd; rw [if_neg i0, e]; exact hv
  refine g_H (n := 1) (st1 := v :: st) (w1 := w) hM hq ?_ kk
  unfold mjH; simp only [g1]; rw [if_pos (Or.inl trivial), hrd]
/-- and-ing with a mask -/
theorem h_iand {x z : Int32} (hM : mjMt y = some M) (hq : mjTb y pc = some (.iand, len, 0, inf)) (hz : 0 ≤ z.toInt) (k : ∀ u : Int32, u = x &&& z → 0 ≤ u.toInt → u.toInt ≤ z.toInt → mjGo mjTb mjMt sc d y (pc + 1, ls, .int u :: st, w) P) : mjGo mjTb mjMt sc d y (pc, ls, .int z :: .int x :: st, w) P :=
  g_A hM hq rfl (k _ rfl (mj_and_r (x := x) hz).1 (mj_and_r (x := x) hz).2)
end M4H3
theorem mjHz_true : mjHz (fun _ => True) := fun e he => (by cases he)
/-- the byte of the text at a place, 0 behind its end -/
def m4Sg (w : MjW) (k : Int) : Int := if k < (m4X w 240 3).toInt then (m4X w 242 k.toNat &&& 255).toInt else 0
theorem m4Sg_eq {w w1 : MjW} (h1 : m4X w1 240 3 = m4X w 240 3) (h2 : ∀ j, m4X w1 242 j = m4X w 242 j) (k : Int) : m4Sg w1 k = m4Sg w k := by unfold m4Sg; rw [h1, h2]
