/-! ===== the law: its cases, its loop ===== -/
section MjLaw
variable {sc : List Int32} {d : Nat} {P : Option Value → MjW → Prop}
set_option maxRecDepth 100000 in
theorem mjCase_feed (h6 : sc.length = 6) (k : ∀ w2, mjShp w2 = mjShp mjW0 → mjGo mjTb mjMt sc (49 + 1) 0 (1661, mjL0, [], w2) P) : mjGo mjTb mjMt sc (49 + 1) 0 (252, mjL0, [], mjW0) P :=
  mj_case (pc := 252) (n := 5) (yx := 23) (ym := 311) (dx := 2) (dm := 1) (Lx := mjM_23.2.2.1) (Lm := mjM_311.2.2.1) (by decide +kernel) (by decide) h6 (Mx := mjM_23) (Mm := mjM_311) rfl rfl (by decide) (by decide) rfl rfl (by decide) (by decide) (by decide) (by decide) (mjPair_feed sc (sc.getD 1 0) (sc.getD 2 0) (sc.getD 3 0) (sc.getD 4 0) (sc.getD 5 0)) k
set_option maxRecDepth 100000 in
theorem mjCase_end (h6 : sc.length = 6) (k : ∀ w2, mjShp w2 = mjShp mjW0 → mjGo mjTb mjMt sc (49 + 1) 0 (1661, mjL0, [], w2) P) : mjGo mjTb mjMt sc (49 + 1) 0 (315, mjL0, [], mjW0) P :=
  mj_case (pc := 315) (n := 1) (yx := 25) (ym := 312) (dx := 1) (dm := 1) (Lx := mjM_25.2.2.1) (Lm := mjM_312.2.2.1) (by decide +kernel) (by decide) h6 (Mx := mjM_25) (Mm := mjM_312) rfl rfl (by decide) (by decide) rfl rfl (by decide) (by decide) (by decide) (by decide) (mjPair_end sc (sc.getD 1 0)) k
set_option maxRecDepth 100000 in
theorem mjCase_pass (h6 : sc.length = 6) (k : ∀ w2, mjShp w2 = mjShp mjW0 → mjGo mjTb mjMt sc (49 + 1) 0 (1661, mjL0, [], w2) P) : mjGo mjTb mjMt sc (49 + 1) 0 (338, mjL0, [], mjW0) P :=
  mj_case (pc := 338) (n := 0) (yx := 26) (ym := 180) (dx := 6) (dm := 4) (Lx := mjM_26.2.2.1) (Lm := mjM_180.2.2.1) (by decide +kernel) (by decide) h6 (Mx := mjM_26) (Mm := mjM_180) rfl rfl (by decide) (by decide) rfl rfl (by decide) (by decide) (by decide) (by decide) (mjPair_pass sc) k
set_option maxRecDepth 100000 in
theorem mjCase_fault (h6 : sc.length = 6) (k : ∀ w2, mjShp w2 = mjShp mjW0 → mjGo mjTb mjMt sc (49 + 1) 0 (1661, mjL0, [], w2) P) : mjGo mjTb mjMt sc (49 + 1) 0 (351, mjL0, [], mjW0) P :=
  mj_case (pc := 351) (n := 1) (yx := 66) (ym := 216) (dx := 1) (dm := 1) (Lx := mjM_66.2.2.1) (Lm := mjM_216.2.2.1) (by decide +kernel) (by decide) h6 (Mx := mjM_66) (Mm := mjM_216) rfl rfl (by decide) (by decide) rfl rfl (by decide) (by decide) (by decide) (by decide) (mjPair_fault sc (sc.getD 1 0)) k
set_option maxRecDepth 100000 in
theorem mjCase_cell (h6 : sc.length = 6) (k : ∀ w2, mjShp w2 = mjShp mjW0 → mjGo mjTb mjMt sc (49 + 1) 0 (1661, mjL0, [], w2) P) : mjGo mjTb mjMt sc (49 + 1) 0 (374, mjL0, [], mjW0) P :=
  mj_case (pc := 374) (n := 3) (yx := 67) (ym := 217) (dx := 6) (dm := 4) (Lx := mjM_67.2.2.1) (Lm := mjM_217.2.2.1) (by decide +kernel) (by decide) h6 (Mx := mjM_67) (Mm := mjM_217) rfl rfl (by decide) (by decide) rfl rfl (by decide) (by decide) (by decide) (by decide) (mjPair_cell sc (sc.getD 1 0) (sc.getD 2 0) (sc.getD 3 0)) k
set_option maxRecDepth 100000 in
theorem mjCase_room (h6 : sc.length = 6) (k : ∀ w2, mjShp w2 = mjShp mjW0 → mjGo mjTb mjMt sc (49 + 1) 0 (1661, mjL0, [], w2) P) : mjGo mjTb mjMt sc (49 + 1) 0 (417, mjL0, [], mjW0) P :=
  mj_case (pc := 417) (n := 2) (yx := 79) (ym := 233) (dx := 2) (dm := 3) (Lx := mjM_79.2.2.1) (Lm := mjM_233.2.2.1) (by decide +kernel) (by decide) h6 (Mx := mjM_79) (Mm := mjM_233) rfl rfl (by decide) (by decide) rfl rfl (by decide) (by decide) (by decide) (by decide) (mjPair_room sc (sc.getD 1 0) (sc.getD 2 0)) k
set_option maxRecDepth 100000 in
theorem mjCase_guest (h6 : sc.length = 6) (k : ∀ w2, mjShp w2 = mjShp mjW0 → mjGo mjTb mjMt sc (49 + 1) 0 (1661, mjL0, [], w2) P) : mjGo mjTb mjMt sc (49 + 1) 0 (450, mjL0, [], mjW0) P :=
  mj_case (pc := 450) (n := 2) (yx := 82) (ym := 235) (dx := 2) (dm := 3) (Lx := mjM_82.2.2.1) (Lm := mjM_235.2.2.1) (by decide +kernel) (by decide) h6 (Mx := mjM_82) (Mm := mjM_235) rfl rfl (by decide) (by decide) rfl rfl (by decide) (by decide) (by decide) (by decide) (mjPair_guest sc (sc.getD 1 0) (sc.getD 2 0)) k
set_option maxRecDepth 100000 in
theorem mjCase_noise (h6 : sc.length = 6) (k : ∀ w2, mjShp w2 = mjShp mjW0 → mjGo mjTb mjMt sc (49 + 1) 0 (1661, mjL0, [], w2) P) : mjGo mjTb mjMt sc (49 + 1) 0 (483, mjL0, [], mjW0) P :=
  mj_case (pc := 483) (n := 1) (yx := 85) (ym := 237) (dx := 5) (dm := 3) (Lx := mjM_85.2.2.1) (Lm := mjM_237.2.2.1) (by decide +kernel) (by decide) h6 (Mx := mjM_85) (Mm := mjM_237) rfl rfl (by decide) (by decide) rfl rfl (by decide) (by decide) (by decide) (by decide) (mjPair_noise sc (sc.getD 1 0)) k
set_option maxRecDepth 100000 in
theorem mjCase_hour (h6 : sc.length = 6) (k : ∀ w2, mjShp w2 = mjShp mjW0 → mjGo mjTb mjMt sc (49 + 1) 0 (1661, mjL0, [], w2) P) : mjGo mjTb mjMt sc (49 + 1) 0 (506, mjL0, [], mjW0) P :=
  mj_case (pc := 506) (n := 0) (yx := 86) (ym := 245) (dx := 5) (dm := 6) (Lx := mjM_86.2.2.1) (Lm := mjM_245.2.2.1) (by decide +kernel) (by decide) h6 (Mx := mjM_86) (Mm := mjM_245) rfl rfl (by decide) (by decide) rfl rfl (by decide) (by decide) (by decide) (by decide) (mjPair_hour sc) k
set_option maxRecDepth 100000 in
theorem mjCase_shout (h6 : sc.length = 6) (k : ∀ w2, mjShp w2 = mjShp mjW0 → mjGo mjTb mjMt sc (49 + 1) 0 (1661, mjL0, [], w2) P) : mjGo mjTb mjMt sc (49 + 1) 0 (519, mjL0, [], mjW0) P :=
  mj_case (pc := 519) (n := 2) (yx := 95) (ym := 252) (dx := 4) (dm := 5) (Lx := mjM_95.2.2.1) (Lm := mjM_252.2.2.1) (by decide +kernel) (by decide) h6 (Mx := mjM_95) (Mm := mjM_252) rfl rfl (by decide) (by decide) rfl rfl (by decide) (by decide) (by decide) (by decide) (mjPair_shout sc (sc.getD 1 0) (sc.getD 2 0)) k
set_option maxRecDepth 100000 in
theorem mjCase_move (h6 : sc.length = 6) (k : ∀ w2, mjShp w2 = mjShp mjW0 → mjGo mjTb mjMt sc (49 + 1) 0 (1661, mjL0, [], w2) P) : mjGo mjTb mjMt sc (49 + 1) 0 (552, mjL0, [], mjW0) P :=
  mj_case (pc := 552) (n := 2) (yx := 97) (ym := 254) (dx := 2) (dm := 3) (Lx := mjM_97.2.2.1) (Lm := mjM_254.2.2.1) (by decide +kernel) (by decide) h6 (Mx := mjM_97) (Mm := mjM_254) rfl rfl (by decide) (by decide) rfl rfl (by decide) (by decide) (by decide) (by decide) (mjPair_move sc (sc.getD 1 0) (sc.getD 2 0)) k
set_option maxRecDepth 100000 in
theorem mjCase_build (h6 : sc.length = 6) (k : ∀ w2, mjShp w2 = mjShp mjW0 → mjGo mjTb mjMt sc (49 + 1) 0 (1661, mjL0, [], w2) P) : mjGo mjTb mjMt sc (49 + 1) 0 (585, mjL0, [], mjW0) P :=
  mj_case (pc := 585) (n := 1) (yx := 98) (ym := 255) (dx := 2) (dm := 3) (Lx := mjM_98.2.2.1) (Lm := mjM_255.2.2.1) (by decide +kernel) (by decide) h6 (Mx := mjM_98) (Mm := mjM_255) rfl rfl (by decide) (by decide) rfl rfl (by decide) (by decide) (by decide) (by decide) (mjPair_build sc (sc.getD 1 0)) k
set_option maxRecDepth 100000 in
theorem mjCase_hush (h6 : sc.length = 6) (k : ∀ w2, mjShp w2 = mjShp mjW0 → mjGo mjTb mjMt sc (49 + 1) 0 (1661, mjL0, [], w2) P) : mjGo mjTb mjMt sc (49 + 1) 0 (608, mjL0, [], mjW0) P :=
  mj_case (pc := 608) (n := 1) (yx := 100) (ym := 257) (dx := 2) (dm := 3) (Lx := mjM_100.2.2.1) (Lm := mjM_257.2.2.1) (by decide +kernel) (by decide) h6 (Mx := mjM_100) (Mm := mjM_257) rfl rfl (by decide) (by decide) rfl rfl (by decide) (by decide) (by decide) (by decide) (mjPair_hush sc (sc.getD 1 0)) k
set_option maxRecDepth 100000 in
theorem mjCase_let (h6 : sc.length = 6) (k : ∀ w2, mjShp w2 = mjShp mjW0 → mjGo mjTb mjMt sc (49 + 1) 0 (1661, mjL0, [], w2) P) : mjGo mjTb mjMt sc (49 + 1) 0 (631, mjL0, [], mjW0) P :=
  mj_case (pc := 631) (n := 1) (yx := 101) (ym := 259) (dx := 2) (dm := 3) (Lx := mjM_101.2.2.1) (Lm := mjM_259.2.2.1) (by decide +kernel) (by decide) h6 (Mx := mjM_101) (Mm := mjM_259) rfl rfl (by decide) (by decide) rfl rfl (by decide) (by decide) (by decide) (by decide) (mjPair_let sc (sc.getD 1 0)) k
set_option maxRecDepth 100000 in
theorem mjCase_wall (h6 : sc.length = 6) (k : ∀ w2, mjShp w2 = mjShp mjW0 → mjGo mjTb mjMt sc (49 + 1) 0 (1661, mjL0, [], w2) P) : mjGo mjTb mjMt sc (49 + 1) 0 (654, mjL0, [], mjW0) P :=
  mj_case (pc := 654) (n := 3) (yx := 102) (ym := 260) (dx := 3) (dm := 4) (Lx := mjM_102.2.2.1) (Lm := mjM_260.2.2.1) (by decide +kernel) (by decide) h6 (Mx := mjM_102) (Mm := mjM_260) rfl rfl (by decide) (by decide) rfl rfl (by decide) (by decide) (by decide) (by decide) (mjPair_wall sc (sc.getD 1 0) (sc.getD 2 0) (sc.getD 3 0)) k
set_option maxRecDepth 100000 in
theorem mjCase_shovel (h6 : sc.length = 6) (k : ∀ w2, mjShp w2 = mjShp mjW0 → mjGo mjTb mjMt sc (49 + 1) 0 (1661, mjL0, [], w2) P) : mjGo mjTb mjMt sc (49 + 1) 0 (697, mjL0, [], mjW0) P :=
  mj_case (pc := 697) (n := 2) (yx := 103) (ym := 261) (dx := 3) (dm := 4) (Lx := mjM_103.2.2.1) (Lm := mjM_261.2.2.1) (by decide +kernel) (by decide) h6 (Mx := mjM_103) (Mm := mjM_261) rfl rfl (by decide) (by decide) rfl rfl (by decide) (by decide) (by decide) (by decide) (mjPair_shovel sc (sc.getD 1 0) (sc.getD 2 0)) k
set_option maxRecDepth 100000 in
theorem mjCase_undo (h6 : sc.length = 6) (k : ∀ w2, mjShp w2 = mjShp mjW0 → mjGo mjTb mjMt sc (49 + 1) 0 (1661, mjL0, [], w2) P) : mjGo mjTb mjMt sc (49 + 1) 0 (730, mjL0, [], mjW0) P :=
  mj_case (pc := 730) (n := 0) (yx := 104) (ym := 262) (dx := 2) (dm := 1) (Lx := mjM_104.2.2.1) (Lm := mjM_262.2.2.1) (by decide +kernel) (by decide) h6 (Mx := mjM_104) (Mm := mjM_262) rfl rfl (by decide) (by decide) rfl rfl (by decide) (by decide) (by decide) (by decide) (mjPair_undo sc) k
set_option maxRecDepth 100000 in
theorem mjCase_redo (h6 : sc.length = 6) (k : ∀ w2, mjShp w2 = mjShp mjW0 → mjGo mjTb mjMt sc (49 + 1) 0 (1661, mjL0, [], w2) P) : mjGo mjTb mjMt sc (49 + 1) 0 (743, mjL0, [], mjW0) P :=
  mj_case (pc := 743) (n := 0) (yx := 106) (ym := 264) (dx := 2) (dm := 1) (Lx := mjM_106.2.2.1) (Lm := mjM_264.2.2.1) (by decide +kernel) (by decide) h6 (Mx := mjM_106) (Mm := mjM_264) rfl rfl (by decide) (by decide) rfl rfl (by decide) (by decide) (by decide) (by decide) (mjPair_redo sc) k
set_option maxRecDepth 100000 in
theorem mjCase_will (h6 : sc.length = 6) (k : ∀ w2, mjShp w2 = mjShp mjW0 → mjGo mjTb mjMt sc (49 + 1) 0 (1661, mjL0, [], w2) P) : mjGo mjTb mjMt sc (49 + 1) 0 (756, mjL0, [], mjW0) P :=
  mj_case (pc := 756) (n := 2) (yx := 108) (ym := 265) (dx := 6) (dm := 6) (Lx := mjM_108.2.2.1) (Lm := mjM_265.2.2.1) (by decide +kernel) (by decide) h6 (Mx := mjM_108) (Mm := mjM_265) rfl rfl (by decide) (by decide) rfl rfl (by decide) (by decide) (by decide) (by decide) (mjPair_will sc (sc.getD 1 0) (sc.getD 2 0)) k
set_option maxRecDepth 100000 in
theorem mjCase_depth (h6 : sc.length = 6) (k : ∀ w2, mjShp w2 = mjShp mjW0 → mjGo mjTb mjMt sc (49 + 1) 0 (1661, mjL0, [], w2) P) : mjGo mjTb mjMt sc (49 + 1) 0 (789, mjL0, [], mjW0) P :=
  mj_case (pc := 789) (n := 3) (yx := 110) (ym := 268) (dx := 30) (dm := 30) (Lx := mjM_110.2.2.1) (Lm := mjM_268.2.2.1) (by decide +kernel) (by decide) h6 (Mx := mjM_110) (Mm := mjM_268) rfl rfl (by decide) (by decide) rfl rfl (by decide) (by decide) (by decide) (by decide) (mjPair_depth sc (sc.getD 1 0) (sc.getD 2 0) (sc.getD 3 0)) k
set_option maxRecDepth 100000 in
theorem mjCase_left (h6 : sc.length = 6) (k : ∀ w2, mjShp w2 = mjShp mjW0 → mjGo mjTb mjMt sc (49 + 1) 0 (1661, mjL0, [], w2) P) : mjGo mjTb mjMt sc (49 + 1) 0 (832, mjL0, [], mjW0) P :=
  mj_case (pc := 832) (n := 1) (yx := 112) (ym := 270) (dx := 7) (dm := 9) (Lx := mjM_112.2.2.1) (Lm := mjM_270.2.2.1) (by decide +kernel) (by decide) h6 (Mx := mjM_112) (Mm := mjM_270) rfl rfl (by decide) (by decide) rfl rfl (by decide) (by decide) (by decide) (by decide) (mjPair_left sc (sc.getD 1 0)) k
set_option maxRecDepth 100000 in
theorem mjCase_purse (h6 : sc.length = 6) (k : ∀ w2, mjShp w2 = mjShp mjW0 → mjGo mjTb mjMt sc (49 + 1) 0 (1661, mjL0, [], w2) P) : mjGo mjTb mjMt sc (49 + 1) 0 (855, mjL0, [], mjW0) P :=
  mj_case (pc := 855) (n := 1) (yx := 113) (ym := 273) (dx := 7) (dm := 7) (Lx := mjM_113.2.2.1) (Lm := mjM_273.2.2.1) (by decide +kernel) (by decide) h6 (Mx := mjM_113) (Mm := mjM_273) rfl rfl (by decide) (by decide) rfl rfl (by decide) (by decide) (by decide) (by decide) (mjPair_purse sc (sc.getD 1 0)) k
set_option maxRecDepth 100000 in
theorem mjCase_when (h6 : sc.length = 6) (k : ∀ w2, mjShp w2 = mjShp mjW0 → mjGo mjTb mjMt sc (49 + 1) 0 (1661, mjL0, [], w2) P) : mjGo mjTb mjMt sc (49 + 1) 0 (878, mjL0, [], mjW0) P :=
  mj_case (pc := 878) (n := 1) (yx := 114) (ym := 274) (dx := 2) (dm := 3) (Lx := mjM_114.2.2.1) (Lm := mjM_274.2.2.1) (by decide +kernel) (by decide) h6 (Mx := mjM_114) (Mm := mjM_274) rfl rfl (by decide) (by decide) rfl rfl (by decide) (by decide) (by decide) (by decide) (mjPair_when sc (sc.getD 1 0)) k
set_option maxRecDepth 100000 in
theorem mjCase_next (h6 : sc.length = 6) (k : ∀ w2, mjShp w2 = mjShp mjW0 → mjGo mjTb mjMt sc (49 + 1) 0 (1661, mjL0, [], w2) P) : mjGo mjTb mjMt sc (49 + 1) 0 (901, mjL0, [], mjW0) P :=
  mj_case (pc := 901) (n := 0) (yx := 116) (ym := 277) (dx := 30) (dm := 30) (Lx := mjM_116.2.2.1) (Lm := mjM_277.2.2.1) (by decide +kernel) (by decide) h6 (Mx := mjM_116) (Mm := mjM_277) rfl rfl (by decide) (by decide) rfl rfl (by decide) (by decide) (by decide) (by decide) (mjPair_next sc) k
set_option maxRecDepth 100000 in
theorem mjCase_first (h6 : sc.length = 6) (k : ∀ w2, mjShp w2 = mjShp mjW0 → mjGo mjTb mjMt sc (49 + 1) 0 (1661, mjL0, [], w2) P) : mjGo mjTb mjMt sc (49 + 1) 0 (914, mjL0, [], mjW0) P :=
  mj_case (pc := 914) (n := 1) (yx := 117) (ym := 279) (dx := 30) (dm := 30) (Lx := mjM_117.2.2.1) (Lm := mjM_279.2.2.1) (by decide +kernel) (by decide) h6 (Mx := mjM_117) (Mm := mjM_279) rfl rfl (by decide) (by decide) rfl rfl (by decide) (by decide) (by decide) (by decide) (mjPair_first sc (sc.getD 1 0)) k
set_option maxRecDepth 100000 in
theorem mjCase_track (h6 : sc.length = 6) (k : ∀ w2, mjShp w2 = mjShp mjW0 → mjGo mjTb mjMt sc (49 + 1) 0 (1661, mjL0, [], w2) P) : mjGo mjTb mjMt sc (49 + 1) 0 (937, mjL0, [], mjW0) P :=
  mj_case (pc := 937) (n := 3) (yx := 118) (ym := 240) (dx := 20) (dm := 20) (Lx := mjM_118.2.2.1) (Lm := mjM_240.2.2.1) (by decide +kernel) (by decide) h6 (Mx := mjM_118) (Mm := mjM_240) rfl rfl (by decide) (by decide) rfl rfl (by decide) (by decide) (by decide) (by decide) (mjPair_track sc (sc.getD 1 0) (sc.getD 2 0) (sc.getD 3 0)) k
set_option maxRecDepth 100000 in
theorem mjCase_least (h6 : sc.length = 6) (k : ∀ w2, mjShp w2 = mjShp mjW0 → mjGo mjTb mjMt sc (49 + 1) 0 (1661, mjL0, [], w2) P) : mjGo mjTb mjMt sc (49 + 1) 0 (980, mjL0, [], mjW0) P :=
  mj_case (pc := 980) (n := 1) (yx := 120) (ym := 243) (dx := 5) (dm := 4) (Lx := mjM_120.2.2.1) (Lm := mjM_243.2.2.1) (by decide +kernel) (by decide) h6 (Mx := mjM_120) (Mm := mjM_243) rfl rfl (by decide) (by decide) rfl rfl (by decide) (by decide) (by decide) (by decide) (mjPair_least sc (sc.getD 1 0)) k
set_option maxRecDepth 100000 in
theorem mjCase_places (h6 : sc.length = 6) (k : ∀ w2, mjShp w2 = mjShp mjW0 → mjGo mjTb mjMt sc (49 + 1) 0 (1661, mjL0, [], w2) P) : mjGo mjTb mjMt sc (49 + 1) 0 (1003, mjL0, [], mjW0) P :=
  mj_case (pc := 1003) (n := 1) (yx := 121) (ym := 285) (dx := 7) (dm := 8) (Lx := mjM_121.2.2.1) (Lm := mjM_285.2.2.1) (by decide +kernel) (by decide) h6 (Mx := mjM_121) (Mm := mjM_285) rfl rfl (by decide) (by decide) rfl rfl (by decide) (by decide) (by decide) (by decide) (mjPair_places sc (sc.getD 1 0)) k
set_option maxRecDepth 100000 in
theorem mjCase_quiet (h6 : sc.length = 6) (k : ∀ w2, mjShp w2 = mjShp mjW0 → mjGo mjTb mjMt sc (49 + 1) 0 (1661, mjL0, [], w2) P) : mjGo mjTb mjMt sc (49 + 1) 0 (1026, mjL0, [], mjW0) P :=
  mj_case (pc := 1026) (n := 2) (yx := 132) (ym := 289) (dx := 7) (dm := 7) (Lx := mjM_132.2.2.1) (Lm := mjM_289.2.2.1) (by decide +kernel) (by decide) h6 (Mx := mjM_132) (Mm := mjM_289) rfl rfl (by decide) (by decide) rfl rfl (by decide) (by decide) (by decide) (by decide) (mjPair_quiet sc (sc.getD 1 0) (sc.getD 2 0)) k
set_option maxRecDepth 100000 in
theorem mjCase_dam (h6 : sc.length = 6) (k : ∀ w2, mjShp w2 = mjShp mjW0 → mjGo mjTb mjMt sc (49 + 1) 0 (1661, mjL0, [], w2) P) : mjGo mjTb mjMt sc (49 + 1) 0 (1059, mjL0, [], mjW0) P :=
  mj_case (pc := 1059) (n := 2) (yx := 135) (ym := 290) (dx := 7) (dm := 9) (Lx := mjM_135.2.2.1) (Lm := mjM_290.2.2.1) (by decide +kernel) (by decide) h6 (Mx := mjM_135) (Mm := mjM_290) rfl rfl (by decide) (by decide) rfl rfl (by decide) (by decide) (by decide) (by decide) (mjPair_dam sc (sc.getD 1 0) (sc.getD 2 0)) k
set_option maxRecDepth 100000 in
theorem mjCase_brunt (h6 : sc.length = 6) (k : ∀ w2, mjShp w2 = mjShp mjW0 → mjGo mjTb mjMt sc (49 + 1) 0 (1661, mjL0, [], w2) P) : mjGo mjTb mjMt sc (49 + 1) 0 (1092, mjL0, [], mjW0) P :=
  mj_case (pc := 1092) (n := 2) (yx := 140) (ym := 280) (dx := 30) (dm := 30) (Lx := mjM_140.2.2.1) (Lm := mjM_280.2.2.1) (by decide +kernel) (by decide) h6 (Mx := mjM_140) (Mm := mjM_280) rfl rfl (by decide) (by decide) rfl rfl (by decide) (by decide) (by decide) (by decide) (mjPair_brunt sc (sc.getD 1 0) (sc.getD 2 0)) k
set_option maxRecDepth 100000 in
theorem mjCase_gable (h6 : sc.length = 6) (k : ∀ w2, mjShp w2 = mjShp mjW0 → mjGo mjTb mjMt sc (49 + 1) 0 (1661, mjL0, [], w2) P) : mjGo mjTb mjMt sc (49 + 1) 0 (1125, mjL0, [], mjW0) P :=
  mj_case (pc := 1125) (n := 1) (yx := 141) (ym := 282) (dx := 30) (dm := 30) (Lx := mjM_141.2.2.1) (Lm := mjM_282.2.2.1) (by decide +kernel) (by decide) h6 (Mx := mjM_141) (Mm := mjM_282) rfl rfl (by decide) (by decide) rfl rfl (by decide) (by decide) (by decide) (by decide) (mjPair_gable sc (sc.getD 1 0)) k
set_option maxRecDepth 100000 in
theorem mjCase_dig (h6 : sc.length = 6) (k : ∀ w2, mjShp w2 = mjShp mjW0 → mjGo mjTb mjMt sc (49 + 1) 0 (1661, mjL0, [], w2) P) : mjGo mjTb mjMt sc (49 + 1) 0 (1148, mjL0, [], mjW0) P :=
  mj_case (pc := 1148) (n := 2) (yx := 142) (ym := 291) (dx := 7) (dm := 8) (Lx := mjM_142.2.2.1) (Lm := mjM_291.2.2.1) (by decide +kernel) (by decide) h6 (Mx := mjM_142) (Mm := mjM_291) rfl rfl (by decide) (by decide) rfl rfl (by decide) (by decide) (by decide) (by decide) (mjPair_dig sc (sc.getD 1 0) (sc.getD 2 0)) k
set_option maxRecDepth 100000 in
theorem mjCase_duel (h6 : sc.length = 6) (k : ∀ w2, mjShp w2 = mjShp mjW0 → mjGo mjTb mjMt sc (49 + 1) 0 (1661, mjL0, [], w2) P) : mjGo mjTb mjMt sc (49 + 1) 0 (1181, mjL0, [], mjW0) P :=
  mj_case (pc := 1181) (n := 2) (yx := 144) (ym := 293) (dx := 2) (dm := 3) (Lx := mjM_144.2.2.1) (Lm := mjM_293.2.2.1) (by decide +kernel) (by decide) h6 (Mx := mjM_144) (Mm := mjM_293) rfl rfl (by decide) (by decide) rfl rfl (by decide) (by decide) (by decide) (by decide) (mjPair_duel sc (sc.getD 1 0) (sc.getD 2 0)) k
set_option maxRecDepth 100000 in
theorem mjCase_fear (h6 : sc.length = 6) (k : ∀ w2, mjShp w2 = mjShp mjW0 → mjGo mjTb mjMt sc (49 + 1) 0 (1661, mjL0, [], w2) P) : mjGo mjTb mjMt sc (49 + 1) 0 (1214, mjL0, [], mjW0) P :=
  mj_case (pc := 1214) (n := 1) (yx := 148) (ym := 242) (dx := 5) (dm := 4) (Lx := mjM_148.2.2.1) (Lm := mjM_242.2.2.1) (by decide +kernel) (by decide) h6 (Mx := mjM_148) (Mm := mjM_242) rfl rfl (by decide) (by decide) rfl rfl (by decide) (by decide) (by decide) (by decide) (mjPair_fear sc (sc.getD 1 0)) k
set_option maxRecDepth 100000 in
theorem mjCase_borne (h6 : sc.length = 6) (k : ∀ w2, mjShp w2 = mjShp mjW0 → mjGo mjTb mjMt sc (49 + 1) 0 (1661, mjL0, [], w2) P) : mjGo mjTb mjMt sc (49 + 1) 0 (1237, mjL0, [], mjW0) P :=
  mj_case (pc := 1237) (n := 1) (yx := 149) (ym := 292) (dx := 5) (dm := 5) (Lx := mjM_149.2.2.1) (Lm := mjM_292.2.2.1) (by decide +kernel) (by decide) h6 (Mx := mjM_149) (Mm := mjM_292) rfl rfl (by decide) (by decide) rfl rfl (by decide) (by decide) (by decide) (by decide) (mjPair_borne sc (sc.getD 1 0)) k
set_option maxRecDepth 100000 in
theorem mjCase_poor (h6 : sc.length = 6) (k : ∀ w2, mjShp w2 = mjShp mjW0 → mjGo mjTb mjMt sc (49 + 1) 0 (1661, mjL0, [], w2) P) : mjGo mjTb mjMt sc (49 + 1) 0 (1260, mjL0, [], mjW0) P :=
  mj_case (pc := 1260) (n := 0) (yx := 150) (ym := 276) (dx := 6) (dm := 2) (Lx := mjM_150.2.2.1) (Lm := mjM_276.2.2.1) (by decide +kernel) (by decide) h6 (Mx := mjM_150) (Mm := mjM_276) rfl rfl (by decide) (by decide) rfl rfl (by decide) (by decide) (by decide) (by decide) (mjPair_poor sc) k
set_option maxRecDepth 100000 in
theorem mjCase_awake (h6 : sc.length = 6) (k : ∀ w2, mjShp w2 = mjShp mjW0 → mjGo mjTb mjMt sc (49 + 1) 0 (1661, mjL0, [], w2) P) : mjGo mjTb mjMt sc (49 + 1) 0 (1273, mjL0, [], mjW0) P :=
  mj_case (pc := 1273) (n := 1) (yx := 152) (ym := 238) (dx := 2) (dm := 2) (Lx := mjM_152.2.2.1) (Lm := mjM_238.2.2.1) (by decide +kernel) (by decide) h6 (Mx := mjM_152) (Mm := mjM_238) rfl rfl (by decide) (by decide) rfl rfl (by decide) (by decide) (by decide) (by decide) (mjPair_awake sc (sc.getD 1 0)) k
set_option maxRecDepth 100000 in
theorem mjCase_heap (h6 : sc.length = 6) (k : ∀ w2, mjShp w2 = mjShp mjW0 → mjGo mjTb mjMt sc (49 + 1) 0 (1661, mjL0, [], w2) P) : mjGo mjTb mjMt sc (49 + 1) 0 (1296, mjL0, [], mjW0) P :=
  mj_case (pc := 1296) (n := 1) (yx := 153) (ym := 239) (dx := 2) (dm := 3) (Lx := mjM_153.2.2.1) (Lm := mjM_239.2.2.1) (by decide +kernel) (by decide) h6 (Mx := mjM_153) (Mm := mjM_239) rfl rfl (by decide) (by decide) rfl rfl (by decide) (by decide) (by decide) (by decide) (mjPair_heap sc (sc.getD 1 0)) k
set_option maxRecDepth 100000 in
theorem mjCase_law (h6 : sc.length = 6) (k : ∀ w2, mjShp w2 = mjShp mjW0 → mjGo mjTb mjMt sc (49 + 1) 0 (1661, mjL0, [], w2) P) : mjGo mjTb mjMt sc (49 + 1) 0 (1319, mjL0, [], mjW0) P :=
  mj_case (pc := 1319) (n := 1) (yx := 154) (ym := 283) (dx := 6) (dm := 9) (Lx := mjM_154.2.2.1) (Lm := mjM_283.2.2.1) (by decide +kernel) (by decide) h6 (Mx := mjM_154) (Mm := mjM_283) rfl rfl (by decide) (by decide) rfl rfl (by decide) (by decide) (by decide) (by decide) (mjPair_law sc (sc.getD 1 0)) k
set_option maxRecDepth 100000 in
theorem mjCase_odds (h6 : sc.length = 6) (k : ∀ w2, mjShp w2 = mjShp mjW0 → mjGo mjTb mjMt sc (49 + 1) 0 (1661, mjL0, [], w2) P) : mjGo mjTb mjMt sc (49 + 1) 0 (1342, mjL0, [], mjW0) P :=
  mj_case (pc := 1342) (n := 2) (yx := 155) (ym := 296) (dx := 2) (dm := 2) (Lx := mjM_155.2.2.1) (Lm := mjM_296.2.2.1) (by decide +kernel) (by decide) h6 (Mx := mjM_155) (Mm := mjM_296) rfl rfl (by decide) (by decide) rfl rfl (by decide) (by decide) (by decide) (by decide) (mjPair_odds sc (sc.getD 1 0) (sc.getD 2 0)) k
set_option maxRecDepth 100000 in
theorem mjCase_lies (h6 : sc.length = 6) (k : ∀ w2, mjShp w2 = mjShp mjW0 → mjGo mjTb mjMt sc (49 + 1) 0 (1661, mjL0, [], w2) P) : mjGo mjTb mjMt sc (49 + 1) 0 (1375, mjL0, [], mjW0) P :=
  mj_case (pc := 1375) (n := 1) (yx := 157) (ym := 284) (dx := 1) (dm := 2) (Lx := mjM_157.2.2.1) (Lm := mjM_284.2.2.1) (by decide +kernel) (by decide) h6 (Mx := mjM_157) (Mm := mjM_284) rfl rfl (by decide) (by decide) rfl rfl (by decide) (by decide) (by decide) (by decide) (mjPair_lies sc (sc.getD 1 0)) k
set_option maxRecDepth 100000 in
theorem mjCase_untell (h6 : sc.length = 6) (k : ∀ w2, mjShp w2 = mjShp mjW0 → mjGo mjTb mjMt sc (49 + 1) 0 (1661, mjL0, [], w2) P) : mjGo mjTb mjMt sc (49 + 1) 0 (1457, mjL0, [], mjW0) P :=
  mj_case (pc := 1457) (n := 1) (yx := 160) (ym := 299) (dx := 2) (dm := 2) (Lx := mjM_160.2.2.1) (Lm := mjM_299.2.2.1) (by decide +kernel) (by decide) h6 (Mx := mjM_160) (Mm := mjM_299) rfl rfl (by decide) (by decide) rfl rfl (by decide) (by decide) (by decide) (by decide) (mjPair_untell sc (sc.getD 1 0)) k
set_option maxRecDepth 100000 in
theorem mjCase_later (h6 : sc.length = 6) (k : ∀ w2, mjShp w2 = mjShp mjW0 → mjGo mjTb mjMt sc (49 + 1) 0 (1661, mjL0, [], w2) P) : mjGo mjTb mjMt sc (49 + 1) 0 (1480, mjL0, [], mjW0) P :=
  mj_case (pc := 1480) (n := 1) (yx := 162) (ym := 300) (dx := 20) (dm := 20) (Lx := mjM_162.2.2.1) (Lm := mjM_300.2.2.1) (by decide +kernel) (by decide) h6 (Mx := mjM_162) (Mm := mjM_300) rfl rfl (by decide) (by decide) rfl rfl (by decide) (by decide) (by decide) (by decide) (mjPair_later sc (sc.getD 1 0)) k
set_option maxRecDepth 100000 in
theorem mjCase_fits (h6 : sc.length = 6) (k : ∀ w2, mjShp w2 = mjShp mjW0 → mjGo mjTb mjMt sc (49 + 1) 0 (1661, mjL0, [], w2) P) : mjGo mjTb mjMt sc (49 + 1) 0 (1503, mjL0, [], mjW0) P :=
  mj_case (pc := 1503) (n := 1) (yx := 163) (ym := 301) (dx := 7) (dm := 7) (Lx := mjM_163.2.2.1) (Lm := mjM_301.2.2.1) (by decide +kernel) (by decide) h6 (Mx := mjM_163) (Mm := mjM_301) rfl rfl (by decide) (by decide) rfl rfl (by decide) (by decide) (by decide) (by decide) (mjPair_fits sc (sc.getD 1 0)) k
set_option maxRecDepth 100000 in
theorem mjCase_sure (h6 : sc.length = 6) (k : ∀ w2, mjShp w2 = mjShp mjW0 → mjGo mjTb mjMt sc (49 + 1) 0 (1661, mjL0, [], w2) P) : mjGo mjTb mjMt sc (49 + 1) 0 (1526, mjL0, [], mjW0) P :=
  mj_case (pc := 1526) (n := 2) (yx := 167) (ym := 305) (dx := 7) (dm := 8) (Lx := mjM_167.2.2.1) (Lm := mjM_305.2.2.1) (by decide +kernel) (by decide) h6 (Mx := mjM_167) (Mm := mjM_305) rfl rfl (by decide) (by decide) rfl rfl (by decide) (by decide) (by decide) (by decide) (mjPair_sure sc (sc.getD 1 0) (sc.getD 2 0)) k
set_option maxRecDepth 100000 in
theorem mjCase_ask (h6 : sc.length = 6) (k : ∀ w2, mjShp w2 = mjShp mjW0 → mjGo mjTb mjMt sc (49 + 1) 0 (1661, mjL0, [], w2) P) : mjGo mjTb mjMt sc (49 + 1) 0 (1559, mjL0, [], mjW0) P :=
  mj_case (pc := 1559) (n := 2) (yx := 169) (ym := 306) (dx := 7) (dm := 8) (Lx := mjM_169.2.2.1) (Lm := mjM_306.2.2.1) (by decide +kernel) (by decide) h6 (Mx := mjM_169) (Mm := mjM_306) rfl rfl (by decide) (by decide) rfl rfl (by decide) (by decide) (by decide) (by decide) (mjPair_ask sc (sc.getD 1 0) (sc.getD 2 0)) k
set_option maxRecDepth 100000 in
theorem mjCase_image (h6 : sc.length = 6) (k : ∀ w2, mjShp w2 = mjShp mjW0 → mjGo mjTb mjMt sc (49 + 1) 0 (1661, mjL0, [], w2) P) : mjGo mjTb mjMt sc (49 + 1) 0 (1592, mjL0, [], mjW0) P :=
  mj_case (pc := 1592) (n := 1) (yx := 172) (ym := 308) (dx := 20) (dm := 20) (Lx := mjM_172.2.2.1) (Lm := mjM_308.2.2.1) (by decide +kernel) (by decide) h6 (Mx := mjM_172) (Mm := mjM_308) rfl rfl (by decide) (by decide) rfl rfl (by decide) (by decide) (by decide) (by decide) (mjPair_image sc (sc.getD 1 0)) k
set_option maxRecDepth 100000 in
theorem mjCase_back (h6 : sc.length = 6) (k : ∀ w2, mjShp w2 = mjShp mjW0 → mjGo mjTb mjMt sc (49 + 1) 0 (1661, mjL0, [], w2) P) : mjGo mjTb mjMt sc (49 + 1) 0 (1615, mjL0, [], mjW0) P :=
  mj_case (pc := 1615) (n := 1) (yx := 173) (ym := 309) (dx := 1) (dm := 2) (Lx := mjM_173.2.2.1) (Lm := mjM_309.2.2.1) (by decide +kernel) (by decide) h6 (Mx := mjM_173) (Mm := mjM_309) rfl rfl (by decide) (by decide) rfl rfl (by decide) (by decide) (by decide) (by decide) (mjPair_back sc (sc.getD 1 0)) k
set_option maxRecDepth 100000 in
theorem mjCase_about (h6 : sc.length = 6) (k : ∀ w2, mjShp w2 = mjShp mjW0 → mjGo mjTb mjMt sc (49 + 1) 0 (1661, mjL0, [], w2) P) : mjGo mjTb mjMt sc (49 + 1) 0 (1638, mjL0, [], mjW0) P :=
  mj_case (pc := 1638) (n := 1) (yx := 174) (ym := 310) (dx := 2) (dm := 2) (Lx := mjM_174.2.2.1) (Lm := mjM_310.2.2.1) (by decide +kernel) (by decide) h6 (Mx := mjM_174) (Mm := mjM_310) rfl rfl (by decide) (by decide) rfl rfl (by decide) (by decide) (by decide) (by decide) (mjPair_about sc (sc.getD 1 0)) k
def mjSeenAt : Bool := mjIs 1398 (.aload_n 1, 1, 1, []) && (mjIs 1414 (.ifCond .eq 7, 3, 3, [1421]) && (mjIs 1417 (.iconst 1, 1, 0, []) && (mjIs 1418 (.goto 4, 3, 3, [1422]) && (mjIs 1421 (.iconst 0, 1, 0, []) && (mjIs 1425 (.aload_n 2, 1, 1, []) && (mjIs 1441 (.ifCond .eq 7, 3, 3, [1448]) && (mjIs 1444 (.iconst 1, 1, 0, []) && (mjIs 1445 (.goto 4, 3, 3, [1449]) && (mjIs 1448 (.iconst 0, 1, 0, []))))))))))
set_option maxRecDepth 100000 in
theorem mjSeen_ok : mjSeenAt = true := by decide +kernel
def mjBit (x : Int32) : Int32 := if x = 0 then 0 else 1
theorem mjBit_B (x : Int32) : mjB (mjBit x) 0 1 := by unfold mjBit; split <;> exact ⟨by decide, by decide⟩
theorem g_bit {pc pz : Nat} {x : Int32} {st : List Value} {w : MjW} {o1 o2 : Int} {len : Nat} (h0 : mjTb 0 pc = some (.ifCond .eq o1, len, 3, [pz])) (h1 : mjTb 0 (pc + 3) = some (.iconst 1, 1, 0, [])) (h2 : mjTb 0 (pc + 3 + 1) = some (.goto o2, 3, 3, [pz + 1])) (h3 : mjTb 0 pz = some (.iconst 0, 1, 0, [])) (k : mjGo mjTb mjMt sc d 0 (pz + 1, mjL0, .int (mjBit x) :: st, w) P) : mjGo mjTb mjMt sc d 0 (pc, mjL0, .int x :: st, w) P := by
  refine g_if mjMt0 h0 mjCz_eq (fun hz => ?_) (fun hz => ?_)
  · have e : mjBit x = 0 := by unfold mjBit; rw [if_pos (Int32.toInt_inj.mp (by rw [hz]; rfl))]
    rw [e] at k
    exact g_A (st1 := .int 0 :: st) mjMt0 h3 rfl k
  · have e : mjBit x = 1 := by unfold mjBit; rw [if_neg (fun hq => hz (by rw [hq]; rfl))]
    rw [e] at k
    refine g_A (st1 := .int 1 :: st) mjMt0 h1 rfl ?_
    exact g_goto mjMt0 h2 k
set_option maxRecDepth 100000 in
theorem mjCase_seen (h6 : sc.length = 6) (k : ∀ w2, mjShp w2 = mjShp mjW0 → mjGo mjTb mjMt sc (49 + 1) 0 (1661, mjL0, [], w2) P) : mjGo mjTb mjMt sc (49 + 1) 0 (1398, mjL0, [], mjW0) P := by
  have h := mjSeen_ok
  unfold mjSeenAt at h
  simp only [Bool.and_eq_true] at h
  obtain ⟨q0, q1, q2, q3, q4, q5, q6, q7, q8, q9⟩ := h
  refine g_L (v := .ref 0) (n := 1) mjMt0 (mjIs_ok q0) rfl ?_
  refine g_args (pc := 1399) (n := 3) (by decide +kernel) (by decide) h6 ?_
  refine g_bit (mjIs_ok q1) (mjIs_ok q2) (mjIs_ok q3) (mjIs_ok q4) ?_
  refine mj_calls (as := [.int (sc.getD 1 0), .int (sc.getD 2 0), .int (mjBit (sc.getD 3 0))]) (pcx := 1422) (pcm := 1449) (pcc := 1452) (n := 3) (yx := 158) (ym := 298) (dx := 2) (dm := 3) (Lx := mjM_158.2.2.1) (Lm := mjM_298.2.2.1) (Mx := mjM_158) (Mm := mjM_298) (by decide +kernel) (by decide +kernel) (by decide +kernel) rfl rfl rfl rfl (by decide) (by decide) (show 4 ≤ _ by decide) (show 4 ≤ _ by decide) rfl rfl (by decide) (by decide) (mjPair_seen sc _ _ _ (mjBit_B _)) ?_ k
  intro v w1 hg
  refine g_L (v := .ref 240) (n := 1) mjMt0 (mjIs_ok q5) rfl ?_
  refine g_args (pc := 1426) (n := 3) (by decide +kernel) (by decide) h6 ?_
  exact g_bit (mjIs_ok q6) (mjIs_ok q7) (mjIs_ok q8) (mjIs_ok q9) hg
theorem mjSw_q : mjTb 0 33 = some (.tableswitch 1628 0 50 #[219, 282, 305, 318, 341, 384, 417, 450, 473, 486, 519, 552, 575, 598, 621, 664, 697, 710, 723, 756, 799, 822, 845, 868, 881, 904, 947, 970, 993, 1026, 1059, 1092, 1115, 1148, 1181, 1204, 1227, 1240, 1263, 1286, 1309, 1342, 1365, 1424, 1447, 1470, 1493, 1526, 1559, 1582, 1605], 219, 3, [1661, 252, 315, 338, 351, 374, 417, 450, 483, 506, 519, 552, 585, 608, 631, 654, 697, 730, 743, 756, 789, 832, 855, 878, 901, 914, 937, 980, 1003, 1026, 1059, 1092, 1125, 1148, 1181, 1214, 1237, 1260, 1273, 1296, 1319, 1342, 1375, 1398, 1457, 1480, 1503, 1526, 1559, 1592, 1615, 1638]) := by decide +kernel
theorem g_default (h6 : sc.length = 6) {w : MjW} (hP : P (some (.int 1)) w) : mjGo mjTb mjMt sc d 0 (1661, mjL0, [], w) P := g_tail h6 hP
set_option maxRecDepth 100000 in
theorem mj_switch (h6 : sc.length = 6) (hP : ∀ w, mjShp w = mjShp mjW0 → P (some (.int 1)) w) : mjGo mjTb mjMt sc (49 + 1) 0 (33, mjL0, [.int (sc.getD 0 0 &&& 63)], mjW0) P := by
  have kk : ∀ w2, mjShp w2 = mjShp mjW0 → mjGo mjTb mjMt sc (49 + 1) 0 (1661, mjL0, [], w2) P := fun w2 hs => g_tail h6 (hP w2 hs)
  obtain ⟨k, hk, e⟩ := mj_63 (sc.getD 0 0)
  rw [e]
  have hc : k = 0 ∨ k = 1 ∨ k = 2 ∨ k = 3 ∨ k = 4 ∨ k = 5 ∨ k = 6 ∨ k = 7 ∨ k = 8 ∨ k = 9 ∨ k = 10 ∨ k = 11 ∨ k = 12 ∨ k = 13 ∨ k = 14 ∨ k = 15 ∨ k = 16 ∨ k = 17 ∨ k = 18 ∨ k = 19 ∨ k = 20 ∨ k = 21 ∨ k = 22 ∨ k = 23 ∨ k = 24 ∨ k = 25 ∨ k = 26 ∨ k = 27 ∨ k = 28 ∨ k = 29 ∨ k = 30 ∨ k = 31 ∨ k = 32 ∨ k = 33 ∨ k = 34 ∨ k = 35 ∨ k = 36 ∨ k = 37 ∨ k = 38 ∨ k = 39 ∨ k = 40 ∨ k = 41 ∨ k = 42 ∨ k = 43 ∨ k = 44 ∨ k = 45 ∨ k = 46 ∨ k = 47 ∨ k = 48 ∨ k = 49 ∨ k = 50 ∨ k = 51 ∨ k = 52 ∨ k = 53 ∨ k = 54 ∨ k = 55 ∨ k = 56 ∨ k = 57 ∨ k = 58 ∨ k = 59 ∨ k = 60 ∨ k = 61 ∨ k = 62 ∨ k = 63 := by omega
  rcases hc with rfl | rfl | rfl | rfl | rfl | rfl | rfl | rfl | rfl | rfl | rfl | rfl | rfl | rfl | rfl | rfl | rfl | rfl | rfl | rfl | rfl | rfl | rfl | rfl | rfl | rfl | rfl | rfl | rfl | rfl | rfl | rfl | rfl | rfl | rfl | rfl | rfl | rfl | rfl | rfl | rfl | rfl | rfl | rfl | rfl | rfl | rfl | rfl | rfl | rfl | rfl | rfl | rfl | rfl | rfl | rfl | rfl | rfl | rfl | rfl | rfl | rfl | rfl | rfl
  · exact g_B (pc1 := 252) (st1 := []) mjMt0 mjSw_q (by decide +kernel) (mjCase_feed h6 kk)
  · exact g_B (pc1 := 315) (st1 := []) mjMt0 mjSw_q (by decide +kernel) (mjCase_end h6 kk)
  · exact g_B (pc1 := 338) (st1 := []) mjMt0 mjSw_q (by decide +kernel) (mjCase_pass h6 kk)
  · exact g_B (pc1 := 351) (st1 := []) mjMt0 mjSw_q (by decide +kernel) (mjCase_fault h6 kk)
  · exact g_B (pc1 := 374) (st1 := []) mjMt0 mjSw_q (by decide +kernel) (mjCase_cell h6 kk)
  · exact g_B (pc1 := 417) (st1 := []) mjMt0 mjSw_q (by decide +kernel) (mjCase_room h6 kk)
  · exact g_B (pc1 := 450) (st1 := []) mjMt0 mjSw_q (by decide +kernel) (mjCase_guest h6 kk)
  · exact g_B (pc1 := 483) (st1 := []) mjMt0 mjSw_q (by decide +kernel) (mjCase_noise h6 kk)
  · exact g_B (pc1 := 506) (st1 := []) mjMt0 mjSw_q (by decide +kernel) (mjCase_hour h6 kk)
  · exact g_B (pc1 := 519) (st1 := []) mjMt0 mjSw_q (by decide +kernel) (mjCase_shout h6 kk)
  · exact g_B (pc1 := 552) (st1 := []) mjMt0 mjSw_q (by decide +kernel) (mjCase_move h6 kk)
  · exact g_B (pc1 := 585) (st1 := []) mjMt0 mjSw_q (by decide +kernel) (mjCase_build h6 kk)
  · exact g_B (pc1 := 608) (st1 := []) mjMt0 mjSw_q (by decide +kernel) (mjCase_hush h6 kk)
  · exact g_B (pc1 := 631) (st1 := []) mjMt0 mjSw_q (by decide +kernel) (mjCase_let h6 kk)
  · exact g_B (pc1 := 654) (st1 := []) mjMt0 mjSw_q (by decide +kernel) (mjCase_wall h6 kk)
  · exact g_B (pc1 := 697) (st1 := []) mjMt0 mjSw_q (by decide +kernel) (mjCase_shovel h6 kk)
  · exact g_B (pc1 := 730) (st1 := []) mjMt0 mjSw_q (by decide +kernel) (mjCase_undo h6 kk)
  · exact g_B (pc1 := 743) (st1 := []) mjMt0 mjSw_q (by decide +kernel) (mjCase_redo h6 kk)
  · exact g_B (pc1 := 756) (st1 := []) mjMt0 mjSw_q (by decide +kernel) (mjCase_will h6 kk)
  · exact g_B (pc1 := 789) (st1 := []) mjMt0 mjSw_q (by decide +kernel) (mjCase_depth h6 kk)
  · exact g_B (pc1 := 832) (st1 := []) mjMt0 mjSw_q (by decide +kernel) (mjCase_left h6 kk)
  · exact g_B (pc1 := 855) (st1 := []) mjMt0 mjSw_q (by decide +kernel) (mjCase_purse h6 kk)
  · exact g_B (pc1 := 878) (st1 := []) mjMt0 mjSw_q (by decide +kernel) (mjCase_when h6 kk)
  · exact g_B (pc1 := 901) (st1 := []) mjMt0 mjSw_q (by decide +kernel) (mjCase_next h6 kk)
  · exact g_B (pc1 := 914) (st1 := []) mjMt0 mjSw_q (by decide +kernel) (mjCase_first h6 kk)
  · exact g_B (pc1 := 937) (st1 := []) mjMt0 mjSw_q (by decide +kernel) (mjCase_track h6 kk)
  · exact g_B (pc1 := 980) (st1 := []) mjMt0 mjSw_q (by decide +kernel) (mjCase_least h6 kk)
  · exact g_B (pc1 := 1003) (st1 := []) mjMt0 mjSw_q (by decide +kernel) (mjCase_places h6 kk)
  · exact g_B (pc1 := 1026) (st1 := []) mjMt0 mjSw_q (by decide +kernel) (mjCase_quiet h6 kk)
  · exact g_B (pc1 := 1059) (st1 := []) mjMt0 mjSw_q (by decide +kernel) (mjCase_dam h6 kk)
  · exact g_B (pc1 := 1092) (st1 := []) mjMt0 mjSw_q (by decide +kernel) (mjCase_brunt h6 kk)
  · exact g_B (pc1 := 1125) (st1 := []) mjMt0 mjSw_q (by decide +kernel) (mjCase_gable h6 kk)
  · exact g_B (pc1 := 1148) (st1 := []) mjMt0 mjSw_q (by decide +kernel) (mjCase_dig h6 kk)
  · exact g_B (pc1 := 1181) (st1 := []) mjMt0 mjSw_q (by decide +kernel) (mjCase_duel h6 kk)
  · exact g_B (pc1 := 1214) (st1 := []) mjMt0 mjSw_q (by decide +kernel) (mjCase_fear h6 kk)
  · exact g_B (pc1 := 1237) (st1 := []) mjMt0 mjSw_q (by decide +kernel) (mjCase_borne h6 kk)
  · exact g_B (pc1 := 1260) (st1 := []) mjMt0 mjSw_q (by decide +kernel) (mjCase_poor h6 kk)
  · exact g_B (pc1 := 1273) (st1 := []) mjMt0 mjSw_q (by decide +kernel) (mjCase_awake h6 kk)
  · exact g_B (pc1 := 1296) (st1 := []) mjMt0 mjSw_q (by decide +kernel) (mjCase_heap h6 kk)
  · exact g_B (pc1 := 1319) (st1 := []) mjMt0 mjSw_q (by decide +kernel) (mjCase_law h6 kk)
  · exact g_B (pc1 := 1342) (st1 := []) mjMt0 mjSw_q (by decide +kernel) (mjCase_odds h6 kk)
  · exact g_B (pc1 := 1375) (st1 := []) mjMt0 mjSw_q (by decide +kernel) (mjCase_lies h6 kk)
  · exact g_B (pc1 := 1398) (st1 := []) mjMt0 mjSw_q (by decide +kernel) (mjCase_seen h6 kk)
  · exact g_B (pc1 := 1457) (st1 := []) mjMt0 mjSw_q (by decide +kernel) (mjCase_untell h6 kk)
  · exact g_B (pc1 := 1480) (st1 := []) mjMt0 mjSw_q (by decide +kernel) (mjCase_later h6 kk)
  · exact g_B (pc1 := 1503) (st1 := []) mjMt0 mjSw_q (by decide +kernel) (mjCase_fits h6 kk)
  · exact g_B (pc1 := 1526) (st1 := []) mjMt0 mjSw_q (by decide +kernel) (mjCase_sure h6 kk)
  · exact g_B (pc1 := 1559) (st1 := []) mjMt0 mjSw_q (by decide +kernel) (mjCase_ask h6 kk)
  · exact g_B (pc1 := 1592) (st1 := []) mjMt0 mjSw_q (by decide +kernel) (mjCase_image h6 kk)
  · exact g_B (pc1 := 1615) (st1 := []) mjMt0 mjSw_q (by decide +kernel) (mjCase_back h6 kk)
  · exact g_B (pc1 := 1638) (st1 := []) mjMt0 mjSw_q (by decide +kernel) (mjCase_about h6 kk)
  · exact g_B (pc1 := 1661) (st1 := []) mjMt0 mjSw_q (by decide +kernel) (kk _ rfl)
  · exact g_B (pc1 := 1661) (st1 := []) mjMt0 mjSw_q (by decide +kernel) (kk _ rfl)
  · exact g_B (pc1 := 1661) (st1 := []) mjMt0 mjSw_q (by decide +kernel) (kk _ rfl)
  · exact g_B (pc1 := 1661) (st1 := []) mjMt0 mjSw_q (by decide +kernel) (kk _ rfl)
  · exact g_B (pc1 := 1661) (st1 := []) mjMt0 mjSw_q (by decide +kernel) (kk _ rfl)
  · exact g_B (pc1 := 1661) (st1 := []) mjMt0 mjSw_q (by decide +kernel) (kk _ rfl)
  · exact g_B (pc1 := 1661) (st1 := []) mjMt0 mjSw_q (by decide +kernel) (kk _ rfl)
  · exact g_B (pc1 := 1661) (st1 := []) mjMt0 mjSw_q (by decide +kernel) (kk _ rfl)
  · exact g_B (pc1 := 1661) (st1 := []) mjMt0 mjSw_q (by decide +kernel) (kk _ rfl)
  · exact g_B (pc1 := 1661) (st1 := []) mjMt0 mjSw_q (by decide +kernel) (kk _ rfl)
  · exact g_B (pc1 := 1661) (st1 := []) mjMt0 mjSw_q (by decide +kernel) (kk _ rfl)
  · exact g_B (pc1 := 1661) (st1 := []) mjMt0 mjSw_q (by decide +kernel) (kk _ rfl)
  · exact g_B (pc1 := 1661) (st1 := []) mjMt0 mjSw_q (by decide +kernel) (kk _ rfl)
end MjLaw
