/-! ===== the law: its cases ===== -/
section MjLaw
variable {sc : List Int32} {P : Option Value → MjW → Prop} {i : Int32} {k : Nat} {t : Int} {w : MjW}
set_option maxRecDepth 100000 in
theorem mjCase_feed (hs : mjSc sc i k) (hI : mjInv m4S (m4J t) w) (hw : mjShp w = mjShp mjW0) (K : ∀ w2, mjInv m4S (m4J t) w2 → mjShp w2 = mjShp mjW0 → mjGo mjTb mjMt sc (70 + 1) 0 (1661, mjLi i, [], w2) P) : mjGo mjTb mjMt sc (70 + 1) 0 (252, mjLi i, [], w) P :=
  mj_case (J := m4J t) (pc := 252) (n := 5) (yx := 23) (ym := 311) (dx := 2) (dm := 1) (Mx := mjM_23) (Mm := mjM_311) (by decide +kernel) (by decide) hs rfl rfl (by decide) (by decide) (by decide) (by decide) (by decide) (by decide) hI hw (fun w1 I1 => mj_ctrPo (mjC_x_1 (m4_ok t) (H_x t)) I1 ⟨⟨0, rfl, rfl⟩, ⟨_, rfl, mjB.all _⟩, ⟨_, rfl, mjB.all _⟩, ⟨_, rfl, mjB.all _⟩, ⟨_, rfl, mjB.all _⟩, ⟨_, rfl, mjB.all _⟩, trivial⟩ rfl (by decide) rfl) (fun w1 I1 => mj_ctrPo (mjC_m_0 (m4_ok t) (H_m t)) I1 ⟨⟨240, rfl, rfl⟩, ⟨_, rfl, mjB.all _⟩, ⟨_, rfl, mjB.all _⟩, ⟨_, rfl, mjB.all _⟩, ⟨_, rfl, mjB.all _⟩, ⟨_, rfl, mjB.all _⟩, trivial⟩ rfl (by decide) rfl) K
set_option maxRecDepth 100000 in
theorem mjCase_end (hs : mjSc sc i k) (hI : mjInv m4S (m4J t) w) (hw : mjShp w = mjShp mjW0) (K : ∀ w2, mjInv m4S (m4J t) w2 → mjShp w2 = mjShp mjW0 → mjGo mjTb mjMt sc (70 + 1) 0 (1661, mjLi i, [], w2) P) : mjGo mjTb mjMt sc (70 + 1) 0 (315, mjLi i, [], w) P :=
  mj_case (J := m4J t) (pc := 315) (n := 1) (yx := 25) (ym := 312) (dx := 1) (dm := 1) (Mx := mjM_25) (Mm := mjM_312) (by decide +kernel) (by decide) hs rfl rfl (by decide) (by decide) (by decide) (by decide) (by decide) (by decide) hI hw (fun w1 I1 => mj_ctrPo (mjC_x_2 (m4_ok t) (H_x t)) I1 ⟨⟨0, rfl, rfl⟩, ⟨_, rfl, mjB.all _⟩, trivial⟩ rfl (by decide) rfl) (fun w1 I1 => mj_ctrPo (mjC_m_1 (m4_ok t) (H_m t)) I1 ⟨⟨240, rfl, rfl⟩, ⟨_, rfl, mjB.all _⟩, trivial⟩ rfl (by decide) rfl) K
set_option maxRecDepth 100000 in
theorem mjCase_pass (hs : mjSc sc i k) (hI : mjInv m4S (m4J t) w) (hw : mjShp w = mjShp mjW0) (K : ∀ w2, mjInv m4S (m4J t) w2 → mjShp w2 = mjShp mjW0 → mjGo mjTb mjMt sc (70 + 1) 0 (1661, mjLi i, [], w2) P) : mjGo mjTb mjMt sc (70 + 1) 0 (338, mjLi i, [], w) P :=
  mj_case (J := m4J t) (pc := 338) (n := 0) (yx := 26) (ym := 180) (dx := 64) (dm := 9) (Mx := mjM_26) (Mm := mjM_180) (by decide +kernel) (by decide) hs rfl rfl (by decide) (by decide) (by decide) (by decide) (by decide) (by decide) hI hw (fun w1 I1 => mj_ctrPo (mjC_x_153 (m4_ok t) (H_x t)) I1 ⟨⟨0, rfl, rfl⟩, trivial⟩ rfl (by decide) rfl) (fun w1 I1 => H_pass I1) K
set_option maxRecDepth 100000 in
theorem mjCase_fault (hs : mjSc sc i k) (hI : mjInv m4S (m4J t) w) (hw : mjShp w = mjShp mjW0) (K : ∀ w2, mjInv m4S (m4J t) w2 → mjShp w2 = mjShp mjW0 → mjGo mjTb mjMt sc (70 + 1) 0 (1661, mjLi i, [], w2) P) : mjGo mjTb mjMt sc (70 + 1) 0 (351, mjLi i, [], w) P :=
  mj_case (J := m4J t) (pc := 351) (n := 1) (yx := 66) (ym := 216) (dx := 1) (dm := 1) (Mx := mjM_66) (Mm := mjM_216) (by decide +kernel) (by decide) hs rfl rfl (by decide) (by decide) (by decide) (by decide) (by decide) (by decide) hI hw (fun w1 I1 => mj_ctrPo (mjC_x_154 (m4_ok t) (H_x t)) I1 ⟨⟨0, rfl, rfl⟩, ⟨_, rfl, mjB.all _⟩, trivial⟩ rfl (by decide) rfl) (fun w1 I1 => mj_ctrPo (mjC_m_2 (m4_ok t) (H_m t)) I1 ⟨⟨240, rfl, rfl⟩, ⟨_, rfl, mjB.all _⟩, trivial⟩ rfl (by decide) rfl) K
set_option maxRecDepth 100000 in
theorem mjCase_cell (hs : mjSc sc i k) (hI : mjInv m4S (m4J t) w) (hw : mjShp w = mjShp mjW0) (K : ∀ w2, mjInv m4S (m4J t) w2 → mjShp w2 = mjShp mjW0 → mjGo mjTb mjMt sc (70 + 1) 0 (1661, mjLi i, [], w2) P) : mjGo mjTb mjMt sc (70 + 1) 0 (374, mjLi i, [], w) P :=
  mj_case (J := m4J t) (pc := 374) (n := 3) (yx := 67) (ym := 217) (dx := 6) (dm := 6) (Mx := mjM_67) (Mm := mjM_217) (by decide +kernel) (by decide) hs rfl rfl (by decide) (by decide) (by decide) (by decide) (by decide) (by decide) hI hw (fun w1 I1 => mj_ctrPo (mjC_x_178 (m4_ok t) (H_x t)) I1 ⟨⟨0, rfl, rfl⟩, ⟨_, rfl, mjB.all _⟩, ⟨_, rfl, mjB.all _⟩, ⟨_, rfl, mjB.all _⟩, trivial⟩ rfl (by decide) rfl) (fun w1 I1 => mj_ctrPo (mjC_m_274 (m4_ok t) (H_m t)) I1 ⟨⟨240, rfl, rfl⟩, ⟨_, rfl, mjB.all _⟩, ⟨_, rfl, mjB.all _⟩, ⟨_, rfl, mjB.all _⟩, trivial⟩ rfl (by decide) rfl) K
set_option maxRecDepth 100000 in
theorem mjCase_room (hs : mjSc sc i k) (hI : mjInv m4S (m4J t) w) (hw : mjShp w = mjShp mjW0) (K : ∀ w2, mjInv m4S (m4J t) w2 → mjShp w2 = mjShp mjW0 → mjGo mjTb mjMt sc (70 + 1) 0 (1661, mjLi i, [], w2) P) : mjGo mjTb mjMt sc (70 + 1) 0 (417, mjLi i, [], w) P :=
  mj_case (J := m4J t) (pc := 417) (n := 2) (yx := 79) (ym := 233) (dx := 2) (dm := 3) (Mx := mjM_79) (Mm := mjM_233) (by decide +kernel) (by decide) hs rfl rfl (by decide) (by decide) (by decide) (by decide) (by decide) (by decide) hI hw (fun w1 I1 => mj_ctrPo (mjC_x_181 (m4_ok t) (H_x t)) I1 ⟨⟨0, rfl, rfl⟩, ⟨_, rfl, mjB.all _⟩, ⟨_, rfl, mjB.all _⟩, trivial⟩ rfl (by decide) rfl) (fun w1 I1 => mj_ctrPo (mjC_m_280 (m4_ok t) (H_m t)) I1 ⟨⟨240, rfl, rfl⟩, ⟨_, rfl, mjB.all _⟩, ⟨_, rfl, mjB.all _⟩, trivial⟩ rfl (by decide) rfl) K
set_option maxRecDepth 100000 in
theorem mjCase_guest (hs : mjSc sc i k) (hI : mjInv m4S (m4J t) w) (hw : mjShp w = mjShp mjW0) (K : ∀ w2, mjInv m4S (m4J t) w2 → mjShp w2 = mjShp mjW0 → mjGo mjTb mjMt sc (70 + 1) 0 (1661, mjLi i, [], w2) P) : mjGo mjTb mjMt sc (70 + 1) 0 (450, mjLi i, [], w) P :=
  mj_case (J := m4J t) (pc := 450) (n := 2) (yx := 82) (ym := 235) (dx := 2) (dm := 3) (Mx := mjM_82) (Mm := mjM_235) (by decide +kernel) (by decide) hs rfl rfl (by decide) (by decide) (by decide) (by decide) (by decide) (by decide) hI hw (fun w1 I1 => mj_ctrPo (mjC_x_184 (m4_ok t) (H_x t)) I1 ⟨⟨0, rfl, rfl⟩, ⟨_, rfl, mjB.all _⟩, ⟨_, rfl, mjB.all _⟩, trivial⟩ rfl (by decide) rfl) (fun w1 I1 => mj_ctrPo (mjC_m_283 (m4_ok t) (H_m t)) I1 ⟨⟨240, rfl, rfl⟩, ⟨_, rfl, mjB.all _⟩, ⟨_, rfl, mjB.all _⟩, trivial⟩ rfl (by decide) rfl) K
set_option maxRecDepth 100000 in
theorem mjCase_noise (hs : mjSc sc i k) (hI : mjInv m4S (m4J t) w) (hw : mjShp w = mjShp mjW0) (K : ∀ w2, mjInv m4S (m4J t) w2 → mjShp w2 = mjShp mjW0 → mjGo mjTb mjMt sc (70 + 1) 0 (1661, mjLi i, [], w2) P) : mjGo mjTb mjMt sc (70 + 1) 0 (483, mjLi i, [], w) P :=
  mj_case (J := m4J t) (pc := 483) (n := 1) (yx := 85) (ym := 237) (dx := 5) (dm := 5) (Mx := mjM_85) (Mm := mjM_237) (by decide +kernel) (by decide) hs rfl rfl (by decide) (by decide) (by decide) (by decide) (by decide) (by decide) hI hw (fun w1 I1 => mj_ctrPo (mjC_x_185 (m4_ok t) (H_x t)) I1 ⟨⟨0, rfl, rfl⟩, ⟨_, rfl, mjB.all _⟩, trivial⟩ rfl (by decide) rfl) (fun w1 I1 => mj_ctrPo (mjC_m_284 (m4_ok t) (H_m t)) I1 ⟨⟨240, rfl, rfl⟩, ⟨_, rfl, mjB.all _⟩, trivial⟩ rfl (by decide) rfl) K
set_option maxRecDepth 100000 in
theorem mjCase_hour (hs : mjSc sc i k) (hI : mjInv m4S (m4J t) w) (hw : mjShp w = mjShp mjW0) (K : ∀ w2, mjInv m4S (m4J t) w2 → mjShp w2 = mjShp mjW0 → mjGo mjTb mjMt sc (70 + 1) 0 (1661, mjLi i, [], w2) P) : mjGo mjTb mjMt sc (70 + 1) 0 (506, mjLi i, [], w) P :=
  mj_case (J := m4J t) (pc := 506) (n := 0) (yx := 86) (ym := 245) (dx := 5) (dm := 8) (Mx := mjM_86) (Mm := mjM_245) (by decide +kernel) (by decide) hs rfl rfl (by decide) (by decide) (by decide) (by decide) (by decide) (by decide) hI hw (fun w1 I1 => mj_ctrPo (mjC_x_200 (m4_ok t) (H_x t)) I1 ⟨⟨0, rfl, rfl⟩, trivial⟩ rfl (by decide) rfl) (fun w1 I1 => mj_ctrPo (mjC_m_380 (m4_ok t) (H_m t)) I1 ⟨⟨240, rfl, rfl⟩, trivial⟩ rfl (by decide) rfl) K
set_option maxRecDepth 100000 in
theorem mjCase_shout (hs : mjSc sc i k) (hI : mjInv m4S (m4J t) w) (hw : mjShp w = mjShp mjW0) (K : ∀ w2, mjInv m4S (m4J t) w2 → mjShp w2 = mjShp mjW0 → mjGo mjTb mjMt sc (70 + 1) 0 (1661, mjLi i, [], w2) P) : mjGo mjTb mjMt sc (70 + 1) 0 (519, mjLi i, [], w) P :=
  mj_case (J := m4J t) (pc := 519) (n := 2) (yx := 95) (ym := 252) (dx := 5) (dm := 8) (Mx := mjM_95) (Mm := mjM_252) (by decide +kernel) (by decide) hs rfl rfl (by decide) (by decide) (by decide) (by decide) (by decide) (by decide) hI hw (fun w1 I1 => mj_ctrPo (mjC_x_202 (m4_ok t) (H_x t)) I1 ⟨⟨0, rfl, rfl⟩, ⟨_, rfl, mjB.all _⟩, ⟨_, rfl, mjB.all _⟩, trivial⟩ rfl (by decide) rfl) (fun w1 I1 => mj_ctrPo (mjC_m_383 (m4_ok t) (H_m t)) I1 ⟨⟨240, rfl, rfl⟩, ⟨_, rfl, mjB.all _⟩, ⟨_, rfl, mjB.all _⟩, trivial⟩ rfl (by decide) rfl) K
set_option maxRecDepth 100000 in
theorem mjCase_move (hs : mjSc sc i k) (hI : mjInv m4S (m4J t) w) (hw : mjShp w = mjShp mjW0) (K : ∀ w2, mjInv m4S (m4J t) w2 → mjShp w2 = mjShp mjW0 → mjGo mjTb mjMt sc (70 + 1) 0 (1661, mjLi i, [], w2) P) : mjGo mjTb mjMt sc (70 + 1) 0 (552, mjLi i, [], w) P :=
  mj_case (J := m4J t) (pc := 552) (n := 2) (yx := 97) (ym := 254) (dx := 3) (dm := 3) (Mx := mjM_97) (Mm := mjM_254) (by decide +kernel) (by decide) hs rfl rfl (by decide) (by decide) (by decide) (by decide) (by decide) (by decide) hI hw (fun w1 I1 => mj_ctrPo (mjC_x_203 (m4_ok t) (H_x t)) I1 ⟨⟨0, rfl, rfl⟩, ⟨_, rfl, mjB.all _⟩, ⟨_, rfl, mjB.all _⟩, trivial⟩ rfl (by decide) rfl) (fun w1 I1 => mj_ctrPo (mjC_m_384 (m4_ok t) (H_m t)) I1 ⟨⟨240, rfl, rfl⟩, ⟨_, rfl, mjB.all _⟩, ⟨_, rfl, mjB.all _⟩, trivial⟩ rfl (by decide) rfl) K
set_option maxRecDepth 100000 in
theorem mjCase_build (hs : mjSc sc i k) (hI : mjInv m4S (m4J t) w) (hw : mjShp w = mjShp mjW0) (K : ∀ w2, mjInv m4S (m4J t) w2 → mjShp w2 = mjShp mjW0 → mjGo mjTb mjMt sc (70 + 1) 0 (1661, mjLi i, [], w2) P) : mjGo mjTb mjMt sc (70 + 1) 0 (585, mjLi i, [], w) P :=
  mj_case (J := m4J t) (pc := 585) (n := 1) (yx := 98) (ym := 255) (dx := 3) (dm := 3) (Mx := mjM_98) (Mm := mjM_255) (by decide +kernel) (by decide) hs rfl rfl (by decide) (by decide) (by decide) (by decide) (by decide) (by decide) hI hw (fun w1 I1 => mj_ctrPo (mjC_x_205 (m4_ok t) (H_x t)) I1 ⟨⟨0, rfl, rfl⟩, ⟨_, rfl, mjB.all _⟩, trivial⟩ rfl (by decide) rfl) (fun w1 I1 => mj_ctrPo (mjC_m_418 (m4_ok t) (H_m t)) I1 ⟨⟨240, rfl, rfl⟩, ⟨_, rfl, mjB.all _⟩, trivial⟩ rfl (by decide) rfl) K
set_option maxRecDepth 100000 in
theorem mjCase_hush (hs : mjSc sc i k) (hI : mjInv m4S (m4J t) w) (hw : mjShp w = mjShp mjW0) (K : ∀ w2, mjInv m4S (m4J t) w2 → mjShp w2 = mjShp mjW0 → mjGo mjTb mjMt sc (70 + 1) 0 (1661, mjLi i, [], w2) P) : mjGo mjTb mjMt sc (70 + 1) 0 (608, mjLi i, [], w) P :=
  mj_case (J := m4J t) (pc := 608) (n := 1) (yx := 100) (ym := 257) (dx := 3) (dm := 3) (Mx := mjM_100) (Mm := mjM_257) (by decide +kernel) (by decide) hs rfl rfl (by decide) (by decide) (by decide) (by decide) (by decide) (by decide) hI hw (fun w1 I1 => mj_ctrPo (mjC_x_206 (m4_ok t) (H_x t)) I1 ⟨⟨0, rfl, rfl⟩, ⟨_, rfl, mjB.all _⟩, trivial⟩ rfl (by decide) rfl) (fun w1 I1 => mj_ctrPo (mjC_m_420 (m4_ok t) (H_m t)) I1 ⟨⟨240, rfl, rfl⟩, ⟨_, rfl, mjB.all _⟩, trivial⟩ rfl (by decide) rfl) K
set_option maxRecDepth 100000 in
theorem mjCase_let (hs : mjSc sc i k) (hI : mjInv m4S (m4J t) w) (hw : mjShp w = mjShp mjW0) (K : ∀ w2, mjInv m4S (m4J t) w2 → mjShp w2 = mjShp mjW0 → mjGo mjTb mjMt sc (70 + 1) 0 (1661, mjLi i, [], w2) P) : mjGo mjTb mjMt sc (70 + 1) 0 (631, mjLi i, [], w) P :=
  mj_case (J := m4J t) (pc := 631) (n := 1) (yx := 101) (ym := 259) (dx := 3) (dm := 3) (Mx := mjM_101) (Mm := mjM_259) (by decide +kernel) (by decide) hs rfl rfl (by decide) (by decide) (by decide) (by decide) (by decide) (by decide) hI hw (fun w1 I1 => mj_ctrPo (mjC_x_207 (m4_ok t) (H_x t)) I1 ⟨⟨0, rfl, rfl⟩, ⟨_, rfl, mjB.all _⟩, trivial⟩ rfl (by decide) rfl) (fun w1 I1 => mj_ctrPo (mjC_m_421 (m4_ok t) (H_m t)) I1 ⟨⟨240, rfl, rfl⟩, ⟨_, rfl, mjB.all _⟩, trivial⟩ rfl (by decide) rfl) K
set_option maxRecDepth 100000 in
theorem mjCase_wall (hs : mjSc sc i k) (hI : mjInv m4S (m4J t) w) (hw : mjShp w = mjShp mjW0) (K : ∀ w2, mjInv m4S (m4J t) w2 → mjShp w2 = mjShp mjW0 → mjGo mjTb mjMt sc (70 + 1) 0 (1661, mjLi i, [], w2) P) : mjGo mjTb mjMt sc (70 + 1) 0 (654, mjLi i, [], w) P :=
  mj_case (J := m4J t) (pc := 654) (n := 3) (yx := 102) (ym := 260) (dx := 3) (dm := 4) (Mx := mjM_102) (Mm := mjM_260) (by decide +kernel) (by decide) hs rfl rfl (by decide) (by decide) (by decide) (by decide) (by decide) (by decide) hI hw (fun w1 I1 => mj_ctrPo (mjC_x_208 (m4_ok t) (H_x t)) I1 ⟨⟨0, rfl, rfl⟩, ⟨_, rfl, mjB.all _⟩, ⟨_, rfl, mjB.all _⟩, ⟨_, rfl, mjB.all _⟩, trivial⟩ rfl (by decide) rfl) (fun w1 I1 => mj_ctrPo (mjC_m_423 (m4_ok t) (H_m t)) I1 ⟨⟨240, rfl, rfl⟩, ⟨_, rfl, mjB.all _⟩, ⟨_, rfl, mjB.all _⟩, ⟨_, rfl, mjB.all _⟩, trivial⟩ rfl (by decide) rfl) K
set_option maxRecDepth 100000 in
theorem mjCase_shovel (hs : mjSc sc i k) (hI : mjInv m4S (m4J t) w) (hw : mjShp w = mjShp mjW0) (K : ∀ w2, mjInv m4S (m4J t) w2 → mjShp w2 = mjShp mjW0 → mjGo mjTb mjMt sc (70 + 1) 0 (1661, mjLi i, [], w2) P) : mjGo mjTb mjMt sc (70 + 1) 0 (697, mjLi i, [], w) P :=
  mj_case (J := m4J t) (pc := 697) (n := 2) (yx := 103) (ym := 261) (dx := 3) (dm := 4) (Mx := mjM_103) (Mm := mjM_261) (by decide +kernel) (by decide) hs rfl rfl (by decide) (by decide) (by decide) (by decide) (by decide) (by decide) hI hw (fun w1 I1 => mj_ctrPo (mjC_x_209 (m4_ok t) (H_x t)) I1 ⟨⟨0, rfl, rfl⟩, ⟨_, rfl, mjB.all _⟩, ⟨_, rfl, mjB.all _⟩, trivial⟩ rfl (by decide) rfl) (fun w1 I1 => mj_ctrPo (mjC_m_424 (m4_ok t) (H_m t)) I1 ⟨⟨240, rfl, rfl⟩, ⟨_, rfl, mjB.all _⟩, ⟨_, rfl, mjB.all _⟩, trivial⟩ rfl (by decide) rfl) K
set_option maxRecDepth 100000 in
theorem mjCase_undo (hs : mjSc sc i k) (hI : mjInv m4S (m4J t) w) (hw : mjShp w = mjShp mjW0) (K : ∀ w2, mjInv m4S (m4J t) w2 → mjShp w2 = mjShp mjW0 → mjGo mjTb mjMt sc (70 + 1) 0 (1661, mjLi i, [], w2) P) : mjGo mjTb mjMt sc (70 + 1) 0 (730, mjLi i, [], w) P :=
  mj_case (J := m4J t) (pc := 730) (n := 0) (yx := 104) (ym := 262) (dx := 2) (dm := 2) (Mx := mjM_104) (Mm := mjM_262) (by decide +kernel) (by decide) hs rfl rfl (by decide) (by decide) (by decide) (by decide) (by decide) (by decide) hI hw (fun w1 I1 => mj_ctrPo (mjC_x_211 (m4_ok t) (H_x t)) I1 ⟨⟨0, rfl, rfl⟩, trivial⟩ rfl (by decide) rfl) (fun w1 I1 => mj_ctrPo (mjC_m_425 (m4_ok t) (H_m t)) I1 ⟨⟨240, rfl, rfl⟩, trivial⟩ rfl (by decide) rfl) K
set_option maxRecDepth 100000 in
theorem mjCase_redo (hs : mjSc sc i k) (hI : mjInv m4S (m4J t) w) (hw : mjShp w = mjShp mjW0) (K : ∀ w2, mjInv m4S (m4J t) w2 → mjShp w2 = mjShp mjW0 → mjGo mjTb mjMt sc (70 + 1) 0 (1661, mjLi i, [], w2) P) : mjGo mjTb mjMt sc (70 + 1) 0 (743, mjLi i, [], w) P :=
  mj_case (J := m4J t) (pc := 743) (n := 0) (yx := 106) (ym := 264) (dx := 2) (dm := 2) (Mx := mjM_106) (Mm := mjM_264) (by decide +kernel) (by decide) hs rfl rfl (by decide) (by decide) (by decide) (by decide) (by decide) (by decide) hI hw (fun w1 I1 => mj_ctrPo (mjC_x_213 (m4_ok t) (H_x t)) I1 ⟨⟨0, rfl, rfl⟩, trivial⟩ rfl (by decide) rfl) (fun w1 I1 => mj_ctrPo (mjC_m_426 (m4_ok t) (H_m t)) I1 ⟨⟨240, rfl, rfl⟩, trivial⟩ rfl (by decide) rfl) K
set_option maxRecDepth 100000 in
theorem mjCase_will (hs : mjSc sc i k) (hI : mjInv m4S (m4J t) w) (hw : mjShp w = mjShp mjW0) (K : ∀ w2, mjInv m4S (m4J t) w2 → mjShp w2 = mjShp mjW0 → mjGo mjTb mjMt sc (70 + 1) 0 (1661, mjLi i, [], w2) P) : mjGo mjTb mjMt sc (70 + 1) 0 (756, mjLi i, [], w) P :=
  mj_case (J := m4J t) (pc := 756) (n := 2) (yx := 108) (ym := 265) (dx := 6) (dm := 8) (Mx := mjM_108) (Mm := mjM_265) (by decide +kernel) (by decide) hs rfl rfl (by decide) (by decide) (by decide) (by decide) (by decide) (by decide) hI hw (fun w1 I1 => mj_ctrPo (mjC_x_217 (m4_ok t) (H_x t)) I1 ⟨⟨0, rfl, rfl⟩, ⟨_, rfl, mjB.all _⟩, ⟨_, rfl, mjB.all _⟩, trivial⟩ rfl (by decide) rfl) (fun w1 I1 => mj_ctrPo (mjC_m_492 (m4_ok t) (H_m t)) I1 ⟨⟨240, rfl, rfl⟩, ⟨_, rfl, mjB.all _⟩, ⟨_, rfl, mjB.all _⟩, trivial⟩ rfl (by decide) rfl) K
set_option maxRecDepth 100000 in
theorem mjCase_depth (hs : mjSc sc i k) (hI : mjInv m4S (m4J t) w) (hw : mjShp w = mjShp mjW0) (K : ∀ w2, mjInv m4S (m4J t) w2 → mjShp w2 = mjShp mjW0 → mjGo mjTb mjMt sc (70 + 1) 0 (1661, mjLi i, [], w2) P) : mjGo mjTb mjMt sc (70 + 1) 0 (789, mjLi i, [], w) P :=
  mj_case (J := m4J t) (pc := 789) (n := 3) (yx := 110) (ym := 268) (dx := 7) (dm := 9) (Mx := mjM_110) (Mm := mjM_268) (by decide +kernel) (by decide) hs rfl rfl (by decide) (by decide) (by decide) (by decide) (by decide) (by decide) hI hw (fun w1 I1 => mj_ctrPo (mjC_x_219 (m4_ok t) (H_x t)) I1 ⟨⟨0, rfl, rfl⟩, ⟨_, rfl, mjB.all _⟩, ⟨_, rfl, mjB.all _⟩, ⟨_, rfl, mjB.all _⟩, trivial⟩ rfl (by decide) rfl) (fun w1 I1 => mj_ctrPo (mjC_m_494 (m4_ok t) (H_m t)) I1 ⟨⟨240, rfl, rfl⟩, ⟨_, rfl, mjB.all _⟩, ⟨_, rfl, mjB.all _⟩, ⟨_, rfl, mjB.all _⟩, trivial⟩ rfl (by decide) rfl) K
set_option maxRecDepth 100000 in
theorem mjCase_left (hs : mjSc sc i k) (hI : mjInv m4S (m4J t) w) (hw : mjShp w = mjShp mjW0) (K : ∀ w2, mjInv m4S (m4J t) w2 → mjShp w2 = mjShp mjW0 → mjGo mjTb mjMt sc (70 + 1) 0 (1661, mjLi i, [], w2) P) : mjGo mjTb mjMt sc (70 + 1) 0 (832, mjLi i, [], w) P :=
  mj_case (J := m4J t) (pc := 832) (n := 1) (yx := 112) (ym := 270) (dx := 7) (dm := 11) (Mx := mjM_112) (Mm := mjM_270) (by decide +kernel) (by decide) hs rfl rfl (by decide) (by decide) (by decide) (by decide) (by decide) (by decide) hI hw (fun w1 I1 => mj_ctrPo (mjC_x_220 (m4_ok t) (H_x t)) I1 ⟨⟨0, rfl, rfl⟩, ⟨_, rfl, mjB.all _⟩, trivial⟩ rfl (by decide) rfl) (fun w1 I1 => mj_ctrPo (mjC_m_497 (m4_ok t) (H_m t)) I1 ⟨⟨240, rfl, rfl⟩, ⟨_, rfl, mjB.all _⟩, trivial⟩ rfl (by decide) rfl) K
set_option maxRecDepth 100000 in
theorem mjCase_purse (hs : mjSc sc i k) (hI : mjInv m4S (m4J t) w) (hw : mjShp w = mjShp mjW0) (K : ∀ w2, mjInv m4S (m4J t) w2 → mjShp w2 = mjShp mjW0 → mjGo mjTb mjMt sc (70 + 1) 0 (1661, mjLi i, [], w2) P) : mjGo mjTb mjMt sc (70 + 1) 0 (855, mjLi i, [], w) P :=
  mj_case (J := m4J t) (pc := 855) (n := 1) (yx := 113) (ym := 273) (dx := 7) (dm := 9) (Mx := mjM_113) (Mm := mjM_273) (by decide +kernel) (by decide) hs rfl rfl (by decide) (by decide) (by decide) (by decide) (by decide) (by decide) hI hw (fun w1 I1 => mj_ctrPo (mjC_x_221 (m4_ok t) (H_x t)) I1 ⟨⟨0, rfl, rfl⟩, ⟨_, rfl, mjB.all _⟩, trivial⟩ rfl (by decide) rfl) (fun w1 I1 => mj_ctrPo (mjC_m_498 (m4_ok t) (H_m t)) I1 ⟨⟨240, rfl, rfl⟩, ⟨_, rfl, mjB.all _⟩, trivial⟩ rfl (by decide) rfl) K
set_option maxRecDepth 100000 in
theorem mjCase_when (hs : mjSc sc i k) (hI : mjInv m4S (m4J t) w) (hw : mjShp w = mjShp mjW0) (K : ∀ w2, mjInv m4S (m4J t) w2 → mjShp w2 = mjShp mjW0 → mjGo mjTb mjMt sc (70 + 1) 0 (1661, mjLi i, [], w2) P) : mjGo mjTb mjMt sc (70 + 1) 0 (878, mjLi i, [], w) P :=
  mj_case (J := m4J t) (pc := 878) (n := 1) (yx := 114) (ym := 274) (dx := 6) (dm := 9) (Mx := mjM_114) (Mm := mjM_274) (by decide +kernel) (by decide) hs rfl rfl (by decide) (by decide) (by decide) (by decide) (by decide) (by decide) hI hw (fun w1 I1 => mj_ctrPo (mjC_x_223 (m4_ok t) (H_x t)) I1 ⟨⟨0, rfl, rfl⟩, ⟨_, rfl, mjB.all _⟩, trivial⟩ rfl (by decide) rfl) (fun w1 I1 => mj_ctrPo (mjC_m_500 (m4_ok t) (H_m t)) I1 ⟨⟨240, rfl, rfl⟩, ⟨_, rfl, mjB.all _⟩, trivial⟩ rfl (by decide) rfl) K
set_option maxRecDepth 100000 in
theorem mjCase_next (hs : mjSc sc i k) (hI : mjInv m4S (m4J t) w) (hw : mjShp w = mjShp mjW0) (K : ∀ w2, mjInv m4S (m4J t) w2 → mjShp w2 = mjShp mjW0 → mjGo mjTb mjMt sc (70 + 1) 0 (1661, mjLi i, [], w2) P) : mjGo mjTb mjMt sc (70 + 1) 0 (901, mjLi i, [], w) P :=
  mj_case (J := m4J t) (pc := 901) (n := 0) (yx := 116) (ym := 277) (dx := 5) (dm := 9) (Mx := mjM_116) (Mm := mjM_277) (by decide +kernel) (by decide) hs rfl rfl (by decide) (by decide) (by decide) (by decide) (by decide) (by decide) hI hw (fun w1 I1 => mj_ctrPo (mjC_x_224 (m4_ok t) (H_x t)) I1 ⟨⟨0, rfl, rfl⟩, trivial⟩ rfl (by decide) rfl) (fun w1 I1 => mj_ctrPo (mjC_m_502 (m4_ok t) (H_m t)) I1 ⟨⟨240, rfl, rfl⟩, trivial⟩ rfl (by decide) rfl) K
set_option maxRecDepth 100000 in
theorem mjCase_first (hs : mjSc sc i k) (hI : mjInv m4S (m4J t) w) (hw : mjShp w = mjShp mjW0) (K : ∀ w2, mjInv m4S (m4J t) w2 → mjShp w2 = mjShp mjW0 → mjGo mjTb mjMt sc (70 + 1) 0 (1661, mjLi i, [], w2) P) : mjGo mjTb mjMt sc (70 + 1) 0 (914, mjLi i, [], w) P :=
  mj_case (J := m4J t) (pc := 914) (n := 1) (yx := 117) (ym := 279) (dx := 5) (dm := 9) (Mx := mjM_117) (Mm := mjM_279) (by decide +kernel) (by decide) hs rfl rfl (by decide) (by decide) (by decide) (by decide) (by decide) (by decide) hI hw (fun w1 I1 => mj_ctrPo (mjC_x_225 (m4_ok t) (H_x t)) I1 ⟨⟨0, rfl, rfl⟩, ⟨_, rfl, mjB.all _⟩, trivial⟩ rfl (by decide) rfl) (fun w1 I1 => mj_ctrPo (mjC_m_504 (m4_ok t) (H_m t)) I1 ⟨⟨240, rfl, rfl⟩, ⟨_, rfl, mjB.all _⟩, trivial⟩ rfl (by decide) rfl) K
set_option maxRecDepth 100000 in
theorem mjCase_track (hs : mjSc sc i k) (hI : mjInv m4S (m4J t) w) (hw : mjShp w = mjShp mjW0) (K : ∀ w2, mjInv m4S (m4J t) w2 → mjShp w2 = mjShp mjW0 → mjGo mjTb mjMt sc (70 + 1) 0 (1661, mjLi i, [], w2) P) : mjGo mjTb mjMt sc (70 + 1) 0 (937, mjLi i, [], w) P :=
  mj_case (J := m4J t) (pc := 937) (n := 3) (yx := 118) (ym := 240) (dx := 5) (dm := 4) (Mx := mjM_118) (Mm := mjM_240) (by decide +kernel) (by decide) hs rfl rfl (by decide) (by decide) (by decide) (by decide) (by decide) (by decide) hI hw (fun w1 I1 => mj_ctrPo (mjC_x_227 (m4_ok t) (H_x t)) I1 ⟨⟨0, rfl, rfl⟩, ⟨_, rfl, mjB.all _⟩, ⟨_, rfl, mjB.all _⟩, ⟨_, rfl, mjB.all _⟩, trivial⟩ rfl (by decide) rfl) (fun w1 I1 => mj_ctrPo (mjC_m_505 (m4_ok t) (H_m t)) I1 ⟨⟨240, rfl, rfl⟩, ⟨_, rfl, mjB.all _⟩, ⟨_, rfl, mjB.all _⟩, ⟨_, rfl, mjB.all _⟩, trivial⟩ rfl (by decide) rfl) K
set_option maxRecDepth 100000 in
theorem mjCase_least (hs : mjSc sc i k) (hI : mjInv m4S (m4J t) w) (hw : mjShp w = mjShp mjW0) (K : ∀ w2, mjInv m4S (m4J t) w2 → mjShp w2 = mjShp mjW0 → mjGo mjTb mjMt sc (70 + 1) 0 (1661, mjLi i, [], w2) P) : mjGo mjTb mjMt sc (70 + 1) 0 (980, mjLi i, [], w) P :=
  mj_case (J := m4J t) (pc := 980) (n := 1) (yx := 120) (ym := 243) (dx := 5) (dm := 7) (Mx := mjM_120) (Mm := mjM_243) (by decide +kernel) (by decide) hs rfl rfl (by decide) (by decide) (by decide) (by decide) (by decide) (by decide) hI hw (fun w1 I1 => mj_ctrPo (mjC_x_228 (m4_ok t) (H_x t)) I1 ⟨⟨0, rfl, rfl⟩, ⟨_, rfl, mjB.all _⟩, trivial⟩ rfl (by decide) rfl) (fun w1 I1 => mj_ctrPo (mjC_m_507 (m4_ok t) (H_m t)) I1 ⟨⟨240, rfl, rfl⟩, ⟨_, rfl, mjB.all _⟩, trivial⟩ rfl (by decide) rfl) K
set_option maxRecDepth 100000 in
theorem mjCase_places (hs : mjSc sc i k) (hI : mjInv m4S (m4J t) w) (hw : mjShp w = mjShp mjW0) (K : ∀ w2, mjInv m4S (m4J t) w2 → mjShp w2 = mjShp mjW0 → mjGo mjTb mjMt sc (70 + 1) 0 (1661, mjLi i, [], w2) P) : mjGo mjTb mjMt sc (70 + 1) 0 (1003, mjLi i, [], w) P :=
  mj_case (J := m4J t) (pc := 1003) (n := 1) (yx := 121) (ym := 285) (dx := 7) (dm := 10) (Mx := mjM_121) (Mm := mjM_285) (by decide +kernel) (by decide) hs rfl rfl (by decide) (by decide) (by decide) (by decide) (by decide) (by decide) hI hw (fun w1 I1 => mj_ctrPo (mjC_x_241 (m4_ok t) (H_x t)) I1 ⟨⟨0, rfl, rfl⟩, ⟨_, rfl, mjB.all _⟩, trivial⟩ rfl (by decide) rfl) (fun w1 I1 => mj_ctrPo (mjC_m_514 (m4_ok t) (H_m t)) I1 ⟨⟨240, rfl, rfl⟩, ⟨_, rfl, mjB.all _⟩, trivial⟩ rfl (by decide) rfl) K
set_option maxRecDepth 100000 in
theorem mjCase_quiet (hs : mjSc sc i k) (hI : mjInv m4S (m4J t) w) (hw : mjShp w = mjShp mjW0) (K : ∀ w2, mjInv m4S (m4J t) w2 → mjShp w2 = mjShp mjW0 → mjGo mjTb mjMt sc (70 + 1) 0 (1661, mjLi i, [], w2) P) : mjGo mjTb mjMt sc (70 + 1) 0 (1026, mjLi i, [], w) P :=
  mj_case (J := m4J t) (pc := 1026) (n := 2) (yx := 132) (ym := 289) (dx := 7) (dm := 9) (Mx := mjM_132) (Mm := mjM_289) (by decide +kernel) (by decide) hs rfl rfl (by decide) (by decide) (by decide) (by decide) (by decide) (by decide) hI hw (fun w1 I1 => mj_ctrPo (mjC_x_245 (m4_ok t) (H_x t)) I1 ⟨⟨0, rfl, rfl⟩, ⟨_, rfl, mjB.all _⟩, ⟨_, rfl, mjB.all _⟩, trivial⟩ rfl (by decide) rfl) (fun w1 I1 => mj_ctrPo (mjC_m_548 (m4_ok t) (H_m t)) I1 ⟨⟨240, rfl, rfl⟩, ⟨_, rfl, mjB.all _⟩, ⟨_, rfl, mjB.all _⟩, trivial⟩ rfl (by decide) rfl) K
set_option maxRecDepth 100000 in
theorem mjCase_dam (hs : mjSc sc i k) (hI : mjInv m4S (m4J t) w) (hw : mjShp w = mjShp mjW0) (K : ∀ w2, mjInv m4S (m4J t) w2 → mjShp w2 = mjShp mjW0 → mjGo mjTb mjMt sc (70 + 1) 0 (1661, mjLi i, [], w2) P) : mjGo mjTb mjMt sc (70 + 1) 0 (1059, mjLi i, [], w) P :=
  mj_case (J := m4J t) (pc := 1059) (n := 2) (yx := 135) (ym := 290) (dx := 8) (dm := 11) (Mx := mjM_135) (Mm := mjM_290) (by decide +kernel) (by decide) hs rfl rfl (by decide) (by decide) (by decide) (by decide) (by decide) (by decide) hI hw (fun w1 I1 => mj_ctrPo (mjC_x_250 (m4_ok t) (H_x t)) I1 ⟨⟨0, rfl, rfl⟩, ⟨_, rfl, mjB.all _⟩, ⟨_, rfl, mjB.all _⟩, trivial⟩ rfl (by decide) rfl) (fun w1 I1 => mj_ctrPo (mjC_m_560 (m4_ok t) (H_m t)) I1 ⟨⟨240, rfl, rfl⟩, ⟨_, rfl, mjB.all _⟩, ⟨_, rfl, mjB.all _⟩, trivial⟩ rfl (by decide) rfl) K
set_option maxRecDepth 100000 in
theorem mjCase_brunt (hs : mjSc sc i k) (hI : mjInv m4S (m4J t) w) (hw : mjShp w = mjShp mjW0) (K : ∀ w2, mjInv m4S (m4J t) w2 → mjShp w2 = mjShp mjW0 → mjGo mjTb mjMt sc (70 + 1) 0 (1661, mjLi i, [], w2) P) : mjGo mjTb mjMt sc (70 + 1) 0 (1092, mjLi i, [], w) P :=
  mj_case (J := m4J t) (pc := 1092) (n := 2) (yx := 140) (ym := 280) (dx := 7) (dm := 9) (Mx := mjM_140) (Mm := mjM_280) (by decide +kernel) (by decide) hs rfl rfl (by decide) (by decide) (by decide) (by decide) (by decide) (by decide) hI hw (fun w1 I1 => mj_ctrPo (mjC_x_251 (m4_ok t) (H_x t)) I1 ⟨⟨0, rfl, rfl⟩, ⟨_, rfl, mjB.all _⟩, ⟨_, rfl, mjB.all _⟩, trivial⟩ rfl (by decide) rfl) (fun w1 I1 => mj_ctrPo (mjC_m_562 (m4_ok t) (H_m t)) I1 ⟨⟨240, rfl, rfl⟩, ⟨_, rfl, mjB.all _⟩, ⟨_, rfl, mjB.all _⟩, trivial⟩ rfl (by decide) rfl) K
set_option maxRecDepth 100000 in
theorem mjCase_gable (hs : mjSc sc i k) (hI : mjInv m4S (m4J t) w) (hw : mjShp w = mjShp mjW0) (K : ∀ w2, mjInv m4S (m4J t) w2 → mjShp w2 = mjShp mjW0 → mjGo mjTb mjMt sc (70 + 1) 0 (1661, mjLi i, [], w2) P) : mjGo mjTb mjMt sc (70 + 1) 0 (1125, mjLi i, [], w) P :=
  mj_case (J := m4J t) (pc := 1125) (n := 1) (yx := 141) (ym := 282) (dx := 7) (dm := 9) (Mx := mjM_141) (Mm := mjM_282) (by decide +kernel) (by decide) hs rfl rfl (by decide) (by decide) (by decide) (by decide) (by decide) (by decide) hI hw (fun w1 I1 => mj_ctrPo (mjC_x_252 (m4_ok t) (H_x t)) I1 ⟨⟨0, rfl, rfl⟩, ⟨_, rfl, mjB.all _⟩, trivial⟩ rfl (by decide) rfl) (fun w1 I1 => mj_ctrPo (mjC_m_563 (m4_ok t) (H_m t)) I1 ⟨⟨240, rfl, rfl⟩, ⟨_, rfl, mjB.all _⟩, trivial⟩ rfl (by decide) rfl) K
set_option maxRecDepth 100000 in
theorem mjCase_dig (hs : mjSc sc i k) (hI : mjInv m4S (m4J t) w) (hw : mjShp w = mjShp mjW0) (K : ∀ w2, mjInv m4S (m4J t) w2 → mjShp w2 = mjShp mjW0 → mjGo mjTb mjMt sc (70 + 1) 0 (1661, mjLi i, [], w2) P) : mjGo mjTb mjMt sc (70 + 1) 0 (1148, mjLi i, [], w) P :=
  mj_case (J := m4J t) (pc := 1148) (n := 2) (yx := 142) (ym := 291) (dx := 7) (dm := 10) (Mx := mjM_142) (Mm := mjM_291) (by decide +kernel) (by decide) hs rfl rfl (by decide) (by decide) (by decide) (by decide) (by decide) (by decide) hI hw (fun w1 I1 => mj_ctrPo (mjC_x_254 (m4_ok t) (H_x t)) I1 ⟨⟨0, rfl, rfl⟩, ⟨_, rfl, mjB.all _⟩, ⟨_, rfl, mjB.all _⟩, trivial⟩ rfl (by decide) rfl) (fun w1 I1 => mj_ctrPo (mjC_m_574 (m4_ok t) (H_m t)) I1 ⟨⟨240, rfl, rfl⟩, ⟨_, rfl, mjB.all _⟩, ⟨_, rfl, mjB.all _⟩, trivial⟩ rfl (by decide) rfl) K
set_option maxRecDepth 100000 in
theorem mjCase_duel (hs : mjSc sc i k) (hI : mjInv m4S (m4J t) w) (hw : mjShp w = mjShp mjW0) (K : ∀ w2, mjInv m4S (m4J t) w2 → mjShp w2 = mjShp mjW0 → mjGo mjTb mjMt sc (70 + 1) 0 (1661, mjLi i, [], w2) P) : mjGo mjTb mjMt sc (70 + 1) 0 (1181, mjLi i, [], w) P :=
  mj_case (J := m4J t) (pc := 1181) (n := 2) (yx := 144) (ym := 293) (dx := 8) (dm := 9) (Mx := mjM_144) (Mm := mjM_293) (by decide +kernel) (by decide) hs rfl rfl (by decide) (by decide) (by decide) (by decide) (by decide) (by decide) hI hw (fun w1 I1 => mj_ctrPo (mjC_x_264 (m4_ok t) (H_x t)) I1 ⟨⟨0, rfl, rfl⟩, ⟨_, rfl, mjB.all _⟩, ⟨_, rfl, mjB.all _⟩, trivial⟩ rfl (by decide) rfl) (fun w1 I1 => mj_ctrPo (mjC_m_578 (m4_ok t) (H_m t)) I1 ⟨⟨240, rfl, rfl⟩, ⟨_, rfl, mjB.all _⟩, ⟨_, rfl, mjB.all _⟩, trivial⟩ rfl (by decide) rfl) K
set_option maxRecDepth 100000 in
theorem mjCase_fear (hs : mjSc sc i k) (hI : mjInv m4S (m4J t) w) (hw : mjShp w = mjShp mjW0) (K : ∀ w2, mjInv m4S (m4J t) w2 → mjShp w2 = mjShp mjW0 → mjGo mjTb mjMt sc (70 + 1) 0 (1661, mjLi i, [], w2) P) : mjGo mjTb mjMt sc (70 + 1) 0 (1214, mjLi i, [], w) P :=
  mj_case (J := m4J t) (pc := 1214) (n := 1) (yx := 148) (ym := 242) (dx := 5) (dm := 4) (Mx := mjM_148) (Mm := mjM_242) (by decide +kernel) (by decide) hs rfl rfl (by decide) (by decide) (by decide) (by decide) (by decide) (by decide) hI hw (fun w1 I1 => mj_ctrPo (mjC_x_265 (m4_ok t) (H_x t)) I1 ⟨⟨0, rfl, rfl⟩, ⟨_, rfl, mjB.all _⟩, trivial⟩ rfl (by decide) rfl) (fun w1 I1 => mj_ctrPo (mjC_m_589 (m4_ok t) (H_m t)) I1 ⟨⟨240, rfl, rfl⟩, ⟨_, rfl, mjB.all _⟩, trivial⟩ rfl (by decide) rfl) K
set_option maxRecDepth 100000 in
theorem mjCase_borne (hs : mjSc sc i k) (hI : mjInv m4S (m4J t) w) (hw : mjShp w = mjShp mjW0) (K : ∀ w2, mjInv m4S (m4J t) w2 → mjShp w2 = mjShp mjW0 → mjGo mjTb mjMt sc (70 + 1) 0 (1661, mjLi i, [], w2) P) : mjGo mjTb mjMt sc (70 + 1) 0 (1237, mjLi i, [], w) P :=
  mj_case (J := m4J t) (pc := 1237) (n := 1) (yx := 149) (ym := 292) (dx := 5) (dm := 8) (Mx := mjM_149) (Mm := mjM_292) (by decide +kernel) (by decide) hs rfl rfl (by decide) (by decide) (by decide) (by decide) (by decide) (by decide) hI hw (fun w1 I1 => mj_ctrPo (mjC_x_266 (m4_ok t) (H_x t)) I1 ⟨⟨0, rfl, rfl⟩, ⟨_, rfl, mjB.all _⟩, trivial⟩ rfl (by decide) rfl) (fun w1 I1 => mj_ctrPo (mjC_m_590 (m4_ok t) (H_m t)) I1 ⟨⟨240, rfl, rfl⟩, ⟨_, rfl, mjB.all _⟩, trivial⟩ rfl (by decide) rfl) K
set_option maxRecDepth 100000 in
theorem mjCase_poor (hs : mjSc sc i k) (hI : mjInv m4S (m4J t) w) (hw : mjShp w = mjShp mjW0) (K : ∀ w2, mjInv m4S (m4J t) w2 → mjShp w2 = mjShp mjW0 → mjGo mjTb mjMt sc (70 + 1) 0 (1661, mjLi i, [], w2) P) : mjGo mjTb mjMt sc (70 + 1) 0 (1260, mjLi i, [], w) P :=
  mj_case (J := m4J t) (pc := 1260) (n := 0) (yx := 150) (ym := 276) (dx := 6) (dm := 9) (Mx := mjM_150) (Mm := mjM_276) (by decide +kernel) (by decide) hs rfl rfl (by decide) (by decide) (by decide) (by decide) (by decide) (by decide) hI hw (fun w1 I1 => mj_ctrPo (mjC_x_269 (m4_ok t) (H_x t)) I1 ⟨⟨0, rfl, rfl⟩, trivial⟩ rfl (by decide) rfl) (fun w1 I1 => mj_ctrPo (mjC_m_591 (m4_ok t) (H_m t)) I1 ⟨⟨240, rfl, rfl⟩, trivial⟩ rfl (by decide) rfl) K
set_option maxRecDepth 100000 in
theorem mjCase_awake (hs : mjSc sc i k) (hI : mjInv m4S (m4J t) w) (hw : mjShp w = mjShp mjW0) (K : ∀ w2, mjInv m4S (m4J t) w2 → mjShp w2 = mjShp mjW0 → mjGo mjTb mjMt sc (70 + 1) 0 (1661, mjLi i, [], w2) P) : mjGo mjTb mjMt sc (70 + 1) 0 (1273, mjLi i, [], w) P :=
  mj_case (J := m4J t) (pc := 1273) (n := 1) (yx := 152) (ym := 238) (dx := 2) (dm := 4) (Mx := mjM_152) (Mm := mjM_238) (by decide +kernel) (by decide) hs rfl rfl (by decide) (by decide) (by decide) (by decide) (by decide) (by decide) hI hw (fun w1 I1 => mj_ctrPo (mjC_x_271 (m4_ok t) (H_x t)) I1 ⟨⟨0, rfl, rfl⟩, ⟨_, rfl, mjB.all _⟩, trivial⟩ rfl (by decide) rfl) (fun w1 I1 => mj_ctrPo (mjC_m_593 (m4_ok t) (H_m t)) I1 ⟨⟨240, rfl, rfl⟩, ⟨_, rfl, mjB.all _⟩, trivial⟩ rfl (by decide) rfl) K
set_option maxRecDepth 100000 in
theorem mjCase_heap (hs : mjSc sc i k) (hI : mjInv m4S (m4J t) w) (hw : mjShp w = mjShp mjW0) (K : ∀ w2, mjInv m4S (m4J t) w2 → mjShp w2 = mjShp mjW0 → mjGo mjTb mjMt sc (70 + 1) 0 (1661, mjLi i, [], w2) P) : mjGo mjTb mjMt sc (70 + 1) 0 (1296, mjLi i, [], w) P :=
  mj_case (J := m4J t) (pc := 1296) (n := 1) (yx := 153) (ym := 239) (dx := 2) (dm := 3) (Mx := mjM_153) (Mm := mjM_239) (by decide +kernel) (by decide) hs rfl rfl (by decide) (by decide) (by decide) (by decide) (by decide) (by decide) hI hw (fun w1 I1 => mj_ctrPo (mjC_x_272 (m4_ok t) (H_x t)) I1 ⟨⟨0, rfl, rfl⟩, ⟨_, rfl, mjB.all _⟩, trivial⟩ rfl (by decide) rfl) (fun w1 I1 => mj_ctrPo (mjC_m_594 (m4_ok t) (H_m t)) I1 ⟨⟨240, rfl, rfl⟩, ⟨_, rfl, mjB.all _⟩, trivial⟩ rfl (by decide) rfl) K
set_option maxRecDepth 100000 in
theorem mjCase_law (hs : mjSc sc i k) (hI : mjInv m4S (m4J t) w) (hw : mjShp w = mjShp mjW0) (K : ∀ w2, mjInv m4S (m4J t) w2 → mjShp w2 = mjShp mjW0 → mjGo mjTb mjMt sc (70 + 1) 0 (1661, mjLi i, [], w2) P) : mjGo mjTb mjMt sc (70 + 1) 0 (1319, mjLi i, [], w) P :=
  mj_case (J := m4J t) (pc := 1319) (n := 1) (yx := 154) (ym := 283) (dx := 6) (dm := 11) (Mx := mjM_154) (Mm := mjM_283) (by decide +kernel) (by decide) hs rfl rfl (by decide) (by decide) (by decide) (by decide) (by decide) (by decide) hI hw (fun w1 I1 => mj_ctrPo (mjC_x_274 (m4_ok t) (H_x t)) I1 ⟨⟨0, rfl, rfl⟩, ⟨_, rfl, mjB.all _⟩, trivial⟩ rfl (by decide) rfl) (fun w1 I1 => mj_ctrPo (mjC_m_596 (m4_ok t) (H_m t)) I1 ⟨⟨240, rfl, rfl⟩, ⟨_, rfl, mjB.all _⟩, trivial⟩ rfl (by decide) rfl) K
set_option maxRecDepth 100000 in
theorem mjCase_odds (hs : mjSc sc i k) (hI : mjInv m4S (m4J t) w) (hw : mjShp w = mjShp mjW0) (K : ∀ w2, mjInv m4S (m4J t) w2 → mjShp w2 = mjShp mjW0 → mjGo mjTb mjMt sc (70 + 1) 0 (1661, mjLi i, [], w2) P) : mjGo mjTb mjMt sc (70 + 1) 0 (1342, mjLi i, [], w) P :=
  mj_case (J := m4J t) (pc := 1342) (n := 2) (yx := 155) (ym := 296) (dx := 2) (dm := 2) (Mx := mjM_155) (Mm := mjM_296) (by decide +kernel) (by decide) hs rfl rfl (by decide) (by decide) (by decide) (by decide) (by decide) (by decide) hI hw (fun w1 I1 => mj_ctrPo (mjC_x_280 (m4_ok t) (H_x t)) I1 ⟨⟨0, rfl, rfl⟩, ⟨_, rfl, mjB.all _⟩, ⟨_, rfl, mjB.all _⟩, trivial⟩ rfl (by decide) rfl) (fun w1 I1 => mj_ctrPo (mjC_m_605 (m4_ok t) (H_m t)) I1 ⟨⟨240, rfl, rfl⟩, ⟨_, rfl, mjB.all _⟩, ⟨_, rfl, mjB.all _⟩, trivial⟩ rfl (by decide) rfl) K
set_option maxRecDepth 100000 in
theorem mjCase_lies (hs : mjSc sc i k) (hI : mjInv m4S (m4J t) w) (hw : mjShp w = mjShp mjW0) (K : ∀ w2, mjInv m4S (m4J t) w2 → mjShp w2 = mjShp mjW0 → mjGo mjTb mjMt sc (70 + 1) 0 (1661, mjLi i, [], w2) P) : mjGo mjTb mjMt sc (70 + 1) 0 (1375, mjLi i, [], w) P :=
  mj_case (J := m4J t) (pc := 1375) (n := 1) (yx := 157) (ym := 284) (dx := 1) (dm := 2) (Mx := mjM_157) (Mm := mjM_284) (by decide +kernel) (by decide) hs rfl rfl (by decide) (by decide) (by decide) (by decide) (by decide) (by decide) hI hw (fun w1 I1 => mj_ctrPo (mjC_x_281 (m4_ok t) (H_x t)) I1 ⟨⟨0, rfl, rfl⟩, ⟨_, rfl, mjB.all _⟩, trivial⟩ rfl (by decide) rfl) (fun w1 I1 => mj_ctrPo (mjC_m_606 (m4_ok t) (H_m t)) I1 ⟨⟨240, rfl, rfl⟩, ⟨_, rfl, mjB.all _⟩, trivial⟩ rfl (by decide) rfl) K
set_option maxRecDepth 100000 in
theorem mjCase_untell (hs : mjSc sc i k) (hI : mjInv m4S (m4J t) w) (hw : mjShp w = mjShp mjW0) (K : ∀ w2, mjInv m4S (m4J t) w2 → mjShp w2 = mjShp mjW0 → mjGo mjTb mjMt sc (70 + 1) 0 (1661, mjLi i, [], w2) P) : mjGo mjTb mjMt sc (70 + 1) 0 (1457, mjLi i, [], w) P :=
  mj_case (J := m4J t) (pc := 1457) (n := 1) (yx := 160) (ym := 299) (dx := 2) (dm := 2) (Mx := mjM_160) (Mm := mjM_299) (by decide +kernel) (by decide) hs rfl rfl (by decide) (by decide) (by decide) (by decide) (by decide) (by decide) hI hw (fun w1 I1 => mj_ctrPo (mjC_x_285 (m4_ok t) (H_x t)) I1 ⟨⟨0, rfl, rfl⟩, ⟨_, rfl, mjB.all _⟩, trivial⟩ rfl (by decide) rfl) (fun w1 I1 => mj_ctrPo (mjC_m_609 (m4_ok t) (H_m t)) I1 ⟨⟨240, rfl, rfl⟩, ⟨_, rfl, mjB.all _⟩, trivial⟩ rfl (by decide) rfl) K
set_option maxRecDepth 100000 in
theorem mjCase_fits (hs : mjSc sc i k) (hI : mjInv m4S (m4J t) w) (hw : mjShp w = mjShp mjW0) (K : ∀ w2, mjInv m4S (m4J t) w2 → mjShp w2 = mjShp mjW0 → mjGo mjTb mjMt sc (70 + 1) 0 (1661, mjLi i, [], w2) P) : mjGo mjTb mjMt sc (70 + 1) 0 (1503, mjLi i, [], w) P :=
  mj_case (J := m4J t) (pc := 1503) (n := 1) (yx := 163) (ym := 301) (dx := 7) (dm := 9) (Mx := mjM_163) (Mm := mjM_301) (by decide +kernel) (by decide) hs rfl rfl (by decide) (by decide) (by decide) (by decide) (by decide) (by decide) hI hw (fun w1 I1 => mj_ctrPo (mjC_x_290 (m4_ok t) (H_x t)) I1 ⟨⟨0, rfl, rfl⟩, ⟨_, rfl, mjB.all _⟩, trivial⟩ rfl (by decide) rfl) (fun w1 I1 => mj_ctrPo (mjC_m_614 (m4_ok t) (H_m t)) I1 ⟨⟨240, rfl, rfl⟩, ⟨_, rfl, mjB.all _⟩, trivial⟩ rfl (by decide) rfl) K
set_option maxRecDepth 100000 in
theorem mjCase_sure (hs : mjSc sc i k) (hI : mjInv m4S (m4J t) w) (hw : mjShp w = mjShp mjW0) (K : ∀ w2, mjInv m4S (m4J t) w2 → mjShp w2 = mjShp mjW0 → mjGo mjTb mjMt sc (70 + 1) 0 (1661, mjLi i, [], w2) P) : mjGo mjTb mjMt sc (70 + 1) 0 (1526, mjLi i, [], w) P :=
  mj_case (J := m4J t) (pc := 1526) (n := 2) (yx := 167) (ym := 305) (dx := 7) (dm := 10) (Mx := mjM_167) (Mm := mjM_305) (by decide +kernel) (by decide) hs rfl rfl (by decide) (by decide) (by decide) (by decide) (by decide) (by decide) hI hw (fun w1 I1 => mj_ctrPo (mjC_x_293 (m4_ok t) (H_x t)) I1 ⟨⟨0, rfl, rfl⟩, ⟨_, rfl, mjB.all _⟩, ⟨_, rfl, mjB.all _⟩, trivial⟩ rfl (by decide) rfl) (fun w1 I1 => H_sure (a := sc.getD (k + 1) 0) (k := sc.getD (k + 2) 0) I1) K
set_option maxRecDepth 100000 in
theorem mjCase_ask (hs : mjSc sc i k) (hI : mjInv m4S (m4J t) w) (hw : mjShp w = mjShp mjW0) (K : ∀ w2, mjInv m4S (m4J t) w2 → mjShp w2 = mjShp mjW0 → mjGo mjTb mjMt sc (70 + 1) 0 (1661, mjLi i, [], w2) P) : mjGo mjTb mjMt sc (70 + 1) 0 (1559, mjLi i, [], w) P :=
  mj_case (J := m4J t) (pc := 1559) (n := 2) (yx := 169) (ym := 306) (dx := 7) (dm := 10) (Mx := mjM_169) (Mm := mjM_306) (by decide +kernel) (by decide) hs rfl rfl (by decide) (by decide) (by decide) (by decide) (by decide) (by decide) hI hw (fun w1 I1 => mj_ctrPo (mjC_x_296 (m4_ok t) (H_x t)) I1 ⟨⟨0, rfl, rfl⟩, ⟨_, rfl, mjB.all _⟩, ⟨_, rfl, mjB.all _⟩, trivial⟩ rfl (by decide) rfl) (fun w1 I1 => mj_ctrPo (mjC_m_616 (m4_ok t) (H_m t)) I1 ⟨⟨240, rfl, rfl⟩, ⟨_, rfl, mjB.all _⟩, ⟨_, rfl, mjB.all _⟩, trivial⟩ rfl (by decide) rfl) K
set_option maxRecDepth 100000 in
theorem mjCase_image (hs : mjSc sc i k) (hI : mjInv m4S (m4J t) w) (hw : mjShp w = mjShp mjW0) (K : ∀ w2, mjInv m4S (m4J t) w2 → mjShp w2 = mjShp mjW0 → mjGo mjTb mjMt sc (70 + 1) 0 (1661, mjLi i, [], w2) P) : mjGo mjTb mjMt sc (70 + 1) 0 (1592, mjLi i, [], w) P :=
  mj_case (J := m4J t) (pc := 1592) (n := 1) (yx := 172) (ym := 308) (dx := 2) (dm := 2) (Mx := mjM_172) (Mm := mjM_308) (by decide +kernel) (by decide) hs rfl rfl (by decide) (by decide) (by decide) (by decide) (by decide) (by decide) hI hw (fun w1 I1 => mj_ctrPo (mjC_x_297 (m4_ok t) (H_x t)) I1 ⟨⟨0, rfl, rfl⟩, ⟨_, rfl, mjB.all _⟩, trivial⟩ rfl (by decide) rfl) (fun w1 I1 => mj_ctrPo (mjC_m_627 (m4_ok t) (H_m t)) I1 ⟨⟨240, rfl, rfl⟩, ⟨_, rfl, mjB.all _⟩, trivial⟩ rfl (by decide) rfl) K
set_option maxRecDepth 100000 in
theorem mjCase_back (hs : mjSc sc i k) (hI : mjInv m4S (m4J t) w) (hw : mjShp w = mjShp mjW0) (K : ∀ w2, mjInv m4S (m4J t) w2 → mjShp w2 = mjShp mjW0 → mjGo mjTb mjMt sc (70 + 1) 0 (1661, mjLi i, [], w2) P) : mjGo mjTb mjMt sc (70 + 1) 0 (1615, mjLi i, [], w) P :=
  mj_case (J := m4J t) (pc := 1615) (n := 1) (yx := 173) (ym := 309) (dx := 3) (dm := 2) (Mx := mjM_173) (Mm := mjM_309) (by decide +kernel) (by decide) hs rfl rfl (by decide) (by decide) (by decide) (by decide) (by decide) (by decide) hI hw (fun w1 I1 => mj_ctrPo (mjC_x_298 (m4_ok t) (H_x t)) I1 ⟨⟨0, rfl, rfl⟩, ⟨_, rfl, mjB.all _⟩, trivial⟩ rfl (by decide) rfl) (fun w1 I1 => mj_ctrPo (mjC_m_633 (m4_ok t) (H_m t)) I1 ⟨⟨240, rfl, rfl⟩, ⟨_, rfl, mjB.all _⟩, trivial⟩ rfl (by decide) rfl) K
set_option maxRecDepth 100000 in
theorem mjCase_about (hs : mjSc sc i k) (hI : mjInv m4S (m4J t) w) (hw : mjShp w = mjShp mjW0) (K : ∀ w2, mjInv m4S (m4J t) w2 → mjShp w2 = mjShp mjW0 → mjGo mjTb mjMt sc (70 + 1) 0 (1661, mjLi i, [], w2) P) : mjGo mjTb mjMt sc (70 + 1) 0 (1638, mjLi i, [], w) P :=
  mj_case (J := m4J t) (pc := 1638) (n := 1) (yx := 174) (ym := 310) (dx := 2) (dm := 2) (Mx := mjM_174) (Mm := mjM_310) (by decide +kernel) (by decide) hs rfl rfl (by decide) (by decide) (by decide) (by decide) (by decide) (by decide) hI hw (fun w1 I1 => mj_ctrPo (mjC_x_299 (m4_ok t) (H_x t)) I1 ⟨⟨0, rfl, rfl⟩, ⟨_, rfl, mjB.all _⟩, trivial⟩ rfl (by decide) rfl) (fun w1 I1 => mj_ctrPo (mjC_m_634 (m4_ok t) (H_m t)) I1 ⟨⟨240, rfl, rfl⟩, ⟨_, rfl, mjB.all _⟩, trivial⟩ rfl (by decide) rfl) K
def mjSeenAt : Bool := mjIs 1398 (.aload_n 1, 1, 1, []) && (mjIs 1414 (.ifCond .eq 7, 3, 3, [1421]) && (mjIs 1417 (.iconst 1, 1, 0, []) && (mjIs 1418 (.goto 4, 3, 3, [1422]) && (mjIs 1421 (.iconst 0, 1, 0, []) && (mjIs 1426 (.aload_n 2, 1, 1, []) && (mjIs 1442 (.ifCond .eq 7, 3, 3, [1449]) && (mjIs 1445 (.iconst 1, 1, 0, []) && (mjIs 1446 (.goto 4, 3, 3, [1450]) && (mjIs 1449 (.iconst 0, 1, 0, []))))))))))
set_option maxRecDepth 100000 in
theorem mjSeen_ok : mjSeenAt = true := by decide +kernel
set_option maxRecDepth 100000 in
theorem mjCase_seen (hs : mjSc sc i k) (hI : mjInv m4S (m4J t) w) (hw : mjShp w = mjShp mjW0) (K : ∀ w2, mjInv m4S (m4J t) w2 → mjShp w2 = mjShp mjW0 → mjGo mjTb mjMt sc (70 + 1) 0 (1661, mjLi i, [], w2) P) : mjGo mjTb mjMt sc (70 + 1) 0 (1398, mjLi i, [], w) P := by
  have h := mjSeen_ok
  unfold mjSeenAt at h
  simp only [Bool.and_eq_true] at h
  obtain ⟨q0, q1, q2, q3, q4, q5, q6, q7, q8, q9⟩ := h
  refine g_L (v := .ref 0) (n := 1) mjMt0 (mjIs_ok q0) rfl ?_
  refine g_args (pc := 1399) (n := 3) (by decide +kernel) (by decide) hs ?_
  refine g_bit (mjIs_ok q1) (mjIs_ok q2) (mjIs_ok q3) (mjIs_ok q4) ?_
  refine mj_calls (J := m4J t) (as := [.int (sc.getD (k + 1) 0), .int (sc.getD (k + 2) 0), .int (mjBit (sc.getD (k + 3) 0))]) (pcx := 1422) (pcm := 1450) (n := 3) (yx := 158) (ym := 298) (dx := 2) (dm := 3) (Mx := mjM_158) (Mm := mjM_298) (by decide +kernel) (by decide +kernel) (by decide +kernel) (by decide +kernel) (by decide +kernel) rfl rfl rfl (by decide) (by decide) (show 4 ≤ _ by decide) (show 4 ≤ _ by decide) (by decide) (by decide) hI hw (fun w1 I1 => mj_ctrPo (mjC_x_283 (m4_ok t) (H_x t)) I1 ⟨⟨0, rfl, rfl⟩, ⟨_, rfl, mjB.all _⟩, ⟨_, rfl, mjB.all _⟩, ⟨_, rfl, mjBit_B _⟩, trivial⟩ rfl (by decide) rfl) (fun w1 I1 => mj_ctrPo (mjC_m_607 (m4_ok t) (H_m t)) I1 ⟨⟨240, rfl, rfl⟩, ⟨_, rfl, mjB.all _⟩, ⟨_, rfl, mjB.all _⟩, ⟨_, rfl, mjBit_B _⟩, trivial⟩ rfl (by decide) rfl) ?_ K
  intro w1 hg
  refine g_L (v := .ref 240) (n := 1) mjMt0 (mjIs_ok q5) rfl ?_
  refine g_args (pc := 1427) (n := 3) (by decide +kernel) (by decide) hs ?_
  exact g_bit (mjIs_ok q6) (mjIs_ok q7) (mjIs_ok q8) (mjIs_ok q9) hg
theorem mjLa_x : mjTb 0 1480 = some (.aload_n 1, 1, 1, []) := by decide +kernel
theorem mjLa_m : mjTb 0 1489 = some (.aload_n 2, 1, 1, []) := by decide +kernel
set_option maxRecDepth 100000 in
theorem mjCase_later (hs : mjSc sc i k) (hI : mjInv m4S (m4J t) w) (hw : mjShp w = mjShp mjW0) (K : ∀ (t1 : Int) (w2 : MjW), mjInv m4S (m4J t1) w2 → mjShp w2 = mjShp mjW0 → mjGo mjTb mjMt sc (70 + 1) 0 (1661, mjLi i, [], w2) P) : mjGo mjTb mjMt sc (70 + 1) 0 (1480, mjLi i, [], w) P := by
  obtain ⟨Tw, hJ⟩ := hI
  obtain ⟨ht1, ht2⟩ := hJ.2.1
  refine g_L (v := .ref 0) (n := 1) mjMt0 mjLa_x rfl ?_
  refine g_args (pc := 1481) (n := 1) (by decide +kernel) (by decide) hs ?_
  obtain ⟨ix, tx, qx⟩ := mjCallAt_ok (pc := 1486) (y := 162) (n := 1) (ci := 9) (by decide +kernel)
  obtain ⟨im, tm, qm⟩ := mjCallAt_ok (pc := 1495) (y := 300) (n := 1) (ci := 10) (by decide +kernel)
  obtain ⟨off, qc⟩ := mjCmpAt_ok (pc := 1498) (by decide +kernel)
  obtain ⟨vs0, c0⟩ := mjShp_at hw (eq_of_beq mjShp0_0)
  refine g_call (d := 70) (as := .ref 0 :: mjAs sc k 1) (rest := []) (M1 := mjM_162) (d1 := 1) (ls0 := [some (.ref 0), some (.int (sc.getD (k + 1) 0))]) mjMt0 qx (mjC_virt (r := []) mjAs_len c0 (by decide) (by decide)) rfl (show 2 ≤ 2 by decide) (by decide) rfl (by decide) (H_laterx (b := sc.getD (k + 1) 0) Tw ht1) ?_
  rintro r w1 ⟨T1, k1, u, rfl, p1⟩
  show mjGo mjTb mjMt sc (70 + 1) 0 (1489, mjLi i, [.int u], w1) P
  refine g_L (v := .ref 240) (n := 1) mjMt0 mjLa_m rfl ?_
  refine g_args (pc := 1490) (n := 1) (by decide +kernel) (by decide) hs ?_
  obtain ⟨vs1, c1⟩ := mjShp_at (k1.1.trans hw) (eq_of_beq mjShp0_240)
  have ht3 : (m4X w1 240 74).toInt = t := by rw [k1.X (a := 240) (k := 74) m4r_240 rfl]; exact ht2
  refine g_call (d := 70) (as := .ref 240 :: mjAs sc k 1) (rest := [.int u]) (M1 := mjM_300) (d1 := 1) (ls0 := [some (.ref 240), some (.int (sc.getD (k + 1) 0))]) mjMt0 qm (mjC_virt (r := [.int u]) mjAs_len c1 (by decide) (show (1 : Nat) ≤ 8 by decide)) rfl (show 2 ≤ 2 by decide) (by decide) rfl (by decide) (H_laterm (b := sc.getD (k + 1) 0) T1 ht3) ?_
  rintro r w2 ⟨T2, k2, u2, rfl, p2⟩
  show mjGo mjTb mjMt sc (70 + 1) 0 (1498, mjLi i, [.int u2, .int u], w2) P
  have e185 := congrArg Int32.toInt (k2.X (a := 185) (k := 8) m4r_185 rfl)
  have eu : u.toInt = u2.toInt := by omega
  have kk : mjKp m4S [(186, 8), (241, 74)] w w2 := (aiModsIn_ok (by decide) k1).trans (aiModsIn_ok (by decide) k2)
  refine g_icmp mjMt0 qc mjCi_eq (fun _ => ?_) (fun hne => absurd eu hne)
  exact K _ w2 ⟨T2, m4J_time hJ kk (by omega) rfl⟩ (k2.1.trans (k1.1.trans hw))
theorem mjSw_q : mjTb 0 33 = some (.tableswitch 1628 0 50 #[219, 282, 305, 318, 341, 384, 417, 450, 473, 486, 519, 552, 575, 598, 621, 664, 697, 710, 723, 756, 799, 822, 845, 868, 881, 904, 947, 970, 993, 1026, 1059, 1092, 1115, 1148, 1181, 1204, 1227, 1240, 1263, 1286, 1309, 1342, 1365, 1424, 1447, 1470, 1493, 1526, 1559, 1582, 1605], 219, 3, [1661, 252, 315, 338, 351, 374, 417, 450, 483, 506, 519, 552, 585, 608, 631, 654, 697, 730, 743, 756, 789, 832, 855, 878, 901, 914, 937, 980, 1003, 1026, 1059, 1092, 1125, 1148, 1181, 1214, 1237, 1260, 1273, 1296, 1319, 1342, 1375, 1398, 1457, 1480, 1503, 1526, 1559, 1592, 1615, 1638]) := by decide +kernel
set_option maxRecDepth 100000 in
theorem mj_switch (hs : mjSc sc i k) (hI : mjInv m4S (m4J t) w) (hw : mjShp w = mjShp mjW0) (K : ∀ (t1 : Int) (w2 : MjW), mjInv m4S (m4J t1) w2 → mjShp w2 = mjShp mjW0 → mjGo mjTb mjMt sc (70 + 1) 0 (1661, mjLi i, [], w2) P) : mjGo mjTb mjMt sc (70 + 1) 0 (33, mjLi i, [.int (sc.getD k 0 &&& 63)], w) P := by
  obtain ⟨c, hc, e⟩ := mj_63 (sc.getD k 0)
  rw [e]
  have hc2 : c = 0 ∨ c = 1 ∨ c = 2 ∨ c = 3 ∨ c = 4 ∨ c = 5 ∨ c = 6 ∨ c = 7 ∨ c = 8 ∨ c = 9 ∨ c = 10 ∨ c = 11 ∨ c = 12 ∨ c = 13 ∨ c = 14 ∨ c = 15 ∨ c = 16 ∨ c = 17 ∨ c = 18 ∨ c = 19 ∨ c = 20 ∨ c = 21 ∨ c = 22 ∨ c = 23 ∨ c = 24 ∨ c = 25 ∨ c = 26 ∨ c = 27 ∨ c = 28 ∨ c = 29 ∨ c = 30 ∨ c = 31 ∨ c = 32 ∨ c = 33 ∨ c = 34 ∨ c = 35 ∨ c = 36 ∨ c = 37 ∨ c = 38 ∨ c = 39 ∨ c = 40 ∨ c = 41 ∨ c = 42 ∨ c = 43 ∨ c = 44 ∨ c = 45 ∨ c = 46 ∨ c = 47 ∨ c = 48 ∨ c = 49 ∨ c = 50 ∨ c = 51 ∨ c = 52 ∨ c = 53 ∨ c = 54 ∨ c = 55 ∨ c = 56 ∨ c = 57 ∨ c = 58 ∨ c = 59 ∨ c = 60 ∨ c = 61 ∨ c = 62 ∨ c = 63 := by omega
  rcases hc2 with rfl | rfl | rfl | rfl | rfl | rfl | rfl | rfl | rfl | rfl | rfl | rfl | rfl | rfl | rfl | rfl | rfl | rfl | rfl | rfl | rfl | rfl | rfl | rfl | rfl | rfl | rfl | rfl | rfl | rfl | rfl | rfl | rfl | rfl | rfl | rfl | rfl | rfl | rfl | rfl | rfl | rfl | rfl | rfl | rfl | rfl | rfl | rfl | rfl | rfl | rfl | rfl | rfl | rfl | rfl | rfl | rfl | rfl | rfl | rfl | rfl | rfl | rfl | rfl
  · exact g_B (pc1 := 252) (st1 := []) mjMt0 mjSw_q (by decide +kernel) (mjCase_feed hs hI hw (K t))
  · exact g_B (pc1 := 315) (st1 := []) mjMt0 mjSw_q (by decide +kernel) (mjCase_end hs hI hw (K t))
  · exact g_B (pc1 := 338) (st1 := []) mjMt0 mjSw_q (by decide +kernel) (mjCase_pass hs hI hw (K t))
  · exact g_B (pc1 := 351) (st1 := []) mjMt0 mjSw_q (by decide +kernel) (mjCase_fault hs hI hw (K t))
  · exact g_B (pc1 := 374) (st1 := []) mjMt0 mjSw_q (by decide +kernel) (mjCase_cell hs hI hw (K t))
  · exact g_B (pc1 := 417) (st1 := []) mjMt0 mjSw_q (by decide +kernel) (mjCase_room hs hI hw (K t))
  · exact g_B (pc1 := 450) (st1 := []) mjMt0 mjSw_q (by decide +kernel) (mjCase_guest hs hI hw (K t))
  · exact g_B (pc1 := 483) (st1 := []) mjMt0 mjSw_q (by decide +kernel) (mjCase_noise hs hI hw (K t))
  · exact g_B (pc1 := 506) (st1 := []) mjMt0 mjSw_q (by decide +kernel) (mjCase_hour hs hI hw (K t))
  · exact g_B (pc1 := 519) (st1 := []) mjMt0 mjSw_q (by decide +kernel) (mjCase_shout hs hI hw (K t))
  · exact g_B (pc1 := 552) (st1 := []) mjMt0 mjSw_q (by decide +kernel) (mjCase_move hs hI hw (K t))
  · exact g_B (pc1 := 585) (st1 := []) mjMt0 mjSw_q (by decide +kernel) (mjCase_build hs hI hw (K t))
  · exact g_B (pc1 := 608) (st1 := []) mjMt0 mjSw_q (by decide +kernel) (mjCase_hush hs hI hw (K t))
  · exact g_B (pc1 := 631) (st1 := []) mjMt0 mjSw_q (by decide +kernel) (mjCase_let hs hI hw (K t))
  · exact g_B (pc1 := 654) (st1 := []) mjMt0 mjSw_q (by decide +kernel) (mjCase_wall hs hI hw (K t))
  · exact g_B (pc1 := 697) (st1 := []) mjMt0 mjSw_q (by decide +kernel) (mjCase_shovel hs hI hw (K t))
  · exact g_B (pc1 := 730) (st1 := []) mjMt0 mjSw_q (by decide +kernel) (mjCase_undo hs hI hw (K t))
  · exact g_B (pc1 := 743) (st1 := []) mjMt0 mjSw_q (by decide +kernel) (mjCase_redo hs hI hw (K t))
  · exact g_B (pc1 := 756) (st1 := []) mjMt0 mjSw_q (by decide +kernel) (mjCase_will hs hI hw (K t))
  · exact g_B (pc1 := 789) (st1 := []) mjMt0 mjSw_q (by decide +kernel) (mjCase_depth hs hI hw (K t))
  · exact g_B (pc1 := 832) (st1 := []) mjMt0 mjSw_q (by decide +kernel) (mjCase_left hs hI hw (K t))
  · exact g_B (pc1 := 855) (st1 := []) mjMt0 mjSw_q (by decide +kernel) (mjCase_purse hs hI hw (K t))
  · exact g_B (pc1 := 878) (st1 := []) mjMt0 mjSw_q (by decide +kernel) (mjCase_when hs hI hw (K t))
  · exact g_B (pc1 := 901) (st1 := []) mjMt0 mjSw_q (by decide +kernel) (mjCase_next hs hI hw (K t))
  · exact g_B (pc1 := 914) (st1 := []) mjMt0 mjSw_q (by decide +kernel) (mjCase_first hs hI hw (K t))
  · exact g_B (pc1 := 937) (st1 := []) mjMt0 mjSw_q (by decide +kernel) (mjCase_track hs hI hw (K t))
  · exact g_B (pc1 := 980) (st1 := []) mjMt0 mjSw_q (by decide +kernel) (mjCase_least hs hI hw (K t))
  · exact g_B (pc1 := 1003) (st1 := []) mjMt0 mjSw_q (by decide +kernel) (mjCase_places hs hI hw (K t))
  · exact g_B (pc1 := 1026) (st1 := []) mjMt0 mjSw_q (by decide +kernel) (mjCase_quiet hs hI hw (K t))
  · exact g_B (pc1 := 1059) (st1 := []) mjMt0 mjSw_q (by decide +kernel) (mjCase_dam hs hI hw (K t))
  · exact g_B (pc1 := 1092) (st1 := []) mjMt0 mjSw_q (by decide +kernel) (mjCase_brunt hs hI hw (K t))
  · exact g_B (pc1 := 1125) (st1 := []) mjMt0 mjSw_q (by decide +kernel) (mjCase_gable hs hI hw (K t))
  · exact g_B (pc1 := 1148) (st1 := []) mjMt0 mjSw_q (by decide +kernel) (mjCase_dig hs hI hw (K t))
  · exact g_B (pc1 := 1181) (st1 := []) mjMt0 mjSw_q (by decide +kernel) (mjCase_duel hs hI hw (K t))
  · exact g_B (pc1 := 1214) (st1 := []) mjMt0 mjSw_q (by decide +kernel) (mjCase_fear hs hI hw (K t))
  · exact g_B (pc1 := 1237) (st1 := []) mjMt0 mjSw_q (by decide +kernel) (mjCase_borne hs hI hw (K t))
  · exact g_B (pc1 := 1260) (st1 := []) mjMt0 mjSw_q (by decide +kernel) (mjCase_poor hs hI hw (K t))
  · exact g_B (pc1 := 1273) (st1 := []) mjMt0 mjSw_q (by decide +kernel) (mjCase_awake hs hI hw (K t))
  · exact g_B (pc1 := 1296) (st1 := []) mjMt0 mjSw_q (by decide +kernel) (mjCase_heap hs hI hw (K t))
  · exact g_B (pc1 := 1319) (st1 := []) mjMt0 mjSw_q (by decide +kernel) (mjCase_law hs hI hw (K t))
  · exact g_B (pc1 := 1342) (st1 := []) mjMt0 mjSw_q (by decide +kernel) (mjCase_odds hs hI hw (K t))
  · exact g_B (pc1 := 1375) (st1 := []) mjMt0 mjSw_q (by decide +kernel) (mjCase_lies hs hI hw (K t))
  · exact g_B (pc1 := 1398) (st1 := []) mjMt0 mjSw_q (by decide +kernel) (mjCase_seen hs hI hw (K t))
  · exact g_B (pc1 := 1457) (st1 := []) mjMt0 mjSw_q (by decide +kernel) (mjCase_untell hs hI hw (K t))
  · exact g_B (pc1 := 1480) (st1 := []) mjMt0 mjSw_q (by decide +kernel) (mjCase_later hs hI hw K)
  · exact g_B (pc1 := 1503) (st1 := []) mjMt0 mjSw_q (by decide +kernel) (mjCase_fits hs hI hw (K t))
  · exact g_B (pc1 := 1526) (st1 := []) mjMt0 mjSw_q (by decide +kernel) (mjCase_sure hs hI hw (K t))
  · exact g_B (pc1 := 1559) (st1 := []) mjMt0 mjSw_q (by decide +kernel) (mjCase_ask hs hI hw (K t))
  · exact g_B (pc1 := 1592) (st1 := []) mjMt0 mjSw_q (by decide +kernel) (mjCase_image hs hI hw (K t))
  · exact g_B (pc1 := 1615) (st1 := []) mjMt0 mjSw_q (by decide +kernel) (mjCase_back hs hI hw (K t))
  · exact g_B (pc1 := 1638) (st1 := []) mjMt0 mjSw_q (by decide +kernel) (mjCase_about hs hI hw (K t))
  · exact g_B (pc1 := 1661) (st1 := []) mjMt0 mjSw_q (by decide +kernel) (K t w hI hw)
  · exact g_B (pc1 := 1661) (st1 := []) mjMt0 mjSw_q (by decide +kernel) (K t w hI hw)
  · exact g_B (pc1 := 1661) (st1 := []) mjMt0 mjSw_q (by decide +kernel) (K t w hI hw)
  · exact g_B (pc1 := 1661) (st1 := []) mjMt0 mjSw_q (by decide +kernel) (K t w hI hw)
  · exact g_B (pc1 := 1661) (st1 := []) mjMt0 mjSw_q (by decide +kernel) (K t w hI hw)
  · exact g_B (pc1 := 1661) (st1 := []) mjMt0 mjSw_q (by decide +kernel) (K t w hI hw)
  · exact g_B (pc1 := 1661) (st1 := []) mjMt0 mjSw_q (by decide +kernel) (K t w hI hw)
  · exact g_B (pc1 := 1661) (st1 := []) mjMt0 mjSw_q (by decide +kernel) (K t w hI hw)
  · exact g_B (pc1 := 1661) (st1 := []) mjMt0 mjSw_q (by decide +kernel) (K t w hI hw)
  · exact g_B (pc1 := 1661) (st1 := []) mjMt0 mjSw_q (by decide +kernel) (K t w hI hw)
  · exact g_B (pc1 := 1661) (st1 := []) mjMt0 mjSw_q (by decide +kernel) (K t w hI hw)
  · exact g_B (pc1 := 1661) (st1 := []) mjMt0 mjSw_q (by decide +kernel) (K t w hI hw)
  · exact g_B (pc1 := 1661) (st1 := []) mjMt0 mjSw_q (by decide +kernel) (K t w hI hw)
end MjLaw
