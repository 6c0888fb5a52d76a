/-! ===== contracts given by hand: their list ===== -/
def mjSm_m_3 : MjSm := ([(3, 240, 240, 0, 0)], [], [((0, 1, 6, 0, 0), [], [])], [], 1)
def mjSm_m_6 : MjSm := ([(3, 240, 240, 0, 0)], [], [((0, 1, 5, 0, 0), [], [])], [], 1)
def mjSm_m_17 : MjSm := ([(3, 240, 240, 0, 0)], [], [((0, -2147483648, 2147483647, 0, 0), [], [])], [(274, 255)], 3)
def mjSm_m_31 : MjSm := ([(3, 240, 240, 0, 0)], [], [((7, 0, 0, 0, 0), [], [])], [(241, 60), (241, 61), (278, 255)], 1)
def mjSm_m_171 : MjSm := ([(3, 240, 240, 0, 0)], [], [((0, 0, 1, 0, 0), [], [])], [(241, 60), (241, 61), (275, 255), (278, 255)], 2)
def mjSm_m_172 : MjSm := ([(3, 240, 240, 0, 0)], [], [((0, 0, 1, 0, 0), [], [])], [(241, 60), (241, 61), (275, 255), (278, 255)], 2)
def mjSm_m_346 : MjSm := ([(0, 1, 2147483647, 0, 0), (0, 0, 2147483647, 0, 0)], [], [((0, 1, 2147483647, 0, 0), [], [])], [], 1)
def mjSm_m_361 : MjSm := ([(3, 240, 240, 0, 0), (0, -2147483648, 2147483647, 0, 0), (0, -2147483648, 2147483647, 0, 0)], [], [((0, -2147483648, 2147483647, 0, 0), [], [])], [], 30)
def mjHl_m : List (Nat × MjSm) := [(220, mjSm_m_3), (222, mjSm_m_6), (230, mjSm_m_17), (246, mjSm_m_31), (262, mjSm_m_171), (264, mjSm_m_172), (297, mjSm_m_346), (305, mjSm_m_361)]
/-- the slope has a lane and a row -/
def mjHb (J : MjW → Prop) : Prop := ∀ (w : MjW) (b : Nat) (x : Int32), mjTyd m4S w → J w → mjFld w 240 42 = some (.int x) → x.toInt = (b : Int) → (∃ z : Int32, mjFld w 243 b = some (.int z) ∧ mjB z 1 6) ∧ (∃ z : Int32, mjFld w 244 b = some (.int z) ∧ mjB z 1 5)
theorem mj_hvL {J : MjW → Prop} (h : mjHb J) {w : MjW} (hI : mjInv m4S J w) {b : Nat} (hF : ∃ v, mjFld w 240 42 = some v ∧ mjDn m4S v (0, (b : Int), (b : Int), 0, 0)) : ∃ x : Int32, mjFld w 243 b = some (.int x) ∧ mjB x 1 6 := by
  obtain ⟨v, h1, x, rfl, h2, h3⟩ := hF
  exact (h w b x hI.1 hI.2 h1 (Int.le_antisymm h3 h2)).1
theorem mj_hvR {J : MjW → Prop} (h : mjHb J) {w : MjW} (hI : mjInv m4S J w) {b : Nat} (hF : ∃ v, mjFld w 240 42 = some v ∧ mjDn m4S v (0, (b : Int), (b : Int), 0, 0)) : ∃ x : Int32, mjFld w 244 b = some (.int x) ∧ mjB x 1 5 := by
  obtain ⟨v, h1, x, rfl, h2, h3⟩ := hF
  exact (h w b x hI.1 hI.2 h1 (Int.le_antisymm h3 h2)).2
theorem mj_hvI {J : MjW → Prop} {w : MjW} (hI : mjInv m4S J w) {a k : Nat} {lo hi : Int} (h0 : 0 < m4S.1 a) (hk : k < m4S.2.2.1 (m4S.1 a)) (ht : m4S.2.2.2 (m4S.1 a) k = (0, lo, hi)) : ∃ x : Int32, mjFld w a k = some (.int x) ∧ mjB x lo hi := by
  obtain ⟨vs, g1, g2, g3⟩ := hI.at rfl h0
  have hv : vs[k]? = some vs[k] := List.getElem?_eq_getElem (by rw [g2]; exact hk)
  have h9 := g3 k _ hv
  rw [ht] at h9
  obtain ⟨x, e1, e2⟩ := h9
  exact ⟨x, by unfold mjFld; rw [g1]; exact hv.trans (by rw [e1]), e2⟩
theorem mj_hvB {J : MjW → Prop} {w : MjW} (hI : mjInv m4S J w) : ∃ x : Int32, mjFld w 240 42 = some (.int x) ∧ mjB x 0 1 := mj_hvI hI (by decide +kernel) (by decide +kernel) (by decide +kernel)
def mjHm (J : MjW → Prop) : Prop := (∀ e ∈ mjHl_m, mjCtr m4S J e.1 e.2) ∧ mjHb J
theorem mjC_m_3 {J : MjW → Prop} (hJ : mjUok m4S m4U J) (H : mjHm J) : mjCtr m4S J 220 mjSm_m_3 := H.1 _ List.mem_cons_self
theorem mjC_m_6 {J : MjW → Prop} (hJ : mjUok m4S m4U J) (H : mjHm J) : mjCtr m4S J 222 mjSm_m_6 := H.1 _ (List.mem_cons_of_mem _ List.mem_cons_self)
theorem mjC_m_17 {J : MjW → Prop} (hJ : mjUok m4S m4U J) (H : mjHm J) : mjCtr m4S J 230 mjSm_m_17 := H.1 _ (List.mem_cons_of_mem _ (List.mem_cons_of_mem _ List.mem_cons_self))
theorem mjC_m_31 {J : MjW → Prop} (hJ : mjUok m4S m4U J) (H : mjHm J) : mjCtr m4S J 246 mjSm_m_31 := H.1 _ (List.mem_cons_of_mem _ (List.mem_cons_of_mem _ (List.mem_cons_of_mem _ List.mem_cons_self)))
theorem mjC_m_171 {J : MjW → Prop} (hJ : mjUok m4S m4U J) (H : mjHm J) : mjCtr m4S J 262 mjSm_m_171 := H.1 _ (List.mem_cons_of_mem _ (List.mem_cons_of_mem _ (List.mem_cons_of_mem _ (List.mem_cons_of_mem _ List.mem_cons_self))))
theorem mjC_m_172 {J : MjW → Prop} (hJ : mjUok m4S m4U J) (H : mjHm J) : mjCtr m4S J 264 mjSm_m_172 := H.1 _ (List.mem_cons_of_mem _ (List.mem_cons_of_mem _ (List.mem_cons_of_mem _ (List.mem_cons_of_mem _ (List.mem_cons_of_mem _ List.mem_cons_self)))))
theorem mjC_m_346 {J : MjW → Prop} (hJ : mjUok m4S m4U J) (H : mjHm J) : mjCtr m4S J 297 mjSm_m_346 := H.1 _ (List.mem_cons_of_mem _ (List.mem_cons_of_mem _ (List.mem_cons_of_mem _ (List.mem_cons_of_mem _ (List.mem_cons_of_mem _ (List.mem_cons_of_mem _ List.mem_cons_self))))))
theorem mjC_m_361 {J : MjW → Prop} (hJ : mjUok m4S m4U J) (H : mjHm J) : mjCtr m4S J 305 mjSm_m_361 := H.1 _ (List.mem_cons_of_mem _ (List.mem_cons_of_mem _ (List.mem_cons_of_mem _ (List.mem_cons_of_mem _ (List.mem_cons_of_mem _ (List.mem_cons_of_mem _ (List.mem_cons_of_mem _ List.mem_cons_self)))))))
