/-! ===== the state in which a rule is read ===== -/
def m4IE (b : Nat) (fr : Int) (T : List (Int × Int)) (wants : Bool) (w : MjW) : Prop :=
  mjTyd m4S w ∧ (m4X w 240 7).toInt ≤ (m4X w 240 3).toInt ∧ ((b = 0 ∨ b = 1) ∧ (m4X w 240 43).toInt = 1 - (b : Int) ∧ fr = 560 * (1 - (b : Int))) ∧
  m4Rep w (T ++ [(8, 0)]) ∧ (m4X w 240 46).toInt = (T.length : Int) + 1 ∧ (∀ e ∈ T, m4En e) ∧ (m4X w 240 45).toInt = m4cN T + m4cK T ∧ fr ≤ (m4X w 240 44).toInt ∧
  (if wants = true then m4cB T ≤ (m4X w 240 47).toInt ∧ (m4X w 240 44).toInt - fr + m4cB T + m4cN T ≤ 9 * (m4X w 240 47).toInt + (m4X w 240 45).toInt else m4cB T + 1 ≤ (m4X w 240 47).toInt ∧ (m4X w 240 44).toInt - fr + m4cB T + m4cN T + 1 ≤ 9 * (m4X w 240 47).toInt) ∧
  m4Hs w fr (m4cB T + (if wants = true then 0 else 1))
/-- nothing of it but the token and the place read has changed -/
theorem m4IE_eq {b : Nat} {fr : Int} {T : List (Int × Int)} {wants : Bool} {w w1 : MjW} (h : m4IE b fr T wants w) (hT : mjTyd m4S w1) (he : (m4X w1 240 7).toInt ≤ (m4X w1 240 3).toInt) (hk : ∀ k, k = 43 ∨ k = 44 ∨ k = 45 ∨ k = 46 ∨ k = 47 → m4X w1 240 k = m4X w 240 k) (ha : ∀ a, a = 269 ∨ a = 271 ∨ a = 272 → ∀ k, m4X w1 a k = m4X w a k) : m4IE b fr T wants w1 := by
  obtain ⟨-, -, h3, h4, h5, h6, h7, h8, h9, h10⟩ := h
  have e43 := hk 43 (by omega); have e44 := hk 44 (by omega); have e45 := hk 45 (by omega); have e46 := hk 46 (by omega); have e47 := hk 47 (by omega)
  refine ⟨hT, he, by rw [e43]; exact h3, m4Rep_eq (fun j _ => ⟨ha 271 (by omega) j, ha 272 (by omega) j⟩) h4, by rw [e46]; exact h5, h6, by rw [e45]; exact h7, by rw [e44]; exact h8, by rw [e44, e45, e47]; exact h9, m4Hs_eq h10 e44 (fun k _ => ha 269 (by omega) k)⟩
theorem m4IE_kp {b : Nat} {fr : Int} {T : List (Int × Int)} {wants : Bool} {w w1 : MjW} (h : m4IE b fr T wants w) (hT : mjTyd m4S w1) (he : (m4X w1 240 7).toInt ≤ (m4X w1 240 3).toInt) (hk : mjKp m4S [(241, 6), (241, 7), (241, 8), (241, 9), (241, 10)] w w1) : m4IE b fr T wants w1 := by
  refine m4IE_eq h hT he (fun k hk2 => ?_) (fun a ha k => ?_)
  · rcases hk2 with rfl | rfl | rfl | rfl | rfl <;> exact hk.X ro_240 rfl
  · rcases ha with rfl | rfl | rfl
    · exact hk.X ro_269 rfl
    · exact hk.X ro_271 rfl
    · exact hk.X ro_272 rfl
theorem m4IE_Q {b : Nat} {fr : Int} {T : List (Int × Int)} {wants : Bool} {w w1 : MjW} {c : Int} (h : m4IE b fr T wants w) (hT : mjTyd m4S w1) (hq : m4Q w c w1) : m4IE b fr T wants w1 := by
  refine m4IE_eq h hT hq.2.1 (fun k hk2 => ?_) (fun a ha k => ?_)
  · rcases hk2 with rfl | rfl | rfl | rfl | rfl <;> exact hq.X ro_240 rfl (by omega)
  · rcases ha with rfl | rfl | rfl
    · exact hq.X ro_269 rfl (by omega)
    · exact hq.X ro_271 rfl (by omega)
    · exact hq.X ro_272 rfl (by omega)
/-- the entry on top of the pile -/
theorem m4IE_top {b : Nat} {fr : Int} {T : List (Int × Int)} {wants : Bool} {w : MjW} (h : m4IE b fr T wants w) : (T = [] ∧ (m4X w 271 ((m4X w 240 46).toInt - 1).toNat).toInt = 8) ∨ (∃ e R, T = e :: R ∧ m4En e ∧ (m4X w 271 ((m4X w 240 46).toInt - 1).toNat).toInt = e.1 ∧ (m4X w 272 ((m4X w 240 46).toInt - 1).toNat).toInt = e.2) := by
  obtain ⟨-, -, -, h4, h5, h6, -⟩ := h
  cases T with
  | nil =>
    left
    refine ⟨rfl, ?_⟩
    rw [h5]
    exact h4.1
  | cons e R =>
    right
    refine ⟨e, R, rfl, h6 e List.mem_cons_self, ?_, ?_⟩
    · have h7 := h4.1
      rw [h5, show (((e :: R).length : Int) + 1 - 1).toNat = (R ++ [((8 : Int), (0 : Int))]).length by rw [List.length_append, List.length_cons]; simp]
      exact h7
    · have h7 := h4.2.1
      rw [h5, show (((e :: R).length : Int) + 1 - 1).toNat = (R ++ [((8 : Int), (0 : Int))]).length by rw [List.length_append, List.length_cons]; simp]
      exact h7
/-- one more entry -/
theorem m4Rep_push {w w1 : MjW} {L : List (Int × Int)} {x s : Int} (h : m4Rep w L) (h1 : (m4X w1 271 L.length).toInt = x) (h2 : (m4X w1 272 L.length).toInt = s) (hk : ∀ j, j < L.length → m4X w1 271 j = m4X w 271 j ∧ m4X w1 272 j = m4X w 272 j) : m4Rep w1 ((x, s) :: L) := ⟨h1, h2, m4Rep_eq hk h⟩
