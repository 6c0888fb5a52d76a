/-! ===== while a text is read: what the other bank keeps; the pile of a rule; its heights ===== -/
def m4Kq (b a k : Nat) : Prop := (a = 10 ∨ a = 11 ∨ a = 12 ∨ a = 201 ∨ a = 202 ∨ a = 203 ∨ a = 185) ∨ (a = 240 ∧ (k = 3 ∨ k = 42 ∨ k = 43 ∨ k = 60 ∨ k = 61 ∨ k = 74)) ∨ ((a = 243 ∨ a = 244 ∨ a = 251 ∨ a = 265 ∨ a = 266) ∧ k = b) ∨ (a = 269 ∧ 560 * b ≤ k ∧ k < 560 * b + 560)
def m4Kp (b a k : Nat) : Prop := m4Kq b a k ∨ a = 243 ∨ a = 244 ∨ a = 251 ∨ a = 265 ∨ a = 266
def m4Kx (a k : Nat) : Prop := ¬ (a = 10 ∧ 3 ≤ k) ∧ ¬ (a = 201 ∧ 3 ≤ k) ∧ ¬ (a = 185 ∧ k ≠ 8)
/-- all that the invariant looks at for bank b stays -/
def m4Kd (b : Nat) (w w1 : MjW) : Prop := mjShp w1 = mjShp w ∧ ∀ a k : Nat, m4Kq b a k → m4Kx a k → mjFld w1 a k = mjFld w a k
/-- and the lanes, the rows, what is told and where the rule lies, of both banks -/
def m4Kb (b : Nat) (w w1 : MjW) : Prop := mjShp w1 = mjShp w ∧ ∀ a k : Nat, m4Kp b a k → m4Kx a k → mjFld w1 a k = mjFld w a k
theorem m4Kb.toKd {b : Nat} {w w1 : MjW} (h : m4Kb b w w1) : m4Kd b w w1 := ⟨h.1, fun a k x y => h.2 a k (Or.inl x) y⟩
theorem m4Kd.refl {b : Nat} {w : MjW} : m4Kd b w w := ⟨rfl, fun _ _ _ _ => rfl⟩
theorem m4Kd.trans {b : Nat} {w w1 w2 : MjW} (h : m4Kd b w w1) (h2 : m4Kd b w1 w2) : m4Kd b w w2 := ⟨h2.1.trans h.1, fun a k x1 x2 => (h2.2 a k x1 x2).trans (h.2 a k x1 x2)⟩
theorem m4Kb.refl {b : Nat} {w : MjW} : m4Kb b w w := ⟨rfl, fun _ _ _ _ => rfl⟩
theorem m4Kb.trans {b : Nat} {w w1 w2 : MjW} (h : m4Kb b w w1) (h2 : m4Kb b w1 w2) : m4Kb b w w2 := ⟨h2.1.trans h.1, fun a k x1 x2 => (h2.2 a k x1 x2).trans (h.2 a k x1 x2)⟩
theorem m4Kd.X {b : Nat} {w w1 : MjW} (h : m4Kd b w w1) {a k : Nat} (h1 : m4Kq b a k) (h2 : m4Kx a k := by unfold m4Kx; omega) : m4X w1 a k = m4X w a k := by unfold m4X; rw [h.2 a k h1 h2]
theorem m4Kb_up {b : Nat} {w w1 : MjW} {a k : Nat} {v : Value} (h : m4Up w w1 a k v) (hn : ¬ m4Kp b a k) : m4Kb b w w1 := ⟨h.1, fun a1 k1 x1 _ => h.fld (Classical.byContradiction (fun q => hn (by
  have e1 : a1 = a := Classical.byContradiction (fun z => q (Or.inl z))
  have e2 : k1 = k := Classical.byContradiction (fun z => q (Or.inr z))
  rw [← e1, ← e2]; exact x1)))⟩
theorem m4Kb.X {b : Nat} {w w1 : MjW} (h : m4Kb b w w1) {a k : Nat} (h1 : m4Kp b a k) (h2 : m4Kx a k := by unfold m4Kx; omega) : m4X w1 a k = m4X w a k := by unfold m4X; rw [h.2 a k h1 h2]
theorem m4Kd_up {b : Nat} {w w1 : MjW} {a k : Nat} {v : Value} (h : m4Up w w1 a k v) (hn : ¬ m4Kq b a k) : m4Kd b w w1 := ⟨h.1, fun a1 k1 x1 _ => h.fld (Classical.byContradiction (fun q => hn (by
  have e1 : a1 = a := Classical.byContradiction (fun z => q (Or.inl z))
  have e2 : k1 = k := Classical.byContradiction (fun z => q (Or.inr z))
  rw [← e1, ← e2]; exact x1)))⟩
theorem m4Kb_Q {b : Nat} {w w1 : MjW} {c : Int} (h : m4Q w c w1) (hs : mjShp w1 = mjShp w) : m4Kb b w w1 := by
  refine ⟨hs, fun a k x1 ⟨x2, x3, x4⟩ => ?_⟩
  rcases x1 with (x | ⟨rfl, x⟩ | ⟨x, -⟩ | ⟨rfl, -⟩) | rfl | rfl | rfl | rfl | rfl
  · rcases x with rfl | rfl | rfl | rfl | rfl | rfl | rfl
    · have : k = 0 ∨ k = 1 ∨ k = 2 := by omega
      rcases this with rfl | rfl | rfl <;> exact h.1 10 _ (by rw [m4r_10]; rfl) (by omega)
    · exact h.1 11 k (by rw [m4r_11]; rfl) (by omega)
    · exact h.1 12 k (by rw [m4r_12]; rfl) (by omega)
    · have : k = 0 ∨ k = 1 ∨ k = 2 := by omega
      rcases this with rfl | rfl | rfl <;> exact h.1 201 _ (by rw [m4r_201]; rfl) (by omega)
    · exact h.1 202 k (by rw [m4r_202]; rfl) (by omega)
    · exact h.1 203 k (by rw [m4r_203]; rfl) (by omega)
    · have : k = 8 := by omega
      subst this
      exact h.1 185 8 (by rw [m4r_185]; rfl) (by omega)
  · rcases x with rfl | rfl | rfl | rfl | rfl | rfl <;> exact h.1 240 _ (by rw [m4r_240]; rfl) (by omega)
  · rcases x with rfl | rfl | rfl | rfl | rfl
    · exact h.1 243 k (by rw [m4r_243]; rfl) (by omega)
    · exact h.1 244 k (by rw [m4r_244]; rfl) (by omega)
    · exact h.1 251 k (by rw [m4r_251]; rfl) (by omega)
    · exact h.1 265 k (by rw [m4r_265]; rfl) (by omega)
    · exact h.1 266 k (by rw [m4r_266]; rfl) (by omega)
  · exact h.1 269 k (by rw [m4r_269]; rfl) (by omega)
  · exact h.1 243 k (by rw [m4r_243]; rfl) (by omega)
  · exact h.1 244 k (by rw [m4r_244]; rfl) (by omega)
  · exact h.1 251 k (by rw [m4r_251]; rfl) (by omega)
  · exact h.1 265 k (by rw [m4r_265]; rfl) (by omega)
  · exact h.1 266 k (by rw [m4r_266]; rfl) (by omega)
theorem m4J_Kb {t : Int} {w w1 : MjW} (h : m4J t w) (hk : m4Kd (m4Bk w) w w1) : m4J t w1 := by
  obtain ⟨⟨j1, j2⟩, ⟨j3, j4⟩, ⟨⟨l1, l2⟩, l3, l4⟩, ⟨c1, c2, c3⟩, j7⟩ := h
  have eb : m4Bk w1 = m4Bk w := by
    have e := hk.X (a := 240) (k := 42) (Or.inr (Or.inl ⟨rfl, by omega⟩))
    unfold m4Bk; rw [e]
  have bk : ∀ a, a = 243 ∨ a = 244 ∨ a = 251 ∨ a = 265 ∨ a = 266 → m4X w1 a (m4Bk w) = m4X w a (m4Bk w) := fun a ha => hk.X (Or.inr (Or.inr (Or.inl ⟨ha, rfl⟩)))
  refine ⟨⟨m4F_ag j1 (fun j hj => hk.2 10 j (Or.inl (by omega)) (by unfold m4Kx; omega)) (fun j => hk.X (Or.inl (by omega))) (fun j => hk.X (Or.inl (by omega))), m4F_ag j2 (fun j hj => hk.2 201 j (Or.inl (by omega)) (by unfold m4Kx; omega)) (fun j => hk.X (Or.inl (by omega))) (fun j => hk.X (Or.inl (by omega)))⟩, ⟨?_, ?_⟩, ⟨⟨?_, ?_⟩, ?_, ?_⟩, ?_, ?_⟩
  · rw [hk.X (a := 185) (k := 8) (Or.inl (by omega))]; exact j3
  · rw [hk.X (a := 240) (k := 74) (Or.inr (Or.inl ⟨rfl, by omega⟩))]; exact j4
  · rw [eb, bk 243 (by omega)]; exact l1
  · rw [eb, bk 243 (by omega)]; exact l2
  · rw [eb, bk 244 (by omega)]; exact l3
  · rw [eb, bk 244 (by omega)]; exact l4
  · rw [hk.X (a := 240) (k := 60) (Or.inr (Or.inl ⟨rfl, by omega⟩)), hk.X (a := 240) (k := 61) (Or.inr (Or.inl ⟨rfl, by omega⟩))]; exact ⟨c1, c2, c3⟩
  · rw [eb, bk 251 (by omega)]
    intro hb
    have hs := j7 hb
    refine m4Sf_ag hs (bk 265 (by omega)) (bk 266 (by omega)) (fun k k1 k2 => hk.X (Or.inr (Or.inr (Or.inr ⟨rfl, ?_, ?_⟩))))
    · have := hs.1.1; omega
    · have := hs.1.2; omega
-- the pile
def m4Rep (w : MjW) : List (Int × Int) → Prop
  | [] => True
  | e :: R => (m4X w 271 R.length).toInt = e.1 ∧ (m4X w 272 R.length).toInt = e.2 ∧ m4Rep w R
theorem m4Rep_eq {w w1 : MjW} : ∀ {L : List (Int × Int)}, (∀ j, j < L.length → m4X w1 271 j = m4X w 271 j ∧ m4X w1 272 j = m4X w 272 j) → m4Rep w L → m4Rep w1 L
  | [], _, _ => trivial
  | e :: R, h, hr => by
    have h0 := h R.length (by rw [List.length_cons]; omega)
    refine ⟨by rw [h0.1]; exact hr.1, by rw [h0.2]; exact hr.2.1, m4Rep_eq (fun j hj => h j (by rw [List.length_cons]; omega)) hr.2.2⟩
def m4isB (e : Int × Int) : Bool := !(decide (e.1 = 3) || decide (e.1 = 7))
def m4cB (T : List (Int × Int)) : Int := ((T.filter m4isB).length : Int)
def m4cN (T : List (Int × Int)) : Int := ((T.filter (fun e => decide (e.1 = 3))).length : Int)
def m4cK (T : List (Int × Int)) : Int := ((T.filter (fun e => decide (e.1 = 7))).length : Int)
theorem m4c_bin {e : Int × Int} {T : List (Int × Int)} (h3 : e.1 ≠ 3) (h7 : e.1 ≠ 7) : m4cB (e :: T) = m4cB T + 1 ∧ m4cN (e :: T) = m4cN T ∧ m4cK (e :: T) = m4cK T := by
  unfold m4cB m4cN m4cK
  simp [List.filter_cons, m4isB, h3, h7]
theorem m4c_not {e : Int × Int} {T : List (Int × Int)} (h3 : e.1 = 3) : m4cB (e :: T) = m4cB T ∧ m4cN (e :: T) = m4cN T + 1 ∧ m4cK (e :: T) = m4cK T := by
  unfold m4cB m4cN m4cK
  simp [List.filter_cons, m4isB, h3]
theorem m4c_brk {e : Int × Int} {T : List (Int × Int)} (h7 : e.1 = 7) : m4cB (e :: T) = m4cB T ∧ m4cN (e :: T) = m4cN T ∧ m4cK (e :: T) = m4cK T + 1 := by
  unfold m4cB m4cN m4cK
  simp [List.filter_cons, m4isB, h7]
theorem m4c_len : ∀ T : List (Int × Int), (T.length : Int) = m4cB T + m4cN T + m4cK T ∧ 0 ≤ m4cB T ∧ 0 ≤ m4cN T ∧ 0 ≤ m4cK T
  | [] => ⟨rfl, by decide, by decide, by decide⟩
  | e :: T => by
    obtain ⟨h1, h2, h3, h4⟩ := m4c_len T
    by_cases e3 : e.1 = 3
    · obtain ⟨q1, q2, q3⟩ := m4c_not (T := T) e3
      rw [q1, q2, q3, List.length_cons]
      omega
    · by_cases e7 : e.1 = 7
      · obtain ⟨q1, q2, q3⟩ := m4c_brk (T := T) e7
        rw [q1, q2, q3, List.length_cons]
        omega
      · obtain ⟨q1, q2, q3⟩ := m4c_bin (T := T) e3 e7
        rw [q1, q2, q3, List.length_cons]
        omega
/-- an entry: a join with a sign that is no letter and no '~', a not, a bracket -/
def m4En (e : Int × Int) : Prop := (1 ≤ e.1 ∧ e.1 ≤ 7) ∧ (e.1 = 3 → e.2 = 126) ∧ (e.1 ≠ 3 → e.1 ≠ 7 → e.2 ≠ 126 ∧ ¬ (97 ≤ e.2 ∧ e.2 ≤ 122))
-- heights of what is emitted
def m4Hs (w : MjW) (fr H : Int) : Prop := ∃ h : Nat → Int, h fr.toNat = 0 ∧ (∀ k : Nat, fr ≤ (k : Int) → (k : Int) < (m4X w 240 44).toInt → m4St (m4X w 269 k).toInt (h k) (h (k + 1))) ∧ h (m4X w 240 44).toInt.toNat = H
theorem m4Hs_eq {w w1 : MjW} {fr H : Int} (h : m4Hs w fr H) (e1 : m4X w1 240 44 = m4X w 240 44) (e2 : ∀ k : Nat, (k : Int) < (m4X w 240 44).toInt → m4X w1 269 k = m4X w 269 k) : m4Hs w1 fr H := by
  obtain ⟨f, f1, f2, f3⟩ := h
  refine ⟨f, f1, fun k k1 k2 => ?_, by rw [e1]; exact f3⟩
  rw [e1] at k2
  rw [e2 k k2]
  exact f2 k k1 k2
theorem m4Hs_emit {w w1 : MjW} {fr H H1 : Int} {c : Int} (h : m4Hs w fr H) (h0 : 0 ≤ fr) (h1 : fr ≤ (m4X w 240 44).toInt) (e1 : (m4X w1 240 44).toInt = (m4X w 240 44).toInt + 1) (e2 : ∀ k : Nat, (k : Int) < (m4X w 240 44).toInt → m4X w1 269 k = m4X w 269 k) (e3 : (m4X w1 269 (m4X w 240 44).toInt.toNat).toInt = c) (hs : m4St c H H1) : m4Hs w1 fr H1 := by
  obtain ⟨f, f1, f2, f3⟩ := h
  refine ⟨fun k => if k = (m4X w 240 44).toInt.toNat + 1 then H1 else f k, ?_, fun k k1 k2 => ?_, ?_⟩
  · show (if _ then _ else _) = _
    rw [if_neg (by omega)]; exact f1
  · show m4St _ (if _ then _ else _) (if _ then _ else _)
    rw [if_neg (by omega)]
    by_cases e : k = (m4X w 240 44).toInt.toNat
    · subst e
      rw [if_pos rfl, e3, f3]
      exact hs
    · rw [if_neg (by omega), e2 k (by omega)]
      exact f2 k k1 (by omega)
  · show (if _ then _ else _) = _
    rw [if_pos (by omega)]
