/-! ===== the steps in which a rule is read ===== -/
section M4Steps
variable {b : Nat} {fr : Int} {T : List (Int × Int)} {w w1 : MjW}
theorem m4_len8 (T : List (Int × Int)) : (T ++ [((8 : Int), (0 : Int))]).length = T.length + 1 := by rw [List.length_append]; rfl
theorem m4IE_bd {wants : Bool} (h : m4IE b fr T wants w) : 0 ≤ (m4X w 240 44).toInt ∧ 0 ≤ (m4X w 240 45).toInt ∧ (m4X w 240 45).toInt ≤ 7 ∧ 0 ≤ (m4X w 240 47).toInt ∧ (m4X w 240 47).toInt ≤ 30 ∧ 0 ≤ fr ∧ fr ≤ 560 ∧ (m4X w 240 46).toInt ≤ 38 ∧ (m4X w 240 44).toInt - fr ≤ 277 ∧ 0 ≤ m4cB T ∧ 0 ≤ m4cN T ∧ 0 ≤ m4cK T ∧ m4cB T ≤ 30 := by
  obtain ⟨hT, -, ⟨hb, -, hfr⟩, -, h5, -, h7, h8, h9, -⟩ := h
  obtain ⟨c1, c2, c3, c4⟩ := m4c_len T
  have b44 := (fi_240_44 hT).2; have b45 := (fi_240_45 hT).2; have b47 := (fi_240_47 hT).2
  cases wants with
  | true => rw [if_pos rfl] at h9; rcases hb with rfl | rfl <;> omega
  | false => rw [if_neg (by decide)] at h9; rcases hb with rfl | rfl <;> omega
/-- a not or a bracket opens -/
theorem m4IE_push {x : Int} (h : m4IE b fr T true w) (hT : mjTyd m4S w1) (he : (m4X w1 240 7).toInt ≤ (m4X w1 240 3).toInt) (hx : x = 3 ∨ x = 7) (e43 : (m4X w1 240 43).toInt = (m4X w 240 43).toInt) (e44 : m4X w1 240 44 = m4X w 240 44) (e45 : (m4X w1 240 45).toInt = (m4X w 240 45).toInt + 1) (e46 : (m4X w1 240 46).toInt = (m4X w 240 46).toInt + 1) (e47 : (m4X w 240 47).toInt ≤ (m4X w1 240 47).toInt) (ha : ∀ k, m4X w1 269 k = m4X w 269 k) (hr : ∀ j : Nat, (j : Int) < (m4X w 240 46).toInt → m4X w1 271 j = m4X w 271 j ∧ m4X w1 272 j = m4X w 272 j) (p1 : (m4X w1 271 (m4X w 240 46).toInt.toNat).toInt = x) (p2 : (m4X w1 272 (m4X w 240 46).toInt.toNat).toInt = 126) : m4IE b fr ((x, 126) :: T) true w1 := by
  obtain ⟨-, -, ⟨h3a, h3b, h3c⟩, h4, h5, h6, h7, h8, h9, h10⟩ := h
  have el : (m4X w 240 46).toInt.toNat = (T ++ [((8 : Int), (0 : Int))]).length := by rw [m4_len8, h5]; omega
  rw [el] at p1 p2
  rw [if_pos rfl] at h9
  obtain ⟨c1, c2, c3, c4⟩ := m4c_len T
  have rep := m4Rep_push h4 p1 p2 (fun j hj => hr j (by rw [m4_len8] at hj; omega))
  have enx : m4En (x, 126) := ⟨by show 1 ≤ x ∧ x ≤ 7; omega, fun _ => rfl, fun n3 n7 => absurd hx (by show ¬ (x = 3 ∨ x = 7); have n3' : x ≠ 3 := n3; have n7' : x ≠ 7 := n7; omega)⟩
  have cc : m4cB ((x, 126) :: T) = m4cB T ∧ ((m4cN ((x, 126) :: T) = m4cN T + 1 ∧ m4cK ((x, 126) :: T) = m4cK T) ∨ (m4cN ((x, 126) :: T) = m4cN T ∧ m4cK ((x, 126) :: T) = m4cK T + 1)) := by
    rcases hx with e | e
    · obtain ⟨q1, q2, q3⟩ := m4c_not (e := (x, 126)) (T := T) e
      exact ⟨q1, Or.inl ⟨q2, q3⟩⟩
    · obtain ⟨q1, q2, q3⟩ := m4c_brk (e := (x, 126)) (T := T) e
      exact ⟨q1, Or.inr ⟨q2, q3⟩⟩
  obtain ⟨cb, cn⟩ := cc
  refine ⟨hT, he, ⟨h3a, by omega, h3c⟩, rep, by rw [List.length_cons]; omega, fun q hq => ?_, by omega, by rw [e44]; exact h8, ?_, ?_⟩
  · rcases List.mem_cons.mp hq with rfl | hq
    · exact enx
    · exact h6 q hq
  · rw [if_pos rfl, cb, e44]
    omega
  · rw [cb]
    exact m4Hs_eq h10 e44 (fun k _ => ha k)
/-- an operand is emitted -/
theorem m4IE_unit {c : Int} (h : m4IE b fr T true w) (hT : mjTyd m4S w1) (he : (m4X w1 240 7).toInt ≤ (m4X w1 240 3).toInt) (hc : 97 ≤ c ∧ c ≤ 122) (hu : (m4X w 240 47).toInt ≤ 29) (e43 : (m4X w1 240 43).toInt = (m4X w 240 43).toInt) (e44 : (m4X w1 240 44).toInt = (m4X w 240 44).toInt + 1) (e45 : (m4X w1 240 45).toInt = (m4X w 240 45).toInt) (e46 : (m4X w1 240 46).toInt = (m4X w 240 46).toInt) (e47 : (m4X w1 240 47).toInt = (m4X w 240 47).toInt + 1) (ha : ∀ k : Nat, (k : Int) < (m4X w 240 44).toInt → m4X w1 269 k = m4X w 269 k) (hr : ∀ j : Nat, m4X w1 271 j = m4X w 271 j ∧ m4X w1 272 j = m4X w 272 j) (p1 : (m4X w1 269 (m4X w 240 44).toInt.toNat).toInt = c) : m4IE b fr T false w1 := by
  have bd := m4IE_bd h
  obtain ⟨-, -, ⟨h3a, h3b, h3c⟩, h4, h5, h6, h7, h8, h9, h10⟩ := h
  rw [if_pos rfl] at h9
  refine ⟨hT, he, ⟨h3a, by omega, h3c⟩, m4Rep_eq (fun j _ => hr j) h4, by omega, h6, by omega, by omega, ?_, ?_⟩
  · rw [if_neg (by decide)]
    omega
  · rw [if_neg (by decide)]
    refine m4Hs_emit h10 (by omega) h8 e44 ha p1 ?_
    rw [if_pos rfl]
    exact ⟨fun e => by omega, fun _ => ⟨by omega, by omega, by omega⟩, fun _ n => absurd hc n⟩
/-- an entry is emitted behind a unit -/
theorem m4IE_pop {e : Int × Int} (h : m4IE b fr (e :: T) false w) (h7 : e.1 ≠ 7) (hT : mjTyd m4S w1) (he : (m4X w1 240 7).toInt ≤ (m4X w1 240 3).toInt) (e43 : (m4X w1 240 43).toInt = (m4X w 240 43).toInt) (e44 : (m4X w1 240 44).toInt = (m4X w 240 44).toInt + 1) (e45 : (e.1 = 3 → (m4X w1 240 45).toInt = (m4X w 240 45).toInt - 1) ∧ (e.1 ≠ 3 → (m4X w1 240 45).toInt = (m4X w 240 45).toInt)) (e46 : (m4X w1 240 46).toInt = (m4X w 240 46).toInt - 1) (e47 : (m4X w1 240 47).toInt = (m4X w 240 47).toInt) (ha : ∀ k : Nat, (k : Int) < (m4X w 240 44).toInt → m4X w1 269 k = m4X w 269 k) (hr : ∀ j : Nat, m4X w1 271 j = m4X w 271 j ∧ m4X w1 272 j = m4X w 272 j) (p1 : (m4X w1 269 (m4X w 240 44).toInt.toNat).toInt = e.2) : m4IE b fr T false w1 := by
  have bd := m4IE_bd h
  obtain ⟨-, -, ⟨h3a, h3b, h3c⟩, h4, h5, h6, hw, h8, h9, h10⟩ := h
  rw [if_neg (by decide)] at h9 h10
  rw [List.length_cons] at h5
  obtain ⟨en1, en2, en3⟩ := h6 e List.mem_cons_self
  obtain ⟨c1, c2, c3, c4⟩ := m4c_len T
  have cc : (e.1 = 3 ∧ m4cB (e :: T) = m4cB T ∧ m4cN (e :: T) = m4cN T + 1 ∧ m4cK (e :: T) = m4cK T) ∨ (e.1 ≠ 3 ∧ m4cB (e :: T) = m4cB T + 1 ∧ m4cN (e :: T) = m4cN T ∧ m4cK (e :: T) = m4cK T) := by
    by_cases q : e.1 = 3
    · exact Or.inl ⟨q, m4c_not q⟩
    · exact Or.inr ⟨q, m4c_bin q h7⟩
  refine ⟨hT, he, ⟨h3a, by omega, h3c⟩, m4Rep_eq (fun j _ => hr j) h4.2.2, by omega, fun q hq => h6 q (List.mem_cons_of_mem _ hq), ?_, by omega, ?_, ?_⟩
  · rcases cc with ⟨q, -, q2, q3⟩ | ⟨q, -, q2, q3⟩
    · have := e45.1 q; omega
    · have := e45.2 q; omega
  · rw [if_neg (by decide)]
    rcases cc with ⟨q, q1, q2, q3⟩ | ⟨q, q1, q2, q3⟩ <;> omega
  · rw [if_neg (by decide)]
    refine m4Hs_emit h10 (by omega) h8 e44 ha p1 ?_
    rcases cc with ⟨q, q1, -, -⟩ | ⟨q, q1, -, -⟩
    · have e2 := en2 q
      rw [q1]
      exact ⟨fun _ => ⟨by omega, rfl⟩, fun n => by omega, fun n => absurd e2 n⟩
    · have e2 := en3 q h7
      rw [q1]
      exact ⟨fun n => absurd n e2.1, fun n => absurd n e2.2, fun _ _ => ⟨by omega, by omega⟩⟩
/-- a join is laid on the pile -/
theorem m4IE_bin {x s : Int} (h : m4IE b fr T false w) (hT : mjTyd m4S w1) (he : (m4X w1 240 7).toInt ≤ (m4X w1 240 3).toInt) (hx : x = 1 ∨ x = 2 ∨ x = 4 ∨ x = 5 ∨ x = 6) (hs : s ≠ 126 ∧ ¬ (97 ≤ s ∧ s ≤ 122)) (e43 : (m4X w1 240 43).toInt = (m4X w 240 43).toInt) (e44 : m4X w1 240 44 = m4X w 240 44) (e45 : (m4X w1 240 45).toInt = (m4X w 240 45).toInt) (e46 : (m4X w1 240 46).toInt = (m4X w 240 46).toInt + 1) (e47 : (m4X w1 240 47).toInt = (m4X w 240 47).toInt) (ha : ∀ k, m4X w1 269 k = m4X w 269 k) (hr : ∀ j : Nat, (j : Int) < (m4X w 240 46).toInt → m4X w1 271 j = m4X w 271 j ∧ m4X w1 272 j = m4X w 272 j) (p1 : (m4X w1 271 (m4X w 240 46).toInt.toNat).toInt = x) (p2 : (m4X w1 272 (m4X w 240 46).toInt.toNat).toInt = s) : m4IE b fr ((x, s) :: T) true w1 := by
  have bd := m4IE_bd h
  obtain ⟨-, -, ⟨h3a, h3b, h3c⟩, h4, h5, h6, h7, h8, h9, h10⟩ := h
  have el : (m4X w 240 46).toInt.toNat = (T ++ [((8 : Int), (0 : Int))]).length := by rw [m4_len8, h5]; omega
  rw [el] at p1 p2
  rw [if_neg (by decide)] at h9 h10
  have rep := m4Rep_push h4 p1 p2 (fun j hj => hr j (by rw [m4_len8] at hj; omega))
  have n3 : x ≠ 3 := by omega
  have n7 : x ≠ 7 := by omega
  obtain ⟨q1, q2, q3⟩ := m4c_bin (e := (x, s)) (T := T) n3 n7
  refine ⟨hT, he, ⟨h3a, by omega, h3c⟩, rep, by rw [List.length_cons]; omega, fun q hq => ?_, by omega, by rw [e44]; exact h8, ?_, ?_⟩
  · rcases List.mem_cons.mp hq with rfl | hq
    · exact ⟨by show 1 ≤ x ∧ x ≤ 7; omega, fun n => absurd n n3, fun _ _ => hs⟩
    · exact h6 q hq
  · rw [if_pos rfl, q1, q2, e44]
    omega
  · rw [q1, if_pos rfl, Int.add_zero]
    exact m4Hs_eq h10 e44 (fun k _ => ha k)
/-- a bracket closes -/
theorem m4IE_brk {e : Int × Int} (h : m4IE b fr (e :: T) false w) (h7 : e.1 = 7) (hT : mjTyd m4S w1) (he : (m4X w1 240 7).toInt ≤ (m4X w1 240 3).toInt) (e43 : (m4X w1 240 43).toInt = (m4X w 240 43).toInt) (e44 : m4X w1 240 44 = m4X w 240 44) (e45 : (m4X w1 240 45).toInt = (m4X w 240 45).toInt - 1) (e46 : (m4X w1 240 46).toInt = (m4X w 240 46).toInt - 1) (e47 : (m4X w1 240 47).toInt = (m4X w 240 47).toInt) (ha : ∀ k, m4X w1 269 k = m4X w 269 k) (hr : ∀ j : Nat, m4X w1 271 j = m4X w 271 j ∧ m4X w1 272 j = m4X w 272 j) : m4IE b fr T false w1 := by
  obtain ⟨-, -, ⟨h3a, h3b, h3c⟩, h4, h5, h6, hw, h8, h9, h10⟩ := h
  rw [if_neg (by decide)] at h9 h10
  rw [List.length_cons] at h5
  obtain ⟨q1, q2, q3⟩ := m4c_brk (T := T) h7
  refine ⟨hT, he, ⟨h3a, by omega, h3c⟩, m4Rep_eq (fun j _ => hr j) h4.2.2, by omega, fun q hq => h6 q (List.mem_cons_of_mem _ hq), by omega, by rw [e44]; exact h8, ?_, ?_⟩
  · rw [if_neg (by decide), e44]
    omega
  · rw [if_neg (by decide), ← q1]
    exact m4Hs_eq h10 e44 (fun k _ => ha k)
end M4Steps
