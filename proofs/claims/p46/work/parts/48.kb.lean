/-! ===== the parser, by hand ===== -/
theorem H_r (w0 : MjW) (c : Int) : mjHr (m4Q w0 c) := List.forall_mem_cons.mpr ⟨H_goC w0 c rfl, fun e he => (by cases he)⟩
theorem H_misp {J : MjW → Prop} {as : List Value} {w w1 : MjW} {r : Option Value} (hp : mjPost m4S J mjSm_r_8 as w r w1) : r = none ∧ mjTyd m4S w1 ∧ J w1 ∧ mjKp m4S [(241, 4), (241, 5)] w w1 ∧ 1 ≤ (m4X w1 240 4).toInt := by
  obtain ⟨h1, h2, o, h3, h4, -, h6⟩ := hp
  rcases List.mem_cons.mp h3 with e | e
  · subst e
    unfold mjRs at h4
    rw [if_pos rfl] at h4
    obtain ⟨v, q1, x, rfl, q2, q3⟩ := h6 _ List.mem_cons_self
    refine ⟨h4, h1.1, h1.2, h2, ?_⟩
    rw [m4X_of q1]
    exact q2
  · cases e
theorem m4X_fld {w w1 : MjW} {a k : Nat} (h : mjFld w1 a k = mjFld w a k) : m4X w1 a k = m4X w a k := by unfold m4X; rw [h]
theorem m4Kb_fld {b : Nat} {w w1 : MjW} (hs : mjShp w1 = mjShp w) (h : ∀ a k, m4Kp b a k → mjFld w1 a k = mjFld w a k) : m4Kb b w w1 := ⟨hs, fun a k x _ => h a k x⟩
def m4KbB (mods : List (Nat × Nat)) : Bool := mods.all (fun m => Nat.beq m.1 241 && (Nat.beq m.2 6 || (Nat.beq m.2 7 || (Nat.beq m.2 8 || (Nat.beq m.2 9 || Nat.beq m.2 10)))))
theorem m4_ro241 {a : Nat} (h : m4S.1 a = 241) : a = 240 := by
  have key : ∀ a, a < 290 → m4S.1 a = 241 → a = 240 := by decide +kernel
  refine key a ?_ h
  have h2 : (bif Nat.blt a mjN0 then m4Ro a else 0) = 241 := h
  cases e : Nat.blt a mjN0 with
  | true => exact Nat.le_of_ble_eq_true e
  | false => rw [e] at h2; cases h2
theorem m4Kb_kp {b : Nat} {w w1 : MjW} {mods : List (Nat × Nat)} (h : mjKp m4S mods w w1) (hm : m4KbB mods = true) : m4Kb b w w1 := by
  refine ⟨h.1, fun a k x _ => h.2 a k (m4_modF (fun m hmem e1 e2 => ?_))⟩
  have h1 := List.all_eq_true.mp hm m hmem
  simp only [Bool.and_eq_true, Bool.or_eq_true] at h1
  have h2 := Nat.eq_of_beq_eq_true h1.1
  have ha := m4_ro241 (a := a) (by rw [← e1]; exact h2)
  have h3 : m.2 = 6 ∨ m.2 = 7 ∨ m.2 = 8 ∨ m.2 = 9 ∨ m.2 = 10 := by
    rcases h1.2 with q | q | q | q | q <;> have := Nat.eq_of_beq_eq_true q <;> omega
  unfold m4Kp m4Kq at x
  omega
theorem m4Mu_eq {w w1 : MjW} (h1 : (m4X w1 240 7).toInt = (m4X w 240 7).toInt) (h2 : (m4X w1 240 8).toInt = (m4X w 240 8).toInt) : m4Mu w1 = m4Mu w := by unfold m4Mu; rw [h1, h2]
