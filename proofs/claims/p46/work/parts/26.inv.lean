/-! ===== what holds between calls beside the types ===== -/
/-- a formula's arrays; a fact's number is one of six -/
def m4F (w : MjW) (f K N T : Nat) : Prop := mjFld w f 0 = some (.ref K) ∧ mjFld w f 1 = some (.ref N) ∧ mjFld w f 2 = some (.ref T) ∧ ∀ i : Nat, (m4X w K i).toInt = 1 → 0 ≤ (m4X w N i).toInt ∧ (m4X w N i).toInt ≤ 5
/-- one step of the rule: height before and behind -/
def m4St (c h h1 : Int) : Prop := (c = 126 → 1 ≤ h ∧ h1 = h) ∧ (97 ≤ c ∧ c ≤ 122 → 0 ≤ h ∧ h ≤ 59 ∧ h1 = h + 1) ∧ (c ≠ 126 → ¬ (97 ≤ c ∧ c ≤ 122) → 2 ≤ h ∧ h1 = h - 1)
/-- the rule of a bank runs, with such heights -/
def m4Sf (w : MjW) (b : Nat) : Prop := (560 * (b : Int) ≤ (m4X w 265 b).toInt ∧ (m4X w 266 b).toInt ≤ 560 * (b : Int) + 560) ∧ ∃ h : Nat → Int, h (m4X w 265 b).toInt.toNat = 0 ∧ (∀ k : Nat, (m4X w 265 b).toInt.toNat ≤ k → (k : Int) < (m4X w 266 b).toInt → m4St (m4X w 269 k).toInt (h k) (h (k + 1)))
def m4Bk (w : MjW) : Nat := (m4X w 240 42).toInt.toNat
def m4J (t : Int) (w : MjW) : Prop := (m4F w 10 11 12 13 ∧ m4F w 201 202 203 204) ∧ ((m4X w 185 8).toInt = t ∧ (m4X w 240 74).toInt = t) ∧ ((1 ≤ (m4X w 243 (m4Bk w)).toInt ∧ (m4X w 243 (m4Bk w)).toInt ≤ 6) ∧ (1 ≤ (m4X w 244 (m4Bk w)).toInt ∧ (m4X w 244 (m4Bk w)).toInt ≤ 5)) ∧ (0 ≤ (m4X w 240 60).toInt ∧ 0 ≤ (m4X w 240 61).toInt ∧ (m4X w 240 60).toInt + (m4X w 240 61).toInt ≤ 40) ∧ ((m4X w 251 (m4Bk w)).toInt / 4 % 2 = 1 → m4Sf w (m4Bk w))
section M4J
variable {w w1 : MjW} {a k : Nat} {v : Value}
theorem m4_prot (hU : m4Up w w1 a k v) (hg : mjGdV (m4Gq (m4S.1 a) k) v) {b j r : Nat} (hr : m4S.1 b = r) (hb : (m4Gq r j).1 = 2) : mjFld w1 b j = mjFld w b j := by
  refine hU.fld (Classical.byContradiction (fun hn => ?_))
  have e1 : b = a := Classical.byContradiction (fun q => hn (Or.inl q))
  have e2 : j = k := Classical.byContradiction (fun q => hn (Or.inr q))
  subst e1; subst e2
  rw [hr] at hg
  unfold mjGdV at hg
  rw [hb] at hg
  exact hg
theorem m4_protX (hU : m4Up w w1 a k v) (hg : mjGdV (m4Gq (m4S.1 a) k) v) {b j r : Nat} (hr : m4S.1 b = r) (hb : (m4Gq r j).1 = 2) : m4X w1 b j = m4X w b j := by unfold m4X; rw [m4_prot hU hg hr hb]
/-- a place whose guard is a range: unchanged, or in the range -/
theorem m4_protR (hU : m4Up w w1 a k v) (hg : mjGdV (m4Gq (m4S.1 a) k) v) {b j r : Nat} {lo hi : Int} (hr : m4S.1 b = r) (hb : m4Gq r j = (1, lo, hi)) : m4X w1 b j = m4X w b j ∨ (lo ≤ (m4X w1 b j).toInt ∧ (m4X w1 b j).toInt ≤ hi) := by
  by_cases e : b = a ∧ j = k
  · obtain ⟨e1, e2⟩ := e
    subst e1; subst e2
    rw [hr, hb] at hg
    obtain ⟨x, rfl, hx⟩ := hg
    right
    rw [hU.at]
    exact hx
  · left
    exact hU.X (Classical.byContradiction (fun hn => e ⟨Classical.byContradiction (fun q => hn (Or.inl q)), Classical.byContradiction (fun q => hn (Or.inr q))⟩))
end M4J
theorem m4r_10 : m4S.1 10 = 11 := by decide +kernel
theorem m4r_11 : m4S.1 11 = 12 := by decide +kernel
theorem m4r_12 : m4S.1 12 = 13 := by decide +kernel
theorem m4r_13 : m4S.1 13 = 14 := by decide +kernel
theorem m4r_201 : m4S.1 201 = 11 := by decide +kernel
theorem m4r_202 : m4S.1 202 = 12 := by decide +kernel
theorem m4r_203 : m4S.1 203 = 13 := by decide +kernel
theorem m4r_204 : m4S.1 204 = 14 := by decide +kernel
theorem m4r_185 : m4S.1 185 = 186 := by decide +kernel
theorem m4r_240 : m4S.1 240 = 241 := by decide +kernel
theorem m4r_243 : m4S.1 243 = 244 := by decide +kernel
theorem m4r_244 : m4S.1 244 = 245 := by decide +kernel
theorem m4r_251 : m4S.1 251 = 252 := by decide +kernel
theorem m4r_265 : m4S.1 265 = 266 := by decide +kernel
theorem m4r_266 : m4S.1 266 = 267 := by decide +kernel
theorem m4r_269 : m4S.1 269 = 270 := by decide +kernel
/-- worlds that agree on what the invariant looks at -/
def m4Ag (w w1 : MjW) : Prop := (∀ b, b = 10 ∨ b = 201 → ∀ j, j = 0 ∨ j = 1 ∨ j = 2 → mjFld w1 b j = mjFld w b j) ∧ (∀ b, b = 11 ∨ b = 12 ∨ b = 202 ∨ b = 203 ∨ b = 251 ∨ b = 265 ∨ b = 266 ∨ b = 269 → ∀ j, m4X w1 b j = m4X w b j) ∧ m4X w1 185 8 = m4X w 185 8 ∧ m4X w1 240 74 = m4X w 240 74 ∧ m4X w1 240 42 = m4X w 240 42
theorem m4F_ag {w w1 : MjW} {f K N T : Nat} (h : m4F w f K N T) (h0 : ∀ j, j = 0 ∨ j = 1 ∨ j = 2 → mjFld w1 f j = mjFld w f j) (h1 : ∀ j, m4X w1 K j = m4X w K j) (h2 : ∀ j, m4X w1 N j = m4X w N j) : m4F w1 f K N T := by
  obtain ⟨a1, a2, a3, a4⟩ := h
  refine ⟨(h0 0 (by omega)).trans a1, (h0 1 (by omega)).trans a2, (h0 2 (by omega)).trans a3, fun i hi => ?_⟩
  rw [h1] at hi
  rw [h2]
  exact a4 i hi
theorem m4Sf_ag {w w1 : MjW} {b : Nat} (h : m4Sf w b) (h1 : m4X w1 265 b = m4X w 265 b) (h2 : m4X w1 266 b = m4X w 266 b) (h3 : ∀ k : Nat, (m4X w 265 b).toInt.toNat ≤ k → (k : Int) < (m4X w 266 b).toInt → m4X w1 269 k = m4X w 269 k) : m4Sf w1 b := by
  obtain ⟨hb, f, f1, f2⟩ := h
  refine ⟨by rw [h1, h2]; exact hb, f, by rw [h1]; exact f1, fun k hk hk2 => ?_⟩
  rw [h1] at hk
  rw [h2] at hk2
  rw [h3 k hk hk2]
  exact f2 k hk hk2
theorem m4J_ag {t : Int} {w w1 : MjW} (h : m4J t w) (hA : m4Ag w w1) (hl : (1 ≤ (m4X w1 243 (m4Bk w)).toInt ∧ (m4X w1 243 (m4Bk w)).toInt ≤ 6) ∧ (1 ≤ (m4X w1 244 (m4Bk w)).toInt ∧ (m4X w1 244 (m4Bk w)).toInt ≤ 5)) (ha : 0 ≤ (m4X w1 240 60).toInt ∧ 0 ≤ (m4X w1 240 61).toInt ∧ (m4X w1 240 60).toInt + (m4X w1 240 61).toInt ≤ 40) : m4J t w1 := by
  obtain ⟨⟨j1, j2⟩, ⟨j3, j4⟩, j5, j6, j7⟩ := h
  obtain ⟨a1, a2, a3, a4, a5⟩ := hA
  have eb : m4Bk w1 = m4Bk w := by unfold m4Bk; rw [a5]
  refine ⟨⟨m4F_ag j1 (a1 10 (by omega)) (a2 11 (by omega)) (a2 12 (by omega)), m4F_ag j2 (a1 201 (by omega)) (a2 202 (by omega)) (a2 203 (by omega))⟩, ⟨by rw [a3]; exact j3, by rw [a4]; exact j4⟩, by rw [eb]; exact hl, ha, fun hb => ?_⟩
  rw [eb, a2 251 (by omega)] at hb
  rw [eb]
  exact m4Sf_ag (j7 hb) (a2 265 (by omega) _) (a2 266 (by omega) _) (fun k _ _ => a2 269 (by omega) k)
theorem m4_ok (t : Int) : mjUok m4S m4U (m4J t) := by
  refine ⟨m4Un_ok, m4Gq_ok, fun w a c k vs v ha hk hg hJ => ?_, fun w a c vs us ha hl hg hJ => ?_⟩
  · obtain ⟨f1, f2⟩ := mjFld_set (v := v) ha hk
    have hU : m4Up w (w.set a (c, vs.set k v)) a k v := ⟨mjShp_set ha List.length_set, f1, f2⟩
    generalize w.set a (c, vs.set k v) = w1 at hU
    have hg : mjGdV (m4Gq (m4S.1 a) k) v := hg
    obtain ⟨-, -, ⟨⟨l1, l2⟩, l3, l4⟩, ⟨c1, c2, c3⟩, -⟩ := id hJ
    refine m4J_ag hJ ⟨fun b hb j hj => ?_, fun b hb j => ?_, m4_protX hU hg m4r_185 rfl, m4_protX hU hg m4r_240 rfl, m4_protX hU hg m4r_240 rfl⟩ ⟨?_, ?_⟩ ?_
    · rcases hb with rfl | rfl <;> rcases hj with rfl | rfl | rfl
      · exact m4_prot hU hg m4r_10 rfl
      · exact m4_prot hU hg m4r_10 rfl
      · exact m4_prot hU hg m4r_10 rfl
      · exact m4_prot hU hg m4r_201 rfl
      · exact m4_prot hU hg m4r_201 rfl
      · exact m4_prot hU hg m4r_201 rfl
    · rcases hb with rfl | rfl | rfl | rfl | rfl | rfl | rfl | rfl
      · exact m4_protX hU hg m4r_11 rfl
      · exact m4_protX hU hg m4r_12 rfl
      · exact m4_protX hU hg m4r_202 rfl
      · exact m4_protX hU hg m4r_203 rfl
      · exact m4_protX hU hg m4r_251 rfl
      · exact m4_protX hU hg m4r_265 rfl
      · exact m4_protX hU hg m4r_266 rfl
      · exact m4_protX hU hg m4r_269 rfl
    · rcases m4_protR hU hg m4r_243 (j := m4Bk w) (lo := 1) (hi := 6) rfl with e | e
      · rw [e]; exact ⟨l1, l2⟩
      · exact e
    · rcases m4_protR hU hg m4r_244 (j := m4Bk w) (lo := 1) (hi := 5) rfl with e | e
      · rw [e]; exact ⟨l3, l4⟩
      · exact e
    · have e1 := m4_protR hU hg m4r_240 (j := 60) (lo := 0) (hi := 0) rfl
      have e2 := m4_protR hU hg m4r_240 (j := 61) (lo := 0) (hi := 0) rfl
      rcases e1 with e1 | e1 <;> rcases e2 with e2 | e2 <;> (try rw [e1]) <;> (try rw [e2]) <;> omega
  · have hne : ∀ b r : Nat, m4S.1 b = r → (m4Gq r 255).1 ≠ 0 → ∀ j, mjFld (w.set a (c, us)) b j = mjFld w b j := by
      intro b r hr hb j
      refine mjFld_setL (fun e => hb ?_)
      subst e
      rw [← hr]; exact hg
    have hnX : ∀ b r : Nat, m4S.1 b = r → (m4Gq r 255).1 ≠ 0 → ∀ j, m4X (w.set a (c, us)) b j = m4X w b j := fun b r hr hb j => by unfold m4X; rw [hne b r hr hb j]
    obtain ⟨-, -, ⟨⟨l1, l2⟩, l3, l4⟩, ⟨c1, c2, c3⟩, -⟩ := id hJ
    refine m4J_ag hJ ⟨fun b hb j hj => ?_, fun b hb j => ?_, hnX 185 _ m4r_185 (by decide) _, hnX 240 _ m4r_240 (by decide) _, hnX 240 _ m4r_240 (by decide) _⟩ ⟨?_, ?_⟩ ?_
    · rcases hb with rfl | rfl
      · exact hne 10 _ m4r_10 (by decide) j
      · exact hne 201 _ m4r_201 (by decide) j
    · rcases hb with rfl | rfl | rfl | rfl | rfl | rfl | rfl | rfl
      · exact hnX _ _ m4r_11 (by decide) j
      · exact hnX _ _ m4r_12 (by decide) j
      · exact hnX _ _ m4r_202 (by decide) j
      · exact hnX _ _ m4r_203 (by decide) j
      · exact hnX _ _ m4r_251 (by decide) j
      · exact hnX _ _ m4r_265 (by decide) j
      · exact hnX _ _ m4r_266 (by decide) j
      · exact hnX _ _ m4r_269 (by decide) j
    · rw [hnX 243 _ m4r_243 (by decide)]; exact ⟨l1, l2⟩
    · rw [hnX 244 _ m4r_244 (by decide)]; exact ⟨l3, l4⟩
    · rw [hnX 240 _ m4r_240 (by decide), hnX 240 _ m4r_240 (by decide)]; exact ⟨c1, c2, c3⟩
