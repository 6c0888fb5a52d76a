/-! ===== while a text is read: what stays, what is used up ===== -/
def m4Gp (r k : Nat) : Nat × Int × Int := bif Nat.beq r 11 then (bif Nat.beq k 255 then (2, 0, 0) else bif Nat.beq k 0 then (2, 0, 0) else bif Nat.beq k 1 then (2, 0, 0) else bif Nat.beq k 2 then (2, 0, 0) else (0, 0, 0)) else bif Nat.beq r 12 then (2, 0, 0) else bif Nat.beq r 13 then (2, 0, 0) else bif Nat.beq r 186 then (bif Nat.beq k 255 then (2, 0, 0) else bif Nat.beq k 8 then (2, 0, 0) else (0, 0, 0)) else bif Nat.beq r 241 then (bif Nat.beq k 255 then (2, 0, 0) else bif Nat.beq k 3 then (2, 0, 0) else bif Nat.beq k 7 then (2, 0, 0) else bif Nat.beq k 8 then (2, 0, 0) else bif Nat.beq k 42 then (2, 0, 0) else bif Nat.beq k 43 then (2, 0, 0) else bif Nat.beq k 44 then (2, 0, 0) else bif Nat.beq k 45 then (2, 0, 0) else bif Nat.beq k 46 then (2, 0, 0) else bif Nat.beq k 47 then (2, 0, 0) else bif Nat.beq k 60 then (2, 0, 0) else bif Nat.beq k 61 then (2, 0, 0) else bif Nat.beq k 74 then (2, 0, 0) else (0, 0, 0)) else bif Nat.beq r 244 then (2, 0, 0) else bif Nat.beq r 245 then (2, 0, 0) else bif Nat.beq r 248 then (2, 0, 0) else bif Nat.beq r 252 then (2, 0, 0) else bif Nat.beq r 266 then (2, 0, 0) else bif Nat.beq r 267 then (2, 0, 0) else bif Nat.beq r 270 then (2, 0, 0) else bif Nat.beq r 271 then (2, 0, 0) else bif Nat.beq r 272 then (2, 0, 0) else bif Nat.beq r 273 then (2, 0, 0) else (0, 0, 0)
def m4P : MjU := (m4Un, m4Gp)
theorem m4Gp_ok (r k : Nat) (h : (m4Gp r 255).1 = 0) : (m4Gp r k).1 = 0 := by
  unfold m4Gp at h ⊢
  cases e11 : Nat.beq r 11 with
  | true => rw [e11] at h; cases h
  | false =>
  rw [e11, cond_false] at h
  rw [cond_false]
  cases e12 : Nat.beq r 12 with
  | true => rw [e12] at h; cases h
  | false =>
  rw [e12, cond_false] at h
  rw [cond_false]
  cases e13 : Nat.beq r 13 with
  | true => rw [e13] at h; cases h
  | false =>
  rw [e13, cond_false] at h
  rw [cond_false]
  cases e186 : Nat.beq r 186 with
  | true => rw [e186] at h; cases h
  | false =>
  rw [e186, cond_false] at h
  rw [cond_false]
  cases e241 : Nat.beq r 241 with
  | true => rw [e241] at h; cases h
  | false =>
  rw [e241, cond_false] at h
  rw [cond_false]
  cases e244 : Nat.beq r 244 with
  | true => rw [e244] at h; cases h
  | false =>
  rw [e244, cond_false] at h
  rw [cond_false]
  cases e245 : Nat.beq r 245 with
  | true => rw [e245] at h; cases h
  | false =>
  rw [e245, cond_false] at h
  rw [cond_false]
  cases e248 : Nat.beq r 248 with
  | true => rw [e248] at h; cases h
  | false =>
  rw [e248, cond_false] at h
  rw [cond_false]
  cases e252 : Nat.beq r 252 with
  | true => rw [e252] at h; cases h
  | false =>
  rw [e252, cond_false] at h
  rw [cond_false]
  cases e266 : Nat.beq r 266 with
  | true => rw [e266] at h; cases h
  | false =>
  rw [e266, cond_false] at h
  rw [cond_false]
  cases e267 : Nat.beq r 267 with
  | true => rw [e267] at h; cases h
  | false =>
  rw [e267, cond_false] at h
  rw [cond_false]
  cases e270 : Nat.beq r 270 with
  | true => rw [e270] at h; cases h
  | false =>
  rw [e270, cond_false] at h
  rw [cond_false]
  cases e271 : Nat.beq r 271 with
  | true => rw [e271] at h; cases h
  | false =>
  rw [e271, cond_false] at h
  rw [cond_false]
  cases e272 : Nat.beq r 272 with
  | true => rw [e272] at h; cases h
  | false =>
  rw [e272, cond_false] at h
  rw [cond_false]
  cases e273 : Nat.beq r 273 with
  | true => rw [e273] at h; cases h
  | false =>
  rw [e273, cond_false] at h
  rw [cond_false]
/-- how much of the text is left -/
def m4Mu (w : MjW) : Int := 2 * (1600 - (m4X w 240 7).toInt) + (if (m4X w 240 8).toInt = 0 then 0 else 1)
/-- as in w0 where nothing may be stored; no more is left than c -/
def m4Q (w0 : MjW) (c : Int) (w : MjW) : Prop := (∀ a k : Nat, (m4Gp (m4S.1 a) k).1 = 2 → ¬ (a = 240 ∧ (k = 7 ∨ k = 8)) → mjFld w a k = mjFld w0 a k) ∧ (m4X w 240 7).toInt ≤ (m4X w 240 3).toInt ∧ m4Mu w ≤ c
theorem m4Q_refl {w : MjW} (h : (m4X w 240 7).toInt ≤ (m4X w 240 3).toInt) : m4Q w (m4Mu w) w := ⟨fun _ _ _ _ => rfl, h, Int.le_refl _⟩
theorem m4Q.X {w0 w : MjW} {c : Int} (h : m4Q w0 c w) {a k r : Nat} (hr : m4S.1 a = r) (hg : (m4Gp r k).1 = 2) (hn : ¬ (a = 240 ∧ (k = 7 ∨ k = 8))) : m4X w a k = m4X w0 a k := by unfold m4X; rw [h.1 a k (by rw [hr]; exact hg) hn]
theorem m4_protP {w w1 : MjW} {a k : Nat} {v : Value} (hU : m4Up w w1 a k v) (hg : mjGdV (m4Gp (m4S.1 a) k) v) {b j : Nat} (hb : (m4Gp (m4S.1 b) j).1 = 2) : mjFld w1 b j = mjFld w b j := by
  refine hU.fld (Classical.byContradiction (fun hn => ?_))
  have e1 : b = a := Classical.byContradiction (fun q => hn (Or.inl q))
  have e2 : j = k := Classical.byContradiction (fun q => hn (Or.inr q))
  subst e1; subst e2
  unfold mjGdV at hg
  rw [hb] at hg
  exact hg
theorem m4Q_same {w0 w w1 : MjW} {c : Int} (h : m4Q w0 c w) (hs : ∀ a k : Nat, (m4Gp (m4S.1 a) k).1 = 2 → mjFld w1 a k = mjFld w a k) : m4Q w0 c w1 := by
  have X : ∀ k, (m4Gp 241 k).1 = 2 → m4X w1 240 k = m4X w 240 k := fun k hk => by unfold m4X; rw [hs 240 k (by rw [m4r_240]; exact hk)]
  refine ⟨fun a k hk hn => (hs a k hk).trans (h.1 a k hk hn), ?_, ?_⟩
  · rw [X 7 rfl, X 3 rfl]; exact h.2.1
  · unfold m4Mu; rw [X 7 rfl, X 8 rfl]; exact h.2.2
theorem m4Q_ok (w0 : MjW) (c : Int) : mjUok m4S m4P (m4Q w0 c) := by
  refine ⟨m4Un_ok, m4Gp_ok, fun w a cc k vs v ha hk hg hJ => ?_, fun w a cc vs us ha hl hg hJ => ?_⟩
  · obtain ⟨f1, f2⟩ := mjFld_set (v := v) ha hk
    exact m4Q_same hJ (fun b j hb => m4_protP ⟨mjShp_set ha List.length_set, f1, f2⟩ hg hb)
  · refine m4Q_same hJ (fun b j hb => mjFld_setL (fun e => ?_))
    subst e
    have h0 := m4Gp_ok _ j hg
    rw [hb] at h0
    cases h0
/-- reading on uses up what is left -/
theorem m4Mu_go {w w1 : MjW} (h8 : 0 ≤ (m4X w1 240 8).toInt) (h : ((m4X w1 240 8).toInt = 0 ∧ (m4X w 240 7).toInt ≤ (m4X w1 240 7).toInt) ∨ (m4X w 240 7).toInt + 1 ≤ (m4X w1 240 7).toInt) : m4Mu w1 ≤ m4Mu w ∧ ((m4X w 240 8).toInt ≠ 0 → m4Mu w1 < m4Mu w) := by
  unfold m4Mu
  split <;> split <;> omega
theorem H_goC (w0 : MjW) (c : Int) {sm : MjSm} (hs : sm = ([(3, 240, 240, 0, 0)], [], [((7, 0, 0, 0, 0), [], [])], [(241, 6), (241, 7), (241, 8), (241, 9), (241, 10)], 3)) : mjCtr m4S (m4Q w0 c) 181 sm := by
  subst hs
  intro sc w as M hI ha hf hM
  cases (M_181).symm.trans hM
  obtain rfl := m4_args1 ha
  obtain ⟨Tw, q1, q2, q3⟩ := hI
  show mjGo mjTb mjMt sc (2 + 1) 181 (0, [some (.ref 240), none, none], [], w) _
  refine (H_goOn (by decide) Tw q2).imp (fun r w1 hp => ?_)
  obtain ⟨rfl, T1, k1, g1, g2⟩ := hp
  obtain ⟨m1, -⟩ := m4Mu_go (fi_240_8 T1).2.1 g2
  refine m4_post rfl T1 ⟨fun a k hk hn => ?_, g1, Int.le_trans m1 q3⟩ k1 m4_rv
  refine (k1.2 a k (m4_modF (fun m hm e1 e2 => ?_))).trans (q1 a k hk hn)
  have hm2 : m = (241, 6) ∨ m = (241, 7) ∨ m = (241, 8) ∨ m = (241, 9) ∨ m = (241, 10) := by simpa using hm
  rw [← e1] at hk
  have ha : k = 7 ∨ k = 8 → a = 240 := fun _ => by
    have h9 : m4S.1 a = 241 := by rcases hm2 with e | e | e | e | e <;> rw [e] at e1 <;> exact e1.symm
    have key : ∀ a, a < 290 → m4S.1 a = 241 → a = 240 := by decide +kernel
    refine key a ?_ h9
    have h2 : (bif Nat.blt a mjN0 then m4Ro a else 0) = 241 := h9
    cases e : Nat.blt a mjN0 with
    | true => exact Nat.le_of_ble_eq_true e
    | false => rw [e] at h2; cases h2
  rcases hm2 with e | e | e | e | e <;> rw [e] at hk e2
  · rcases e2 with e2 | e2
    · cases e2
    · rw [← e2] at hk; cases hk
  · rcases e2 with e2 | e2
    · cases e2
    · exact hn ⟨ha (Or.inl e2.symm), Or.inl e2.symm⟩
  · rcases e2 with e2 | e2
    · cases e2
    · exact hn ⟨ha (Or.inr e2.symm), Or.inr e2.symm⟩
  · rcases e2 with e2 | e2
    · cases e2
    · rw [← e2] at hk; cases hk
  · rcases e2 with e2 | e2
    · cases e2
    · rw [← e2] at hk; cases hk
