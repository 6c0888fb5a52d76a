/-! ===== the lines of a text, by hand ===== -/
section M4H4
variable {sc : List Int32} {d y pc : Nat} {ls : MjL} {st : List Value} {w : MjW} {P : Option Value → MjW → Prop} {M : MjM} {inf : List Nat} {len : Nat}
theorem h_ishr {x z : Int32} (hM : mjMt y = some M) (hq : mjTb y pc = some (.ishr, len, 0, inf)) (k : ∀ u : Int32, u = x >>> (z &&& 31) → mjGo mjTb mjMt sc d y (pc + 1, ls, .int u :: st, w) P) : mjGo mjTb mjMt sc d y (pc, ls, .int z :: .int x :: st, w) P := g_A hM hq rfl (k _ rfl)
theorem h_ishl {x z : Int32} (hM : mjMt y = some M) (hq : mjTb y pc = some (.ishl, len, 0, inf)) (k : ∀ u : Int32, u = x <<< (z &&& 31) → mjGo mjTb mjMt sc d y (pc + 1, ls, .int u :: st, w) P) : mjGo mjTb mjMt sc d y (pc, ls, .int z :: .int x :: st, w) P := g_A hM hq rfl (k _ rfl)
theorem h_ior1 {x z : Int32} (hM : mjMt y = some M) (hq : mjTb y pc = some (.ior, len, 0, inf)) (h1 : 0 ≤ x.toInt) (h2 : x.toInt ≤ 1) (h3 : 0 ≤ z.toInt) (h4 : z.toInt ≤ 1) (k : ∀ u : Int32, 0 ≤ u.toInt → u.toInt ≤ 1 → mjGo mjTb mjMt sc d y (pc + 1, ls, .int u :: st, w) P) : mjGo mjTb mjMt sc d y (pc, ls, .int z :: .int x :: st, w) P := by
  obtain ⟨⟨a1, a2⟩, -⟩ := mj_or (m := 1) (by decide) h1 h3 h2 h4
  exact g_A hM hq rfl (k _ a1 a2)
theorem h_bast {a r j n : Nat} {x z : Int32} (hM : mjMt y = some M) (hq : mjTb y pc = some (.bastore, len, 4, inf)) (hT : mjTyd m4S w) (h0 : m4S.1 a = r) (hr : 0 < r) (hc : m4S.2.1 r = 101) (hn : m4S.2.2.1 r = n) (hx : x.toInt = (j : Int)) (hj : j < n) (ht : m4S.2.2.2 r j = (0, -128, 127)) (kk : ∀ (w1 : MjW) (z2 : Int32), mjTyd m4S w1 → m4Up w w1 a j (.int z2) → mjGo mjTb mjMt sc d y (pc + 1, ls, st, w1) P) : mjGo mjTb mjMt sc d y (pc, ls, .int z :: .int x :: .ref a :: st, w) P := by
  obtain ⟨vs, g1, g2⟩ := m4_kd hT h0 hr hc
  have hlt : j < vs.length := by rw [g2, hn]; exact hj
  obtain ⟨i0, i1, i2⟩ := mj_ix (n := vs.length) (x := x) (lo := (j : Int)) (hi := (j : Int)) ⟨by omega, by omega⟩ (by omega) (by omega)
  have e : x.toNatClampNeg = j := by omega
  obtain ⟨z2, ez, hz⟩ := mj_nbyte z
  have hwr : mjWr vs x (.int z2) = some (vs.set j (.int z2)) := by unfold mjWr; rw [if_neg i0, e, if_pos hlt]
  obtain ⟨f1, f2⟩ := mjFld_set (v := .int z2) g1 hlt
  refine g_H (n := 1) (st1 := st) (w1 := w.set a (101, vs.set j (.int z2))) hM hq ?_ (kk _ z2 (hT.set g1 (by rw [h0]; exact m4_hasI ht hz.1 hz.2)) ⟨mjShp_set g1 List.length_set, f1, f2⟩)
  unfold mjH; simp only [g1, if_true, ez, hwr]
end M4H4
theorem m4_b2n : ∀ n : Nat, n < 64 → ((Int32.ofInt (n : Int) >>> ((2 : Int32) &&& 31)) &&& 1).toInt = (Int32.ofInt (n : Int)).toInt / 4 % 2 := by decide +kernel
theorem m4_b2 {x : Int32} (h0 : 0 ≤ x.toInt) (h1 : x.toInt ≤ 63) : ((x >>> ((2 : Int32) &&& 31)) &&& 1).toInt = x.toInt / 4 % 2 := by
  obtain ⟨n, hn, rfl⟩ := m4_n64 h0 h1
  exact m4_b2n n hn
theorem m4_o2n : ∀ n : Nat, n < 64 → ∀ k ∈ [(0 : Int32), 1, 3, 4, 5], (Int32.ofInt (n : Int) ||| ((1 : Int32) <<< (k &&& 31))).toInt / 4 % 2 = (Int32.ofInt (n : Int)).toInt / 4 % 2 := by decide +kernel
theorem m4_o2 {x k : Int32} (h0 : 0 ≤ x.toInt) (h1 : x.toInt ≤ 63) (hk : k ∈ [(0 : Int32), 1, 3, 4, 5]) : (x ||| ((1 : Int32) <<< (k &&& 31))).toInt / 4 % 2 = x.toInt / 4 % 2 := by
  obtain ⟨n, hn, rfl⟩ := m4_n64 h0 h1
  exact m4_o2n n hn k hk
theorem m4_s63 : ∀ k ∈ [(0 : Int32), 1, 3, 4, 5], 0 ≤ ((1 : Int32) <<< (k &&& 31)).toInt ∧ ((1 : Int32) <<< (k &&& 31)).toInt ≤ 63 := by decide +kernel
/-- a call that answers nothing, whatever facts hold behind it -/
theorem m4_void2 {J : MjW → Prop} {sm : MjSm} {as : List Value} {w w1 : MjW} {r : Option Value} (hp : mjPost m4S J sm as w r w1) (ho : sm.2.2.1.all (fun o => Nat.beq o.1.1 7) = true) : r = none ∧ mjInv m4S J w1 ∧ mjKp m4S sm.2.2.2.1 w w1 := by
  obtain ⟨h1, h2, o, h3, h4, -⟩ := hp
  have e := Nat.eq_of_beq_eq_true (List.all_eq_true.mp ho o h3)
  unfold mjRs at h4
  rw [if_pos e] at h4
  exact ⟨h4, h1, h2⟩
/-- a call that answers an int of a range -/
theorem m4_ans {J : MjW → Prop} {sm : MjSm} {as : List Value} {w w1 : MjW} {r : Option Value} {lo hi : Int} (hp : mjPost m4S J sm as w r w1) (ho : sm.2.2.1 = [((0, lo, hi, 0, 0), [], [])]) : mjInv m4S J w1 ∧ mjKp m4S sm.2.2.2.1 w w1 ∧ ∃ u : Int32, r = some (.int u) ∧ lo ≤ u.toInt ∧ u.toInt ≤ hi := by
  obtain ⟨h1, h2, o, h3, h4, -⟩ := hp
  rw [ho] at h3
  rcases List.mem_cons.mp h3 with e | e
  · have n7 : ¬ o.1.1 = 7 := by rw [e]; exact (show ¬ (0 : Nat) = 7 by decide)
    unfold mjRs at h4
    rw [if_neg n7] at h4
    obtain ⟨v, e1, e2⟩ := h4
    rw [e] at e2
    obtain ⟨x, e3, e4, e5⟩ := e2
    rw [e3] at e1
    exact ⟨h1, h2, x, e1, e4, e5⟩
  · cases e
theorem m4_fsI {w : MjW} {a k : Nat} {lo hi : Int} (hf : mjFld w a k = some (.int (m4X w a k))) (h1 : lo ≤ (m4X w a k).toInt) (h2 : (m4X w a k).toInt ≤ hi) : ∃ v, mjFld w a k = some v ∧ mjDn m4S v (0, lo, hi, 0, 0) := ⟨_, hf, _, rfl, h1, h2⟩
/-- a text is being read into bank 1 - b -/
def m4RI (b : Nat) (w : MjW) : Prop := mjTyd m4S w ∧ (m4X w 240 7).toInt ≤ (m4X w 240 3).toInt ∧ (b = 0 ∨ b = 1) ∧ (m4X w 240 43).toInt = 1 - (b : Int) ∧ ((m4X w 240 4).toInt = 0 → ((1 ≤ (m4X w 243 (1 - b)).toInt ∧ (m4X w 243 (1 - b)).toInt ≤ 6) ∧ (1 ≤ (m4X w 244 (1 - b)).toInt ∧ (m4X w 244 (1 - b)).toInt ≤ 5)) ∧ ((m4X w 251 (1 - b)).toInt / 4 % 2 = 1 → m4Sf w (1 - b)) ∧ ((m4X w 251 (1 - b)).toInt / 4 % 2 = 0 → (m4X w 240 44).toInt = 560 * (1 - (b : Int))))
theorem m4RI_Q {b : Nat} {w w1 : MjW} {c : Int} (h : m4RI b w) (hg : (m4X w 240 4).toInt = 0) (T1 : mjTyd m4S w1) (q : m4Q w c w1) : m4RI b w1 := by
  obtain ⟨-, -, h3, h4, h5⟩ := h
  obtain ⟨l, s, c0⟩ := h5 hg
  have X : ∀ a, a = 243 ∨ a = 244 ∨ a = 251 ∨ a = 265 ∨ a = 266 ∨ a = 269 → ∀ k, m4X w1 a k = m4X w a k := by
    intro a ha k
    rcases ha with rfl | rfl | rfl | rfl | rfl | rfl
    · exact q.X m4r_243 rfl (by omega)
    · exact q.X m4r_244 rfl (by omega)
    · exact q.X m4r_251 rfl (by omega)
    · exact q.X m4r_265 rfl (by omega)
    · exact q.X m4r_266 rfl (by omega)
    · exact q.X m4r_269 rfl (by omega)
  have X43 := q.X (a := 240) (k := 43) m4r_240 rfl (by omega)
  have X44 := q.X (a := 240) (k := 44) m4r_240 rfl (by omega)
  refine ⟨T1, q.2.1, h3, by rw [X43]; exact h4, fun _ => ⟨by rw [X 243 (by omega), X 244 (by omega)]; exact l, ?_, ?_⟩⟩
  · rw [X 251 (by omega)]
    intro hb
    exact m4Sf_ag (s hb) (X 265 (by omega) _) (X 266 (by omega) _) (fun k _ _ => X 269 (by omega) k)
  · rw [X 251 (by omega), X44]; exact c0
theorem m4RI_ag {b : Nat} {w w1 : MjW} (h : m4RI b w) (T1 : mjTyd m4S w1) (he : (m4X w1 240 7).toInt ≤ (m4X w1 240 3).toInt) (e : ∀ k, k = 4 ∨ k = 43 ∨ k = 44 → m4X w1 240 k = m4X w 240 k) (hl : (1 ≤ (m4X w 243 (1 - b)).toInt ∧ (m4X w 243 (1 - b)).toInt ≤ 6) → 1 ≤ (m4X w1 243 (1 - b)).toInt ∧ (m4X w1 243 (1 - b)).toInt ≤ 6) (hr : (1 ≤ (m4X w 244 (1 - b)).toInt ∧ (m4X w 244 (1 - b)).toInt ≤ 5) → 1 ≤ (m4X w1 244 (1 - b)).toInt ∧ (m4X w1 244 (1 - b)).toInt ≤ 5) (ht : (m4X w1 251 (1 - b)).toInt / 4 % 2 = (m4X w 251 (1 - b)).toInt / 4 % 2) (X : ∀ a, a = 265 ∨ a = 266 ∨ a = 269 → ∀ k, m4X w1 a k = m4X w a k) : m4RI b w1 := by
  obtain ⟨-, -, h3, h4, h5⟩ := h
  refine ⟨T1, he, h3, by rw [e 43 (by omega)]; exact h4, fun hg => ?_⟩
  rw [e 4 (by omega)] at hg
  obtain ⟨⟨l1, l2⟩, s, c0⟩ := h5 hg
  refine ⟨⟨hl l1, hr l2⟩, ?_, ?_⟩
  · rw [ht]
    intro hb
    exact m4Sf_ag (s hb) (X 265 (by omega) _) (X 266 (by omega) _) (fun k _ _ => X 269 (by omega) k)
  · rw [ht, e 44 (by omega)]; exact c0
theorem m4RI_kp {b : Nat} {w w1 : MjW} (h : m4RI b w) (T1 : mjTyd m4S w1) (he : (m4X w1 240 7).toInt ≤ (m4X w1 240 3).toInt) (k : mjKp m4S [(241, 6), (241, 7), (241, 8), (241, 9), (241, 10)] w w1) : m4RI b w1 := by
  refine m4RI_ag h T1 he (fun j hj => ?_) (fun hl => ?_) (fun hl => ?_) ?_ (fun a ha j => ?_)
  · rcases hj with rfl | rfl | rfl <;> exact k.X ro_240 rfl
  · rw [k.X (a := 243) (k := 1 - b) m4r_243 rfl]; exact hl
  · rw [k.X (a := 244) (k := 1 - b) m4r_244 rfl]; exact hl
  · rw [k.X (a := 251) (k := 1 - b) m4r_251 rfl]
  · rcases ha with rfl | rfl | rfl
    · exact k.X m4r_265 rfl
    · exact k.X m4r_266 rfl
    · exact k.X m4r_269 rfl
/-- a store elsewhere -/
theorem m4RI_oth {b a j : Nat} {w w1 : MjW} {v : Value} (h : m4RI b w) (T1 : mjTyd m4S w1) (U : m4Up w w1 a j v) (ha : (a = 240 ∧ j = 48) ∨ a = 248 ∨ a = 249 ∨ a = 250) : m4RI b w1 := by
  refine m4RI_ag h T1 ?_ (fun k hk => U.X (by omega)) (fun hl => ?_) (fun hl => ?_) ?_ (fun c hc k => U.X (by omega))
  · rw [U.X (b := 240) (j := 7) (by omega), U.X (b := 240) (j := 3) (by omega)]; exact h.2.1
  · rw [U.X (b := 243) (j := 1 - b) (by omega)]; exact hl
  · rw [U.X (b := 244) (j := 1 - b) (by omega)]; exact hl
  · rw [U.X (b := 251) (j := 1 - b) (by omega)]
theorem m4RI_lan {b j : Nat} {w w1 : MjW} {u : Int32} (h : m4RI b w) (T1 : mjTyd m4S w1) (U : m4Up w w1 243 j (.int u)) (hj : j = 1 - b) (h1 : 1 ≤ u.toInt) (h2 : u.toInt ≤ 6) : m4RI b w1 := by
  refine m4RI_ag h T1 ?_ (fun k hk => U.X (by omega)) (fun hl => ?_) (fun hl => ?_) ?_ (fun c hc k => U.X (by omega))
  · rw [U.X (b := 240) (j := 7) (by omega), U.X (b := 240) (j := 3) (by omega)]; exact h.2.1
  · rw [← hj, m4X_of U.2.1]; exact ⟨h1, h2⟩
  · rw [U.X (b := 244) (j := 1 - b) (by omega)]; exact hl
  · rw [U.X (b := 251) (j := 1 - b) (by omega)]
theorem m4RI_row {b j : Nat} {w w1 : MjW} {u : Int32} (h : m4RI b w) (T1 : mjTyd m4S w1) (U : m4Up w w1 244 j (.int u)) (hj : j = 1 - b) (h1 : 1 ≤ u.toInt) (h2 : u.toInt ≤ 5) : m4RI b w1 := by
  refine m4RI_ag h T1 ?_ (fun k hk => U.X (by omega)) (fun hl => ?_) (fun hl => ?_) ?_ (fun c hc k => U.X (by omega))
  · rw [U.X (b := 240) (j := 7) (by omega), U.X (b := 240) (j := 3) (by omega)]; exact h.2.1
  · rw [U.X (b := 243) (j := 1 - b) (by omega)]; exact hl
  · rw [← hj, m4X_of U.2.1]; exact ⟨h1, h2⟩
  · rw [U.X (b := 251) (j := 1 - b) (by omega)]
theorem m4RI_told {b j : Nat} {w w1 : MjW} {u : Int32} (h : m4RI b w) (T1 : mjTyd m4S w1) (U : m4Up w w1 251 j (.int u)) (hj : j = 1 - b) (hu : u.toInt / 4 % 2 = (m4X w 251 (1 - b)).toInt / 4 % 2) : m4RI b w1 := by
  refine m4RI_ag h T1 ?_ (fun k hk => U.X (by omega)) (fun hl => ?_) (fun hl => ?_) ?_ (fun c hc k => U.X (by omega))
  · rw [U.X (b := 240) (j := 7) (by omega), U.X (b := 240) (j := 3) (by omega)]; exact h.2.1
  · rw [U.X (b := 243) (j := 1 - b) (by omega)]; exact hl
  · rw [U.X (b := 244) (j := 1 - b) (by omega)]; exact hl
  · rw [← hu, ← hj, m4X_of U.2.1]
def m4KdB (b : Nat) (m : Nat × Nat) : Bool := decide (¬ (m.1 = 11 ∨ m.1 = 12 ∨ m.1 = 13 ∨ m.1 = 186 ∨ m.1 = 270) ∧ ¬ (m.1 = 241 ∧ (m.2 = 255 ∨ m.2 = 3 ∨ m.2 = 42 ∨ m.2 = 43 ∨ m.2 = 60 ∨ m.2 = 61 ∨ m.2 = 74)) ∧ ¬ ((m.1 = 244 ∨ m.1 = 245 ∨ m.1 = 252 ∨ m.1 = 266 ∨ m.1 = 267) ∧ (m.2 = 255 ∨ m.2 = b)))
theorem m4Kd_kp {b : Nat} {w w1 : MjW} {mods : List (Nat × Nat)} (h : mjKp m4S mods w w1) (hm : mods.all (m4KdB b) = true) : m4Kd b w w1 := by
  refine ⟨h.1, fun a k x _ => h.2 a k (m4_modF (fun m hmem e1 e2 => ?_))⟩
  have h0 : m4KdB b m = true := List.all_eq_true.mp hm m hmem
  unfold m4KdB at h0
  obtain ⟨p1, p2, p3⟩ := of_decide_eq_true h0
  rcases x with x | ⟨rfl, x⟩ | ⟨x, rfl⟩ | ⟨rfl, x⟩
  · rcases x with rfl | rfl | rfl | rfl | rfl | rfl | rfl
    · rw [m4r_10] at e1; omega
    · rw [m4r_11] at e1; omega
    · rw [m4r_12] at e1; omega
    · rw [m4r_201] at e1; omega
    · rw [m4r_202] at e1; omega
    · rw [m4r_203] at e1; omega
    · rw [m4r_185] at e1; omega
  · rw [m4r_240] at e1; omega
  · rcases x with rfl | rfl | rfl | rfl | rfl
    · rw [m4r_243] at e1; omega
    · rw [m4r_244] at e1; omega
    · rw [m4r_251] at e1; omega
    · rw [m4r_265] at e1; omega
    · rw [m4r_266] at e1; omega
  · rw [m4r_269] at e1; omega
/-- the bank that was read becomes the bank -/
theorem m4J_new {t : Int} {b : Nat} {w0 w w1 : MjW} {v : Int32} (h : m4J t w0) (hb0 : m4Bk w0 = b) (k : m4Kd b w0 w) (ri : m4RI b w) (hg : (m4X w 240 4).toInt = 0) (U : m4Up w w1 240 42 (.int v)) (hv : v.toInt = 1 - (b : Int)) : m4J t w1 := by
  have hJ : m4J t w := m4J_Kb h (by rw [hb0]; exact k)
  obtain ⟨⟨j1, j2⟩, ⟨j3, j4⟩, -, j6, -⟩ := hJ
  obtain ⟨-, -, hb, -, r5⟩ := ri
  obtain ⟨l, s, -⟩ := r5 hg
  have eb : m4Bk w1 = 1 - b := by unfold m4Bk; rw [m4X_of U.2.1]; omega
  have X : ∀ a k, a ≠ 240 ∨ k ≠ 42 → m4X w1 a k = m4X w a k := fun a k hn => U.X hn
  have F : ∀ a k, a ≠ 240 ∨ k ≠ 42 → mjFld w1 a k = mjFld w a k := fun a k hn => U.fld hn
  refine ⟨⟨m4F_ag j1 (fun j _ => F 10 j (Or.inl (by decide))) (fun j => X 11 j (Or.inl (by decide))) (fun j => X 12 j (Or.inl (by decide))), m4F_ag j2 (fun j _ => F 201 j (Or.inl (by decide))) (fun j => X 202 j (Or.inl (by decide))) (fun j => X 203 j (Or.inl (by decide)))⟩, ⟨by rw [X 185 8 (Or.inl (by decide))]; exact j3, by rw [X 240 74 (Or.inr (by decide))]; exact j4⟩, by rw [eb, X 243 _ (Or.inl (by decide)), X 244 _ (Or.inl (by decide))]; exact l, by rw [X 240 60 (Or.inr (by decide)), X 240 61 (Or.inr (by decide))]; exact j6, ?_⟩
  rw [eb, X 251 _ (Or.inl (by decide))]
  intro h4
  exact m4Sf_ag (s h4) (X 265 _ (Or.inl (by decide))) (X 266 _ (Or.inl (by decide))) (fun k _ _ => X 269 k (Or.inl (by decide)))
