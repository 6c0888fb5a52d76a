/-! ===== rules for runs: one instruction, a range for every int ===== -/
def mjB (x : Int32) (lo hi : Int) : Prop := lo ≤ x.toInt ∧ x.toInt ≤ hi
theorem mjB.mono {x : Int32} {lo hi lo' hi' : Int} (h : mjB x lo hi) (h1 : lo' ≤ lo) (h2 : hi ≤ hi') : mjB x lo' hi' := ⟨Int.le_trans h1 h.1, Int.le_trans h.2 h2⟩
theorem mjB.all (x : Int32) : mjB x (-2147483648) 2147483647 := by
  have h1 := Int32.minValue_le_toInt x
  have h2 := Int32.toInt_le x
  constructor
  · simpa using h1
  · exact Int.le_trans h2 (by decide)
theorem mjB.eq {x y : Int32} {c : Int} (h : mjB x c c) (h2 : mjB y c c) : x = y := by
  apply Int32.toInt_inj.mp
  have := h.1; have := h.2; have := h2.1; have := h2.2
  omega
theorem mjB.isc {x y : Int32} {c : Int} (h : mjB x c c) (h2 : y.toInt = c) : x = y := by
  apply Int32.toInt_inj.mp
  have := h.1; have := h.2
  omega
abbrev MjTy : Type := Nat × Int × Int
/-- the role of an address; of a role the kind, the length, the types of its places -/
abbrev MjSp : Type := (Nat → Nat) × (Nat → Nat) × (Nat → Nat) × (Nat → Nat → MjTy)
def mjHasT (S : MjSp) (v : Value) (t : MjTy) : Prop := match t.1 with
  | 0 => ∃ x : Int32, v = .int x ∧ mjB x t.2.1 t.2.2
  | 1 => ∃ x : Int64, v = .long x
  | 2 => ∃ a : Nat, v = .ref a ∧ (S.1 a : Int) = t.2.1
  | 6 => ∃ a : Nat, v = .ref a
  | _ => ∃ a : Nat, v = .ref a ∧ (a : Int) = t.2.1
def mjTyd (S : MjSp) (w : MjW) : Prop := ∀ a : Nat, 0 < S.1 a → ∃ vs : List Value, w[a]? = some (S.2.1 (S.1 a), vs) ∧ vs.length = S.2.2.1 (S.1 a) ∧ ∀ (j : Nat) (v : Value), vs[j]? = some v → mjHasT S v (S.2.2.2 (S.1 a) j)
def mjFld (w : MjW) (a k : Nat) : Option Value := match w[a]? with | some c => c.2[k]? | none => none
/-- all but one place stay -/
def mjOff (w w1 : MjW) (a k : Nat) : Prop := ∀ b j : Nat, (b = a → j = k → False) → mjFld w1 b j = mjFld w b j
theorem mjFld_set {w : MjW} {a k : Nat} {c : Nat} {vs : List Value} {v : Value} (ha : w[a]? = some (c, vs)) (hk : k < vs.length) : mjFld (w.set a (c, vs.set k v)) a k = some v ∧ mjOff w (w.set a (c, vs.set k v)) a k := by
  have hl := (List.getElem?_eq_some_iff.mp ha).1
  refine ⟨?_, fun b j hbj => ?_⟩
  · unfold mjFld
    rw [List.getElem?_set, if_pos rfl, if_pos hl]
    simp only
    rw [List.getElem?_set, if_pos rfl, if_pos hk]
  · unfold mjFld
    by_cases e : a = b
    · subst e
      rw [List.getElem?_set, if_pos rfl, if_pos hl, ha]
      simp only
      rw [List.getElem?_set_ne (fun e2 => hbj rfl e2.symm)]
    · rw [List.getElem?_set_ne e]
theorem mjTyd.set {S : MjSp} {w : MjW} (h : mjTyd S w) {a k : Nat} {c : Nat} {vs : List Value} {v : Value} (ha : w[a]? = some (c, vs)) (hv : mjHasT S v (S.2.2.2 (S.1 a) k)) : mjTyd S (w.set a (c, vs.set k v)) := by
  intro b hb
  obtain ⟨us, h1, h2, h3⟩ := h b hb
  have hl := (List.getElem?_eq_some_iff.mp ha).1
  by_cases e : a = b
  · subst e
    rw [ha] at h1
    cases h1
    refine ⟨vs.set k v, by rw [List.getElem?_set, if_pos rfl, if_pos hl], by rw [List.length_set]; exact h2, fun j u hj => ?_⟩
    rw [List.getElem?_set] at hj
    split at hj
    · rename_i e2
      subst e2
      split at hj
      · cases hj; exact hv
      · cases hj
    · exact h3 j u hj
  · exact ⟨us, by rw [List.getElem?_set_ne e]; exact h1, h2, h3⟩
section MjG
variable {tb : Nat → Nat → Option MjI} {mt : Nat → Option MjM} {sc : List Int32} {d y pc : Nat} {ls ls1 : MjL} {st st1 : List Value} {w : MjW} {P : Option Value → MjW → Prop} {M : MjM} {inf : List Nat} {ins : Instr} {len : Nat} {S : MjSp}
theorem mjEx_depth (k : Nat) : ∀ (n d y pc : Nat) (ls : MjL) (st : List Value) (w : MjW) (r : Option Value × MjW), mjEx tb mt sc n d y pc ls st w = some r → mjEx tb mt sc n (d + k) y pc ls st w = some r := by
  intro n
  induction n with
  | zero => intro d y pc ls st w r h; cases h
  | succ n ih =>
    intro d y pc ls st w r h
    rw [mjEx_succ] at h ⊢
    unfold mjExS at h ⊢
    split at h
    · cases h
    · rename_i M hM
      try rw [hM]
      try simp only
      split at h
      · cases h
      · rename_i q hq
        try rw [hq]
        try simp only
        have hone : ∀ z, mjOne sc M.2.2.2.1 d q pc ls st w = some z → mjOne sc M.2.2.2.1 (d + k) q pc ls st w = some z := by
          intro z hz
          unfold mjOne at hz ⊢
          split at hz <;> first | exact hz | skip
          cases d with
          | zero => cases hz
          | succ d1 =>
            rw [show d1 + 1 + k = (d1 + k) + 1 by omega]
            exact hz
        split at h
        · cases h
        · rename_i f hf
          rw [hone _ hf]
          exact ih _ _ _ _ _ _ _ h
        · rename_i r0 hf
          rw [hone _ hf]
          exact h
        · rename_i g hf
          rw [hone _ hf]
          cases d with
          | zero => cases h
          | succ d1 =>
            rw [show d1 + 1 + k = (d1 + k) + 1 by omega]
            simp only at h ⊢
            split at h
            · cases h
            · rename_i M1 hM1
              try rw [hM1]
              try simp only
              split at h
              · rename_i hl
                try rw [if_pos hl]
                split at h
                · cases h
                · rename_i r1 hr1
                  rw [ih _ _ _ _ _ _ _ hr1]
                  have h9 := ih _ _ _ _ _ _ _ h
                  rw [show d1 + 1 + k = (d1 + k) + 1 by omega] at h9
                  exact h9
              · cases h
theorem mjGo.deep {d d' : Nat} {f : MjF} (hd : d ≤ d') (h : mjGo tb mt sc d y f P) : mjGo tb mt sc d' y f P := by
  obtain ⟨n, r, w1, h1, h2⟩ := h
  have := mjEx_depth (d' - d) _ _ _ _ _ _ _ _ h1
  rw [show d + (d' - d) = d' by omega] at this
  exact ⟨n, r, w1, this, h2⟩
theorem g_one {q : MjI} {f1 : MjF} (hM : mt y = some M) (hq : tb y pc = some q) (h : mjOne sc M.2.2.2.1 d q pc ls st w = some (.inl f1)) (k : mjGo tb mt sc d y f1 P) : mjGo tb mt sc d y (pc, ls, st, w) P := by
  obtain ⟨n, r, w1, h1, h2⟩ := k
  refine ⟨n + 1, r, w1, ?_, h2⟩
  rw [mjEx_succ]
  unfold mjExS
  rw [hM]; simp only
  rw [hq]; simp only
  rw [h]
  exact h1
theorem g_A (hM : mt y = some M) (hq : tb y pc = some (ins, len, 0, inf)) (h : mjA ins st = some st1) (k : mjGo tb mt sc d y (pc + 1, ls, st1, w) P) : mjGo tb mt sc d y (pc, ls, st, w) P :=
  g_one hM hq (by unfold mjOne; simp only [h]) k
theorem g_L {v : Value} {n : Nat} (hM : mt y = some M) (hq : tb y pc = some (ins, len, 1, inf)) (h : mjLd ins ls = some (v, n)) (k : mjGo tb mt sc d y (pc + n, ls, v :: st, w) P) : mjGo tb mt sc d y (pc, ls, st, w) P :=
  g_one hM hq (by unfold mjOne; simp only [h]) k
theorem g_S {n : Nat} (hM : mt y = some M) (hq : tb y pc = some (ins, len, 2, inf)) (h : mjSo ins ls st = some (ls1, st1, n)) (k : mjGo tb mt sc d y (pc + n, ls1, st1, w) P) : mjGo tb mt sc d y (pc, ls, st, w) P :=
  g_one hM hq (by unfold mjOne; simp only [h]) k
theorem g_B {pc1 : Nat} (hM : mt y = some M) (hq : tb y pc = some (ins, len, 3, inf)) (h : mjBr ins inf pc st = some (pc1, st1)) (k : mjGo tb mt sc d y (pc1, ls, st1, w) P) : mjGo tb mt sc d y (pc, ls, st, w) P :=
  g_one hM hq (by unfold mjOne; simp only [h]) k
theorem g_H {w1 : MjW} {n : Nat} (hM : mt y = some M) (hq : tb y pc = some (ins, len, 4, inf)) (h : mjH ins inf st w = some (st1, w1, n)) (k : mjGo tb mt sc d y (pc + n, ls, st1, w1) P) : mjGo tb mt sc d y (pc, ls, st, w) P :=
  g_one hM hq (by unfold mjOne; simp only [h]) k
theorem g_P {v : Value} {n : Nat} (hM : mt y = some M) (hq : tb y pc = some (ins, len, 5, inf)) (h : mjPu ins inf = some (v, n)) (k : mjGo tb mt sc d y (pc + n, ls, v :: st, w) P) : mjGo tb mt sc d y (pc, ls, st, w) P :=
  g_one hM hq (by unfold mjOne; simp only [h]) k
theorem g_X {n : Nat} (hM : mt y = some M) (hq : tb y pc = some (ins, len, 9, inf)) (h : mjX sc ins inf st = some (st1, n)) (k : mjGo tb mt sc d y (pc + n, ls, st1, w) P) : mjGo tb mt sc d y (pc, ls, st, w) P :=
  g_one hM hq (by unfold mjOne; simp only [h]) k
theorem g_prim {w1 : MjW} (hM : mt y = some M) (hq : tb y pc = some (ins, len, 7, inf)) (h : mjPr ins inf st w = some (st1, w1)) (k : mjGo tb mt sc (d + 1) y (pc + 3, ls, st1, w1) P) : mjGo tb mt sc (d + 1) y (pc, ls, st, w) P :=
  g_one hM hq (by unfold mjOne; simp only [h]) k
theorem g_ret {v : Option Value} (hM : mt y = some M) (hq : tb y pc = some (ins, len, 8, inf)) (h : mjRt ins M.2.2.2.1 st = some v) (k : P v w) : mjGo tb mt sc d y (pc, ls, st, w) P := by
  refine ⟨1, v, w, ?_, k⟩
  rw [mjEx_succ]
  unfold mjExS
  rw [hM]; simp only
  rw [hq]; simp only
  unfold mjOne
  simp only [h]
theorem g_call {y1 : Nat} {as rest : List Value} {M1 : MjM} {d1 : Nat} {ls0 : MjL} {Q : Option Value → MjW → Prop} (hM : mt y = some M) (hq : tb y pc = some (ins, len, 6, inf)) (h : mjC ins inf st w = some (y1, as, rest)) (hM1 : mt y1 = some M1) (hl : (mjEnc as).length ≤ M1.2.2.1) (hy : 0 < y1) (he : mjEntry M1.2.2.1 as = ls0) (hd : d1 ≤ d) (hc : mjGo tb mt sc d1 y1 (0, ls0, [], w) Q) (k : ∀ (r : Option Value) (w1 : MjW), Q r w1 → mjGo tb mt sc (d + 1) y (pc + 3, ls, r.toList ++ rest, w1) P) : mjGo tb mt sc (d + 1) y (pc, ls, st, w) P := by
  obtain ⟨n1, r1, w1, h1, h2⟩ := hc.deep hd
  obtain ⟨n2, r2, w2, h3, h4⟩ := k r1 w1 h2
  refine ⟨max n1 n2 + 1, r2, w2, ?_, h4⟩
  rw [mjEx_succ]
  unfold mjExS
  rw [hM]; simp only
  rw [hq]; simp only
  have e : mjOne sc M.2.2.2.1 (d + 1) (ins, len, 6, inf) pc ls st w = some (.inr (.inr (y1, as, (pc + 3, ls, rest, w)))) := by unfold mjOne; simp only [h]
  rw [e]
  simp only
  rw [hM1]; simp only
  rw [if_pos ⟨hl, hy⟩, he, mjEx_le (Nat.le_max_left n1 n2) h1]
  exact mjEx_le (Nat.le_max_right n1 n2) h3
theorem mjGo.imp {f : MjF} {Q : Option Value → MjW → Prop} (h : mjGo tb mt sc d y f P) (hi : ∀ r w1, P r w1 → Q r w1) : mjGo tb mt sc d y f Q := by
  obtain ⟨n, r, w1, h1, h2⟩ := h
  exact ⟨n, r, w1, h1, hi r w1 h2⟩
-- ints
theorem g_iconst {n : Int} (hM : mt y = some M) (hq : tb y pc = some (.iconst n, len, 0, inf)) (hn : (Int32.ofInt n).toInt = n) (k : ∀ z : Int32, mjB z n n → mjGo tb mt sc d y (pc + 1, ls, .int z :: st, w) P) : mjGo tb mt sc d y (pc, ls, st, w) P :=
  g_A hM hq rfl (k _ ⟨Int.le_of_eq hn.symm, Int.le_of_eq hn⟩)
theorem g_push {n : Nat} {z0 : Int32} {c : Int} (hM : mt y = some M) (hq : tb y pc = some (ins, len, 5, inf)) (h : mjPu ins inf = some (.int z0, n)) (hn : z0.toInt = c) (k : ∀ z : Int32, mjB z c c → mjGo tb mt sc d y (pc + n, ls, .int z :: st, w) P) : mjGo tb mt sc d y (pc, ls, st, w) P :=
  g_P hM hq h (k _ ⟨Int.le_of_eq hn.symm, Int.le_of_eq hn⟩)
theorem mj_small {a : Int} (h1 : -2147483648 ≤ a) (h2 : a ≤ 2147483647) : a.bmod (2 ^ 32) = a := by
  apply Int.bmod_eq_of_le
  · show -(2 ^ 32 / 2 : Int) ≤ a; omega
  · show a < (2 ^ 32 + 1) / 2; omega
theorem mj_add {x y : Int32} (h1 : -2147483648 ≤ x.toInt + y.toInt) (h2 : x.toInt + y.toInt ≤ 2147483647) : (x + y).toInt = x.toInt + y.toInt := by
  rw [Int32.toInt_add, mj_small h1 h2]
theorem mj_sub {x y : Int32} (h1 : -2147483648 ≤ x.toInt - y.toInt) (h2 : x.toInt - y.toInt ≤ 2147483647) : (x - y).toInt = x.toInt - y.toInt := by
  rw [Int32.toInt_sub, mj_small h1 h2]
theorem mj_mul {x y : Int32} (h1 : -2147483648 ≤ x.toInt * y.toInt) (h2 : x.toInt * y.toInt ≤ 2147483647) : (x * y).toInt = x.toInt * y.toInt := by
  rw [Int32.toInt_mul, mj_small h1 h2]
theorem g_iadd {x z : Int32} {a b a' b' : Int} (hM : mt y = some M) (hq : tb y pc = some (.iadd, len, 0, inf)) (hx : mjB x a b) (hz : mjB z a' b') (h1 : -2147483648 ≤ a + a') (h2 : b + b' ≤ 2147483647) (k : ∀ u : Int32, u.toInt = x.toInt + z.toInt → mjB u (a + a') (b + b') → mjGo tb mt sc d y (pc + 1, ls, .int u :: st, w) P) : mjGo tb mt sc d y (pc, ls, .int z :: .int x :: st, w) P := by
  have e : (x + z).toInt = x.toInt + z.toInt := mj_add (by have := hx.1; have := hz.1; omega) (by have := hx.2; have := hz.2; omega)
  exact g_A hM hq rfl (k _ e (by unfold mjB; rw [e]; exact ⟨Int.add_le_add hx.1 hz.1, Int.add_le_add hx.2 hz.2⟩))
theorem g_isub {x z : Int32} {a b a' b' : Int} (hM : mt y = some M) (hq : tb y pc = some (.isub, len, 0, inf)) (hx : mjB x a b) (hz : mjB z a' b') (h1 : -2147483648 ≤ a - b') (h2 : b - a' ≤ 2147483647) (k : ∀ u : Int32, u.toInt = x.toInt - z.toInt → mjB u (a - b') (b - a') → mjGo tb mt sc d y (pc + 1, ls, .int u :: st, w) P) : mjGo tb mt sc d y (pc, ls, .int z :: .int x :: st, w) P := by
  have e : (x - z).toInt = x.toInt - z.toInt := mj_sub (by have := hx.1; have := hz.2; omega) (by have := hx.2; have := hz.1; omega)
  exact g_A hM hq rfl (k _ e (by unfold mjB; rw [e]; have := hx.1; have := hx.2; have := hz.1; have := hz.2; omega))
/-- any answer of an instruction on two ints, of which nothing is wanted -/
theorem g_two {x z : Int32} {f : Int32 → Int32 → Int32} (hM : mt y = some M) (hq : tb y pc = some (ins, len, 0, inf)) (hf : mjA ins (.int z :: .int x :: st) = some (.int (f x z) :: st)) (k : ∀ u : Int32, u = f x z → mjGo tb mt sc d y (pc + 1, ls, .int u :: st, w) P) : mjGo tb mt sc d y (pc, ls, .int z :: .int x :: st, w) P :=
  g_A hM hq hf (k _ rfl)
theorem g_iinc {x : Int32} {i : Nat} {n a b : Int} (hM : mt y = some M) (hq : tb y pc = some (.iinc i n, len, 2, inf)) (hx : mjB x a b) (hl : ls[i]? = some (some (.int x))) (hn : (Int32.ofInt n).toInt = n) (h1 : -2147483648 ≤ a + n) (h2 : b + n ≤ 2147483647) (hs : mjFree ls i = true) (k : ∀ u : Int32, u.toInt = x.toInt + n → mjB u (a + n) (b + n) → mjGo tb mt sc d y (pc + 3, ls.set i (some (.int u)), st, w) P) : mjGo tb mt sc d y (pc, ls, st, w) P := by
  have hi : i < ls.length := (List.getElem?_eq_some_iff.mp hl).1
  have e : (x + Int32.ofInt n).toInt = x.toInt + n := by
    have := hx.1; have := hx.2
    rw [mj_add (by rw [hn]; omega) (by rw [hn]; omega), hn]
  exact g_S (ls1 := ls.set i (some (.int (x + Int32.ofInt n)))) hM hq (by unfold mjSo; simp only [hl]; unfold mjS1; rw [if_pos ⟨hi, hs⟩]; rfl) (k _ e (by unfold mjB; rw [e]; have := hx.1; have := hx.2; omega))
theorem mjCi_eq {x z : Int32} : mjCi .eq x z = true ↔ x.toInt = z.toInt := by simp [mjCi, Int32.toInt_inj]
theorem mjCi_ne {x z : Int32} : mjCi .ne x z = true ↔ ¬ x.toInt = z.toInt := by simp [mjCi, Int32.toInt_inj]
theorem mjCi_lt {x z : Int32} : mjCi .lt x z = true ↔ x.toInt < z.toInt := by simp [mjCi, Int32.lt_iff_toInt_lt]
theorem mjCi_ge {x z : Int32} : mjCi .ge x z = true ↔ z.toInt ≤ x.toInt := by simp [mjCi, Int32.le_iff_toInt_le]
theorem mjCi_gt {x z : Int32} : mjCi .gt x z = true ↔ z.toInt < x.toInt := by simp [mjCi, Int32.lt_iff_toInt_lt]
theorem mjCi_le {x z : Int32} : mjCi .le x z = true ↔ x.toInt ≤ z.toInt := by simp [mjCi, Int32.le_iff_toInt_le]
theorem mjCz_eq {x : Int32} : mjCz .eq x = true ↔ x.toInt = 0 := by simp [mjCz, ← Int32.toInt_inj]
theorem mjCz_ne {x : Int32} : mjCz .ne x = true ↔ ¬ x.toInt = 0 := by simp [mjCz, ← Int32.toInt_inj]
theorem mjCz_lt {x : Int32} : mjCz .lt x = true ↔ x.toInt < 0 := by simp [mjCz, Int32.lt_iff_toInt_lt]
theorem mjCz_ge {x : Int32} : mjCz .ge x = true ↔ 0 ≤ x.toInt := by simp [mjCz, Int32.le_iff_toInt_le]
theorem mjCz_gt {x : Int32} : mjCz .gt x = true ↔ 0 < x.toInt := by simp [mjCz, Int32.lt_iff_toInt_lt]
theorem mjCz_le {x : Int32} : mjCz .le x = true ↔ x.toInt ≤ 0 := by simp [mjCz, Int32.le_iff_toInt_le]
theorem g_icmp {x z : Int32} {c : ClassFile.Cond} {off : Int} {t : Nat} {T : Prop} (hM : mt y = some M) (hq : tb y pc = some (.if_icmp c off, len, 3, [t])) (hT : mjCi c x z = true ↔ T) (kt : T → mjGo tb mt sc d y (t, ls, st, w) P) (kf : ¬ T → mjGo tb mt sc d y (pc + 3, ls, st, w) P) : mjGo tb mt sc d y (pc, ls, .int z :: .int x :: st, w) P := by
  cases h : mjCi c x z with
  | true => exact g_B (pc1 := t) hM hq (by unfold mjBr; simp only [h, cond_true]) (kt (hT.mp h))
  | false => exact g_B (pc1 := pc + 3) hM hq (by unfold mjBr; simp only [h, cond_false]) (kf (fun q => by rw [hT.mpr q] at h; cases h))
theorem g_if {x : Int32} {c : ClassFile.Cond} {off : Int} {t : Nat} {T : Prop} (hM : mt y = some M) (hq : tb y pc = some (.ifCond c off, len, 3, [t])) (hT : mjCz c x = true ↔ T) (kt : T → mjGo tb mt sc d y (t, ls, st, w) P) (kf : ¬ T → mjGo tb mt sc d y (pc + 3, ls, st, w) P) : mjGo tb mt sc d y (pc, ls, .int x :: st, w) P := by
  cases h : mjCz c x with
  | true => exact g_B (pc1 := t) hM hq (by unfold mjBr; simp only [h, cond_true]) (kt (hT.mp h))
  | false => exact g_B (pc1 := pc + 3) hM hq (by unfold mjBr; simp only [h, cond_false]) (kf (fun q => by rw [hT.mpr q] at h; cases h))
theorem g_goto {off : Int} {t : Nat} (hM : mt y = some M) (hq : tb y pc = some (.goto off, len, 3, [t])) (k : mjGo tb mt sc d y (t, ls, st, w) P) : mjGo tb mt sc d y (pc, ls, st, w) P :=
  g_B hM hq rfl k
-- the typed world
theorem mjTyd.at {a r : Nat} (hI : mjTyd S w) (ha : S.1 a = r) (hr : 0 < r) : ∃ vs : List Value, w[a]? = some (S.2.1 r, vs) ∧ vs.length = S.2.2.1 r ∧ ∀ (j : Nat) (v : Value), vs[j]? = some v → mjHasT S v (S.2.2.2 r j) := by
  subst ha
  exact hI a hr
theorem g_get {a r ci k idx : Nat} {tl : List Nat} (hM : mt y = some M) (hq : tb y pc = some (.getfield idx, len, 4, ci :: k :: tl)) (hI : mjTyd S w) (ha : S.1 a = r) (hr : 0 < r) (hk : S.2.1 r = ci) (hl : k < S.2.2.1 r) (kk : ∀ v : Value, mjFld w a k = some v → mjHasT S v (S.2.2.2 r k) → mjGo tb mt sc d y (pc + 3, ls, v :: st, w) P) : mjGo tb mt sc d y (pc, ls, .ref a :: st, w) P := by
  obtain ⟨vs, h1, h2, h3⟩ := hI.at ha hr
  have hv : vs[k]? = some vs[k] := List.getElem?_eq_getElem (by rw [h2]; exact hl)
  refine g_H (n := 3) (st1 := vs[k] :: st) (w1 := w) hM hq ?_ (kk _ (by unfold mjFld; rw [h1]; exact hv) (h3 k _ hv))
  unfold mjH
  simp only [h1, hk, if_true, hv]
theorem g_getI {a r ci k idx : Nat} {tl : List Nat} {lo hi : Int} (hM : mt y = some M) (hq : tb y pc = some (.getfield idx, len, 4, ci :: k :: tl)) (hI : mjTyd S w) (ha : S.1 a = r) (hr : 0 < r) (hk : S.2.1 r = ci) (hl : k < S.2.2.1 r) (ht : S.2.2.2 r k = (0, lo, hi)) (kk : ∀ x : Int32, mjFld w a k = some (.int x) → mjB x lo hi → mjGo tb mt sc d y (pc + 3, ls, .int x :: st, w) P) : mjGo tb mt sc d y (pc, ls, .ref a :: st, w) P :=
  g_get hM hq hI ha hr hk hl (fun v hv hT => by rw [ht] at hT; obtain ⟨x, rfl, hx⟩ := hT; exact kk x hv hx)
theorem g_getR {a r ci k idx c : Nat} {tl : List Nat} {z : Int} (hM : mt y = some M) (hq : tb y pc = some (.getfield idx, len, 4, ci :: k :: tl)) (hI : mjTyd S w) (ha : S.1 a = r) (hr : 0 < r) (hk : S.2.1 r = ci) (hl : k < S.2.2.1 r) (ht : S.2.2.2 r k = (3, (c : Int), z)) (kk : mjFld w a k = some (.ref c) → mjGo tb mt sc d y (pc + 3, ls, .ref c :: st, w) P) : mjGo tb mt sc d y (pc, ls, .ref a :: st, w) P :=
  g_get hM hq hI ha hr hk hl (fun v hv hT => by rw [ht] at hT; obtain ⟨x, rfl, hx⟩ := hT; have : x = c := Int.ofNat.inj hx; subst this; exact kk hv)
theorem g_getO {a r ci k idx c : Nat} {tl : List Nat} {z : Int} (hM : mt y = some M) (hq : tb y pc = some (.getfield idx, len, 4, ci :: k :: tl)) (hI : mjTyd S w) (ha : S.1 a = r) (hr : 0 < r) (hk : S.2.1 r = ci) (hl : k < S.2.2.1 r) (ht : S.2.2.2 r k = (2, (c : Int), z)) (kk : ∀ b : Nat, mjFld w a k = some (.ref b) → S.1 b = c → mjGo tb mt sc d y (pc + 3, ls, .ref b :: st, w) P) : mjGo tb mt sc d y (pc, ls, .ref a :: st, w) P :=
  g_get hM hq hI ha hr hk hl (fun v hv hT => by rw [ht] at hT; obtain ⟨x, rfl, hx⟩ := hT; exact kk x hv (Int.ofNat.inj hx))
theorem g_getF {a r ci k idx : Nat} {tl : List Nat} {v : Value} (hM : mt y = some M) (hq : tb y pc = some (.getfield idx, len, 4, ci :: k :: tl)) (hI : mjTyd S w) (ha : S.1 a = r) (hr : 0 < r) (hk : S.2.1 r = ci) (hl : k < S.2.2.1 r) (hv : mjFld w a k = some v) (kk : mjGo tb mt sc d y (pc + 3, ls, v :: st, w) P) : mjGo tb mt sc d y (pc, ls, .ref a :: st, w) P :=
  g_get hM hq hI ha hr hk hl (fun u hu _ => by rw [hv] at hu; cases hu; exact kk)
theorem g_put {a r ci k idx : Nat} {tl : List Nat} {v : Value} (hM : mt y = some M) (hq : tb y pc = some (.putfield idx, len, 4, ci :: k :: tl)) (hI : mjTyd S w) (ha : S.1 a = r) (hr : 0 < r) (hk : S.2.1 r = ci) (hl : k < S.2.2.1 r) (hf : mjFit (mjTyp ci k) v = true) (ht : mjHasT S v (S.2.2.2 r k)) (kk : ∀ w1 : MjW, mjTyd S w1 → mjFld w1 a k = some v → mjOff w w1 a k → mjGo tb mt sc d y (pc + 3, ls, st, w1) P) : mjGo tb mt sc d y (pc, ls, v :: .ref a :: st, w) P := by
  obtain ⟨vs, h1, h2, h3⟩ := hI.at ha hr
  rw [hk] at h1
  obtain ⟨f1, f2⟩ := mjFld_set (v := v) h1 (k := k) (by rw [h2]; exact hl)
  refine g_H (n := 3) (st1 := st) (w1 := w.set a (ci, vs.set k v)) hM hq ?_ (kk _ (hI.set h1 (by rw [ha]; exact ht)) f1 f2)
  unfold mjH
  simp only [h1]
  rw [if_pos ⟨trivial, by rw [h2]; exact hl, hf⟩]
/-- which array instruction reads which kind -/
def mjAld (ins : Instr) (k : Nat) : Bool := match ins with
  | .iaload => Nat.beq k 100
  | .baload => Nat.beq k 101 || Nat.beq k 102
  | .laload => Nat.beq k 103
  | .aaload => Nat.beq k 104
  | _ => false
theorem mj_ix {x : Int32} {n : Nat} {lo hi : Int} (hx : mjB x lo hi) (h0 : 0 ≤ lo) (h1 : hi < n) : ¬ x < 0 ∧ x.toNatClampNeg < n ∧ (x.toNatClampNeg : Int) = x.toInt := by
  have a1 := hx.1; have a2 := hx.2
  have e : (x.toNatClampNeg : Int) = x.toInt := by
    show ((x.toInt.toNat : Nat) : Int) = x.toInt
    omega
  refine ⟨fun h => ?_, by omega, e⟩
  have := Int32.lt_iff_toInt_lt.mp h
  simp at this
  omega
theorem g_ald {a r kd : Nat} {x : Int32} {lo hi : Int} (hM : mt y = some M) (hq : tb y pc = some (ins, len, 4, inf)) (hI : mjTyd S w) (ha : S.1 a = r) (hr : 0 < r) (hk : S.2.1 r = kd) (hi2 : mjAld ins kd = true) (hx : mjB x lo hi) (h0 : 0 ≤ lo) (h1 : hi < S.2.2.1 r) (kk : ∀ (j : Nat) (v : Value), (j : Int) = x.toInt → mjFld w a j = some v → mjHasT S v (S.2.2.2 r j) → mjGo tb mt sc d y (pc + 1, ls, v :: st, w) P) : mjGo tb mt sc d y (pc, ls, .int x :: .ref a :: st, w) P := by
  obtain ⟨vs, g1, g2, g3⟩ := hI.at ha hr
  obtain ⟨i0, i1, i2⟩ := mj_ix (n := S.2.2.1 r) hx h0 h1
  have hlt : x.toNatClampNeg < vs.length := by rw [g2]; exact i1
  have hv : vs[x.toNatClampNeg]? = some vs[x.toNatClampNeg] := List.getElem?_eq_getElem hlt
  have hrd : mjRd vs x = some vs[x.toNatClampNeg] := by unfold mjRd; rw [if_neg i0]; exact hv
  rw [hk] at g1
  refine g_H (n := 1) (st1 := vs[x.toNatClampNeg] :: st) (w1 := w) hM hq ?_ (kk x.toNatClampNeg _ i2 (by unfold mjFld; rw [g1]; exact hv) (g3 _ _ hv))
  unfold mjAld at hi2
  split at hi2
  · have := Nat.eq_of_beq_eq_true hi2; subst this
    unfold mjH; simp only [g1, if_true, hrd]
  · have e : kd = 101 ∨ kd = 102 := by
      rcases Bool.or_eq_true_iff.mp hi2 with q | q
      · exact Or.inl (Nat.eq_of_beq_eq_true q)
      · exact Or.inr (Nat.eq_of_beq_eq_true q)
    unfold mjH; simp only [g1]; rw [if_pos e, hrd]
  · have := Nat.eq_of_beq_eq_true hi2; subst this
    unfold mjH; simp only [g1, if_true, hrd]
  · have := Nat.eq_of_beq_eq_true hi2; subst this
    unfold mjH; simp only [g1, if_true, hrd]
  · cases hi2
theorem g_ast {a r : Nat} {x z : Int32} {lo hi : Int} (hM : mt y = some M) (hq : tb y pc = some (.iastore, len, 4, inf)) (hI : mjTyd S w) (ha : S.1 a = r) (hr : 0 < r) (hk : S.2.1 r = 100) (hx : mjB x lo hi) (h0 : 0 ≤ lo) (h1 : hi < S.2.2.1 r) (ht : ∀ j : Nat, (j : Int) = x.toInt → mjHasT S (.int z) (S.2.2.2 r j)) (kk : ∀ (w1 : MjW) (j : Nat), (j : Int) = x.toInt → mjTyd S w1 → mjFld w1 a j = some (.int z) → mjOff w w1 a j → mjGo tb mt sc d y (pc + 1, ls, st, w1) P) : mjGo tb mt sc d y (pc, ls, .int z :: .int x :: .ref a :: st, w) P := by
  obtain ⟨vs, g1, g2, g3⟩ := hI.at ha hr
  obtain ⟨i0, i1, i2⟩ := mj_ix (n := S.2.2.1 r) hx h0 h1
  have hlt : x.toNatClampNeg < vs.length := by rw [g2]; exact i1
  have hwr : mjWr vs x (.int z) = some (vs.set x.toNatClampNeg (.int z)) := by unfold mjWr; rw [if_neg i0, if_pos hlt]
  rw [hk] at g1
  obtain ⟨f1, f2⟩ := mjFld_set (v := .int z) g1 hlt
  refine g_H (n := 1) (st1 := st) (w1 := w.set a (100, vs.set x.toNatClampNeg (.int z))) hM hq ?_ (kk _ x.toNatClampNeg i2 (hI.set g1 (by rw [ha]; exact ht _ i2)) f1 f2)
  unfold mjH; simp only [g1, if_true, hwr]
end MjG
