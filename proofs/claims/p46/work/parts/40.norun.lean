/-! ===== runs that don't look at the script ===== -/
def mjNine (st : List Value) : Bool := match st with
  | .retAddr a :: _ => Nat.beq a 9
  | .int _ :: .retAddr a :: _ => Nat.beq a 9
  | _ => false
def mjOneN (rt : Option FieldType) (d : Nat) (q : MjI) (pc : Nat) (ls : MjL) (st : List Value) (w : MjW) : Option MjO := bif Nat.beq q.2.2.1 9 && mjNine st then none else mjOne [] rt d q pc ls st w
section MjNo
variable {sc sc2 : List Int32} {rt : Option FieldType} {d pc : Nat} {ls : MjL} {st : List Value} {w : MjW}
theorem mjX_sc {ins : Instr} {inf : List Nat} {v : List Value × Nat} (hn : mjNine st = false) (h : mjX [] ins inf st = some v) : mjX sc ins inf st = some v := by
  unfold mjX at h ⊢
  split at h
  · exact h
  · exact h
  · split at h
    · rename_i a r
      have hne : ¬ a = 9 := by
        intro e; subst e
        unfold mjNine at hn
        cases hn
      rw [if_neg hne] at h
      rw [if_neg hne]
      exact h
    · cases h
  · exact h
  · split at h
    · split at h
      · rename_i hc; exact absurd hc.2.2 (Nat.not_lt_zero _)
      · cases h
    · cases h
  · cases h
theorem mjOne_sc {q : MjI} (h9 : ¬ q.2.2.1 = 9) : mjOne sc rt d q pc ls st w = mjOne sc2 rt d q pc ls st w := by
  obtain ⟨ins, len, g, inf⟩ := q
  unfold mjOne
  simp only at h9 ⊢
  split
  all_goals first | rfl | (exact absurd rfl h9)
theorem mjOneN_ok {q : MjI} {z : MjO} (h : mjOneN rt d q pc ls st w = some z) : mjOne sc rt d q pc ls st w = some z := by
  unfold mjOneN at h
  cases hb : (Nat.beq q.2.2.1 9 && mjNine st) with
  | true => rw [hb] at h; cases h
  | false =>
    rw [hb, cond_false] at h
    by_cases h9 : q.2.2.1 = 9
    · obtain ⟨ins, len, g, inf⟩ := q
      simp only at h9
      subst h9
      have hn : mjNine st = false := by
        cases e : mjNine st with
        | false => rfl
        | true => rw [e] at hb; cases hb
      unfold mjOne at h ⊢
      simp only at h ⊢
      split at h
      · rename_i v hv
        rw [mjX_sc hn hv]
        exact h
      · cases h
    · rw [mjOne_sc (sc2 := []) h9]; exact h
def mjExSN (ih : MjT) (d y pc : Nat) (ls : MjL) (st : List Value) (w : MjW) : Option (Option Value × MjW) :=
  match mjMt y with
  | none => none
  | some M => match mjTb y pc with
    | none => none
    | some q => match mjOneN M.2.2.2.1 d q pc ls st w with
      | none => none
      | some (.inl f) => ih d y f.1 f.2.1 f.2.2.1 f.2.2.2
      | some (.inr (.inl r)) => some r
      | some (.inr (.inr g)) => match d with
        | 0 => none
        | d1 + 1 => match mjMt g.1 with
          | none => none
          | some M1 => if (mjEnc g.2.1).length ≤ M1.2.2.1 ∧ 0 < g.1 then (match ih d1 g.1 0 (mjEntry M1.2.2.1 g.2.1) [] w with
            | none => none
            | some r => ih (d1 + 1) y g.2.2.1 g.2.2.2.1 (r.1.toList ++ g.2.2.2.2.1) r.2) else none
noncomputable def mjExN (n : Nat) : MjT :=
  Nat.rec (fun _ _ _ _ _ _ => none) (fun _ ih d y pc ls st w => mjExSN ih d y pc ls st w) n
theorem mjExN_succ (n d y pc : Nat) (ls : MjL) (st : List Value) (w : MjW) : mjExN (n + 1) d y pc ls st w = mjExSN (mjExN n) d y pc ls st w := rfl
theorem mjExN_ok : ∀ (n d y pc : Nat) (ls : MjL) (st : List Value) (w : MjW) (r : Option Value × MjW), mjExN n d y pc ls st w = some r → mjEx mjTb mjMt sc n d y pc ls st w = some r := by
  intro n
  induction n with
  | zero => intro d y pc ls st w r h; cases h
  | succ n ih =>
    intro d y pc ls st w r h
    rw [mjExN_succ] at h
    rw [mjEx_succ]
    unfold mjExSN at h
    unfold mjExS
    split at h
    · cases h
    · rename_i M hM
      rw [hM]
      simp only
      split at h
      · cases h
      · rename_i q hq
        rw [hq]
        simp only
        split at h
        · cases h
        · rename_i f hf
          rw [mjOneN_ok hf]
          exact ih _ _ _ _ _ _ _ h
        · rename_i r0 hf
          rw [mjOneN_ok hf]
          exact h
        · rename_i g hf
          rw [mjOneN_ok hf]
          cases d with
          | zero => cases h
          | succ d1 =>
            simp only at h ⊢
            split at h
            · cases h
            · rename_i M1 hM1
              rw [hM1]
              simp only
              split at h
              · rename_i hl
                rw [if_pos hl]
                split at h
                · cases h
                · rename_i r1 hr1
                  rw [ih _ _ _ _ _ _ _ hr1]
                  exact ih _ _ _ _ _ _ _ h
              · cases h
noncomputable def mjSegSN (F d y : Nat) (ih : MjF → Option MjF) (f : MjF) : Option MjF := match mjMt y with
  | none => none
  | some M => match mjTb y f.1 with
    | none => none
    | some q => match mjOneN M.2.2.2.1 d q f.1 f.2.1 f.2.2.1 f.2.2.2 with
      | none => none
      | some (.inl f1) => ih f1
      | some (.inr (.inl _)) => none
      | some (.inr (.inr g)) => (match d with
        | 0 => none
        | d1 + 1 => match mjMt g.1 with
          | none => none
          | some M1 => if (mjEnc g.2.1).length ≤ M1.2.2.1 ∧ 0 < g.1 then (match mjExN F d1 g.1 0 (mjEntry M1.2.2.1 g.2.1) [] f.2.2.2 with
            | none => none
            | some r => ih (g.2.2.1, g.2.2.2.1, r.1.toList ++ g.2.2.2.2.1, r.2)) else none)
noncomputable def mjSegN (F d y : Nat) (k : Nat) : MjF → Option MjF :=
  Nat.rec (fun f => some f) (fun _ ih f => mjSegSN F d y ih f) k
theorem mjSegN_succ (F d y k : Nat) (f : MjF) : mjSegN F d y (k + 1) f = mjSegSN F d y (mjSegN F d y k) f := rfl
theorem mjSegN_go {F d y : Nat} {P : Option Value → MjW → Prop} : ∀ (k : Nat) (f f1 : MjF), mjSegN F d y k f = some f1 → mjGo mjTb mjMt sc d y f1 P → mjGo mjTb mjMt sc d y f P := by
  intro k
  induction k with
  | zero => intro f f1 h hg; cases h; exact hg
  | succ k ih =>
    intro f f1 h hg
    rw [mjSegN_succ] at h
    unfold mjSegSN at h
    split at h
    · cases h
    · rename_i M hM
      split at h
      · cases h
      · rename_i q hq
        split at h
        · cases h
        · rename_i f2 hf
          obtain ⟨n, r, w1, h1, h2⟩ := ih _ _ h hg
          refine ⟨n + 1, r, w1, ?_, h2⟩
          rw [mjEx_succ]
          unfold mjExS
          rw [hM]; simp only
          rw [hq]; simp only
          rw [mjOneN_ok hf]
          exact h1
        · cases h
        · rename_i g hf
          cases d with
          | zero => cases h
          | succ d1 =>
            simp only at h
            split at h
            · cases h
            · rename_i M1 hM1
              split at h
              · rename_i hl
                split at h
                · cases h
                · rename_i r1 hr1
                  obtain ⟨n, r, w1, h1, h2⟩ := ih _ _ h hg
                  refine ⟨(max n F) + 1, r, w1, ?_, h2⟩
                  rw [mjEx_succ]
                  unfold mjExS
                  rw [hM]; simp only
                  rw [hq]; simp only
                  rw [mjOneN_ok hf]; simp only
                  rw [hM1]; simp only
                  rw [if_pos hl, mjEx_le (Nat.le_max_right n F) (mjExN_ok _ _ _ _ _ _ _ _ hr1)]
                  exact mjEx_le (Nat.le_max_left n F) h1
              · cases h
end MjNo
