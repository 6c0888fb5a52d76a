/-! ===== the small machine's run, and that the machine does the same ===== -/
abbrev MjI : Type := Instr × Nat × Nat × List Nat
def mjSz (w : MjW) : Nat := (w.map (fun q : Nat × List Value => q.2.length)).sum
def mjOne (sc : List Int32) (rt : Option FieldType) (d : Nat) (q : MjI) (pc : Nat) (ls : MjL) (st : List Value) (w : MjW) : Option MjO := match q.2.2.1 with
  | 0 => match mjA q.1 st with | some st1 => some (.inl (pc + 1, ls, st1, w)) | none => none
  | 1 => match mjLd q.1 ls with | some v => some (.inl (pc + v.2, ls, v.1 :: st, w)) | none => none
  | 2 => match mjSo q.1 ls st with | some v => some (.inl (pc + v.2.2, v.1, v.2.1, w)) | none => none
  | 3 => match mjBr q.1 q.2.2.2 pc st with | some v => some (.inl (v.1, ls, v.2, w)) | none => none
  | 4 => match mjH q.1 q.2.2.2 st w with | some v => some (.inl (pc + v.2.2, ls, v.1, v.2.1)) | none => none
  | 5 => match mjPu q.1 q.2.2.2 with | some v => some (.inl (pc + v.2, ls, v.1 :: st, w)) | none => none
  | 6 => match mjC q.1 q.2.2.2 st w with | some v => some (.inr (.inr (v.1, v.2.1, (pc + 3, ls, v.2.2, w)))) | none => none
  | 7 => match d with | 0 => none | _ + 1 => (match mjPr q.1 q.2.2.2 st w with | some v => some (.inl (pc + 3, ls, v.1, v.2)) | none => none)
  | 8 => match mjRt q.1 rt st with | some v => some (.inr (.inl (v, w))) | none => none
  | 9 => match mjX sc q.1 q.2.2.2 st with | some v => some (.inl (pc + v.2, ls, v.1, w)) | none => none
  | _ => none
def mjEnc (as : List Value) : MjL := as.flatMap (fun v => if v.category = 2 then [some v, none] else [some v])
def mjEntry (mL : Nat) (as : List Value) : MjL := mjEnc as ++ List.replicate (mL - (mjEnc as).length) none
abbrev MjT : Type := Nat → Nat → Nat → MjL → List Value → MjW → Option (Option Value × MjW)
/-- one instruction, and what is behind it by ih -/
def mjExS (tb : Nat → Nat → Option MjI) (mt : Nat → Option MjM) (sc : List Int32) (ih : MjT) (d y pc : Nat) (ls : MjL) (st : List Value) (w : MjW) : Option (Option Value × MjW) :=
  match mt y with
  | none => none
  | some M => match tb y pc with
    | none => none
    | some q => match mjOne sc M.2.2.2.1 d q pc ls st w with
      | none => none
      | some (.inl f) => ih d y f.1 f.2.1 f.2.2.1 f.2.2.2
      | some (.inr (.inl r)) => some r
      | some (.inr (.inr g)) => match d with
        | 0 => none
        | d1 + 1 => match mt g.1 with
          | none => none
          | some M1 => if (mjEnc g.2.1).length ≤ M1.2.2.1 ∧ 0 < g.1 then (match ih d1 g.1 0 (mjEntry M1.2.2.1 g.2.1) [] w with
            | none => none
            | some r => ih (d1 + 1) y g.2.2.1 g.2.2.2.1 (r.1.toList ++ g.2.2.2.2.1) r.2) else none
/-- fuel, depth, method, program counter, locals, stack, world -/
noncomputable def mjEx (tb : Nat → Nat → Option MjI) (mt : Nat → Option MjM) (sc : List Int32) (n : Nat) : MjT :=
  Nat.rec (fun _ _ _ _ _ _ => none) (fun _ ih d y pc ls st w => mjExS tb mt sc ih d y pc ls st w) n
theorem mjEx_succ (tb : Nat → Nat → Option MjI) (mt : Nat → Option MjM) (sc : List Int32) (n d y pc : Nat) (ls : MjL) (st : List Value) (w : MjW) : mjEx tb mt sc (n + 1) d y pc ls st w = mjExS tb mt sc (mjEx tb mt sc n) d y pc ls st w := rfl
def mjLen (ins : Instr) : Nat := match ins with
  | .iload _ => 2 | .lload _ => 2 | .aload _ => 2 | .istore _ => 2 | .astore _ => 2 | .iinc _ _ => 3 | .bipush _ => 2 | .sipush _ => 3 | .ldc _ => 2 | .ldc_w _ => 3 | .ldc2_w _ => 3 | .getfield _ => 3 | .putfield _ => 3 | .getstatic _ => 3 | .new _ => 3 | .newarray _ => 2 | .anewarray _ => 3 | .invokevirtual _ => 3 | .invokestatic _ => 3 | .invokespecial _ => 3 | _ => 1
theorem mjA_len {ins : Instr} {st st1 : List Value} (h : mjA ins st = some st1) : mjLen ins = 1 := by
  unfold mjA at h
  split at h <;> first | rfl | cases h
theorem mjLd_len {ins : Instr} {ls : MjL} {v : Value × Nat} (h : mjLd ins ls = some v) : v.2 = mjLen ins := by
  unfold mjLd at h
  split at h <;> (try split at h) <;> (try split at h) <;> first | cases h; rfl | cases h
theorem mjSo_len {ins : Instr} {ls : MjL} {st : List Value} {v : MjL × List Value × Nat} (h : mjSo ins ls st = some v) : v.2.2 = mjLen ins := by
  unfold mjSo at h
  split at h <;> (try split at h) <;> (try split at h) <;> first | (obtain ⟨q, -, e⟩ := Option.map_eq_some_iff.mp h; cases e; rfl) | cases h
theorem mjPu_len {ins : Instr} {inf : List Nat} {v : Value × Nat} (h : mjPu ins inf = some v) : v.2 = mjLen ins := by
  unfold mjPu at h
  split at h <;> (try split at h) <;> (try split at h) <;> first | cases h; rfl | cases h
theorem mjX_len {sc : List Int32} {ins : Instr} {inf : List Nat} {st : List Value} {v : List Value × Nat} (h : mjX sc ins inf st = some v) : v.2 = mjLen ins := by
  unfold mjX at h
  split at h <;> (try split at h) <;> (try split at h) <;> (try split at h) <;> first | cases h; rfl | cases h
set_option maxHeartbeats 1000000 in
theorem mjH_len {ins : Instr} {inf : List Nat} {st : List Value} {w : MjW} {v : List Value × MjW × Nat} (h : mjH ins inf st w = some v) : v.2.2 = mjLen ins ∧ w.length ≤ v.2.1.length ∧ mjSz w ≤ mjSz v.2.1 := by
  have hset : ∀ {a k k2 : Nat} {vs vs2 : List Value}, w[a]? = some (k, vs) → vs2.length = vs.length → w.length ≤ (w.set a (k2, vs2)).length ∧ mjSz w ≤ mjSz (w.set a (k2, vs2)) := by
    intro a k k2 vs vs2 ha hl
    refine ⟨by rw [List.length_set]; exact Nat.le_refl _, ?_⟩
    have e : (w.set a (k2, vs2)).map (fun q : Nat × List Value => q.2.length) = w.map (fun q : Nat × List Value => q.2.length) := by
      apply List.ext_getElem?
      intro i
      rw [List.getElem?_map, List.getElem?_map, List.getElem?_set]
      by_cases h9 : a = i
      · subst h9
        rw [if_pos rfl, if_pos (List.getElem?_eq_some_iff.mp ha).1, ha]
        exact congrArg some hl
      · rw [if_neg h9]
    unfold mjSz
    rw [e]
    exact Nat.le_refl _
  have hpush : ∀ q, w.length ≤ (w ++ [q]).length ∧ mjSz w ≤ mjSz (w ++ [q]) := by
    intro q
    refine ⟨by rw [List.length_append]; omega, ?_⟩
    unfold mjSz
    rw [List.map_append, List.sum_append]; omega
  unfold mjH at h
  split at h <;> (try split at h) <;> (try split at h) <;> (try split at h) <;> (try split at h) <;> (try split at h) <;> first
    | (cases h; exact ⟨rfl, Nat.le_refl _, Nat.le_refl _⟩)
    | (cases h; exact ⟨rfl, hpush _⟩)
    | (cases h; refine ⟨rfl, hset (by assumption) ?_⟩; rw [List.length_set])
    | (rename_i hv; cases h; obtain ⟨-, -, rfl⟩ := mjWr_ok hv; refine ⟨rfl, hset (by assumption) ?_⟩; rw [List.length_set])
    | cases h
theorem mjPr_len {ins : Instr} {inf : List Nat} {st : List Value} {w : MjW} {v : List Value × MjW} (h : mjPr ins inf st w = some v) : mjLen ins = 3 ∧ w.length = v.2.length ∧ mjSz w = mjSz v.2 := by
  unfold mjPr at h
  split at h
  · split at h
    · split at h
      · split at h
        · cases h; exact ⟨rfl, rfl, rfl⟩
        · cases h
      · cases h
    · cases h
  · split at h
    · split at h
      · split at h
        · cases h; exact ⟨rfl, rfl, rfl⟩
        · cases h
      · cases h
    · split at h
      · split at h
        · cases h; exact ⟨rfl, rfl, rfl⟩
        · cases h
      · cases h
    · split at h
      · split at h
        · rename_i hw0 hw1
          split at h
          · rename_i hc
            cases h
            refine ⟨rfl, by rw [List.length_set], ?_⟩
            unfold mjSz
            congr 1
            apply List.ext_getElem?
            intro i
            rw [List.getElem?_map, List.getElem?_map, List.getElem?_set]
            split
            · rename_i e9
              subst e9
              rw [if_pos (List.getElem?_eq_some_iff.mp hw1).1, hw1]
              exact congrArg some (mjCpy_len hc.2.2.2.2.2.1 hc.2.2.2.2.2.2.1).symm
            · rfl
          · cases h
        · cases h
      · cases h
    · cases h
  · cases h
section MjR
variable {tb : Nat → Nat → Option MjI} {mt : Nat → Option MjM} {sc : List Int32}
theorem mjEx_mono : ∀ (n d y pc : Nat) (ls : MjL) (st : List Value) (w : MjW) (r : Option Value) (w1 : MjW), mjEx tb mt sc n d y pc ls st w = some (r, w1) → w.length ≤ w1.length ∧ mjSz w ≤ mjSz w1 := by
  intro n
  induction n with
  | zero => intro d y pc ls st w r w1 h; cases h
  | succ n ih =>
    intro d y pc ls st w r w1 h
    rw [mjEx_succ] at h
    unfold mjExS at h
    split at h
    · cases h
    · split at h
      · cases h
      · rename_i q hq
        split at h
        · cases h
        · rename_i f hf
          have h1 := ih _ _ _ _ _ _ _ _ h
          have h2 : w.length ≤ f.2.2.2.length ∧ mjSz w ≤ mjSz f.2.2.2 := by
            unfold mjOne at hf
            split at hf <;> (try split at hf) <;> (try split at hf) <;> first
              | (cases hf; exact ⟨Nat.le_refl _, Nat.le_refl _⟩)
              | (rename_i hv; cases hf; exact (mjH_len hv).2)
              | (rename_i hv; cases hf; exact ⟨Nat.le_of_eq (mjPr_len hv).2.1, Nat.le_of_eq (mjPr_len hv).2.2⟩)
              | cases hf
          exact ⟨Nat.le_trans h2.1 h1.1, Nat.le_trans h2.2 h1.2⟩
        · rename_i r0 hf
          unfold mjOne at hf
          split at hf <;> (try split at hf) <;> (try split at hf) <;> first
            | (cases hf; cases h; exact ⟨Nat.le_refl _, Nat.le_refl _⟩)
            | cases hf
        · rename_i g hf
          split at h
          · cases h
          · split at h
            · cases h
            · split at h
              · split at h
                · cases h
                · rename_i r1 hr1
                  have h1 := ih _ _ _ _ _ _ _ _ hr1
                  have h2 := ih _ _ _ _ _ _ _ _ h
                  exact ⟨Nat.le_trans h1.1 h2.1, Nat.le_trans h1.2 h2.2⟩
              · cases h
end MjR
