/-! ===== runs of the small machine: more fuel, a part of a world, pieces of a run ===== -/
section MjPure
variable {tb : Nat → Nat → Option MjI} {mt : Nat → Option MjM} {sc : List Int32}
theorem mjEx_fuel (k : Nat) : ∀ (n d y pc : Nat) (ls : MjL) (st : List Value) (w : MjW) (r : Option Value × MjW), mjEx tb mt sc n d y pc ls st w = some r → mjEx tb mt sc (n + k) d y pc ls st w = some r := by
  intro n
  induction n with
  | zero => intro d y pc ls st w r h; cases h
  | succ n ih =>
    intro d y pc ls st w r h
    rw [show n + 1 + k = (n + k) + 1 by omega]
    rw [mjEx_succ] at h ⊢
    unfold mjExS at h ⊢
    split at h
    · cases h
    · rename_i M hM
      try rw [hM]
      try simp only
      split at h
      · cases h
      · rename_i q hq
        try rw [hq]
        try simp only
        split at h
        · cases h
        · rename_i f hf
          try rw [hf]
          exact ih _ _ _ _ _ _ _ h
        · rename_i r0 hf
          try rw [hf]
          exact h
        · rename_i g hf
          try rw [hf]
          cases d with
          | zero => cases h
          | succ d1 =>
            try simp only at h ⊢
            split at h
            · cases h
            · rename_i M1 hM1
              try rw [hM1]
              try simp only
              split at h
              · rename_i hl
                try rw [if_pos hl]
                split at h
                · cases h
                · rename_i r1 hr1
                  rw [ih _ _ _ _ _ _ _ hr1]
                  exact ih _ _ _ _ _ _ _ h
              · cases h
theorem mjEx_le {n n' d y pc : Nat} {ls : MjL} {st : List Value} {w : MjW} {r : Option Value × MjW} (hn : n ≤ n') (h : mjEx tb mt sc n d y pc ls st w = some r) : mjEx tb mt sc n' d y pc ls st w = some r := by
  have := mjEx_fuel (n' - n) _ _ _ _ _ _ _ _ h
  rw [show n + (n' - n) = n' by omega] at this
  exact this
noncomputable def mjSegS (tb : Nat → Nat → Option MjI) (mt : Nat → Option MjM) (sc : List Int32) (F d y : Nat) (ih : MjF → Option MjF) (f : MjF) : Option MjF := match mt y with
  | none => none
  | some M => match tb y f.1 with
    | none => none
    | some q => match mjOne sc M.2.2.2.1 d q f.1 f.2.1 f.2.2.1 f.2.2.2 with
      | none => none
      | some (.inl f1) => ih f1
      | some (.inr (.inl _)) => none
      | some (.inr (.inr g)) => (match d with
        | 0 => none
        | d1 + 1 => match mt g.1 with
          | none => none
          | some M1 => if (mjEnc g.2.1).length ≤ M1.2.2.1 ∧ 0 < g.1 then (match mjEx tb mt sc F d1 g.1 0 (mjEntry M1.2.2.1 g.2.1) [] f.2.2.2 with
            | none => none
            | some r => ih (g.2.2.1, g.2.2.2.1, r.1.toList ++ g.2.2.2.2.1, r.2)) else none)
/-- so many instructions of one frame; its calls run to their ends -/
noncomputable def mjSeg (tb : Nat → Nat → Option MjI) (mt : Nat → Option MjM) (sc : List Int32) (F d y : Nat) (k : Nat) : MjF → Option MjF :=
  Nat.rec (fun f => some f) (fun _ ih f => mjSegS tb mt sc F d y ih f) k
theorem mjSeg_succ (F d y k : Nat) (f : MjF) : mjSeg tb mt sc F d y (k + 1) f = mjSegS tb mt sc F d y (mjSeg tb mt sc F d y k) f := rfl
def mjGo (tb : Nat → Nat → Option MjI) (mt : Nat → Option MjM) (sc : List Int32) (d y : Nat) (f : MjF) (P : Option Value → MjW → Prop) : Prop := ∃ (n : Nat) (r : Option Value) (w1 : MjW), mjEx tb mt sc n d y f.1 f.2.1 f.2.2.1 f.2.2.2 = some (r, w1) ∧ P r w1
theorem mjSeg_go {F d y : Nat} {P : Option Value → MjW → Prop} : ∀ (k : Nat) (f f1 : MjF), mjSeg tb mt sc F d y k f = some f1 → mjGo tb mt sc d y f1 P → mjGo tb mt sc d y f P := by
  intro k
  induction k with
  | zero => intro f f1 h hg; cases h; exact hg
  | succ k ih =>
    intro f f1 h hg
    rw [mjSeg_succ] at h
    unfold mjSegS at h
    split at h
    · cases h
    · rename_i M hM
      split at h
      · cases h
      · rename_i q hq
        split at h
        · cases h
        · rename_i f2 hf
          obtain ⟨n, r, w1, h1, h2⟩ := ih _ _ h hg
          refine ⟨n + 1, r, w1, ?_, h2⟩
          rw [mjEx_succ]
          unfold mjExS
          rw [hM]; simp only
          rw [hq]; simp only
          rw [hf]
          exact h1
        · cases h
        · rename_i g hf
          cases d with
          | zero => cases h
          | succ d1 =>
            simp only at h
            split at h
            · cases h
            · rename_i M1 hM1
              split at h
              · rename_i hl
                split at h
                · cases h
                · rename_i r1 hr1
                  obtain ⟨n, r, w1, h1, h2⟩ := ih _ _ h hg
                  refine ⟨(max n F) + 1, r, w1, ?_, h2⟩
                  rw [mjEx_succ]
                  unfold mjExS
                  rw [hM]; simp only
                  rw [hq]; simp only
                  rw [hf]; simp only
                  rw [hM1]; simp only
                  rw [if_pos hl, mjEx_le (Nat.le_max_right n F) hr1]
                  exact mjEx_le (Nat.le_max_left n F) h1
              · cases h
-- ===== a part of a world: the other cells are holes =====
def mjHole : Nat × List Value := (999, [])
def mjSub (v w : MjW) : Prop := v.length = w.length ∧ ∀ i : Nat, v[i]? = w[i]? ∨ v[i]? = some mjHole
def mjSub2 (v w v1 w1 : MjW) : Prop := mjSub v1 w1 ∧ ∀ i : Nat, v[i]? = some mjHole → w1[i]? = w[i]? ∧ v1[i]? = some mjHole
theorem mjSub.get {v w : MjW} (h : mjSub v w) {a : Nat} {k : Nat} {vs : List Value} (ha : v[a]? = some (k, vs)) (hk : k ≠ 999 ∨ vs ≠ []) : w[a]? = some (k, vs) := by
  rcases h.2 a with e | e
  · rw [← e]; exact ha
  · rw [ha] at e
    cases e
    rcases hk with hk | hk <;> exact absurd rfl hk
theorem mjSub.refl2 {v w : MjW} (h : mjSub v w) : mjSub2 v w v w := ⟨h, fun i hi => ⟨rfl, hi⟩⟩
theorem mjSub.set2 {v w : MjW} (h : mjSub v w) {a : Nat} {c c1 : Nat × List Value} (ha : v[a]? = some c) (hc : c ≠ mjHole) : mjSub2 v w (v.set a c1) (w.set a c1) := by
  have hav : a < v.length := (List.getElem?_eq_some_iff.mp ha).1
  have haw : a < w.length := by rw [← h.1]; exact hav
  refine ⟨⟨by rw [List.length_set, List.length_set]; exact h.1, fun i => ?_⟩, fun i hi => ?_⟩
  · rw [List.getElem?_set, List.getElem?_set]
    by_cases e : a = i
    · subst e
      rw [if_pos rfl, if_pos rfl, if_pos hav, if_pos haw]
      exact Or.inl rfl
    · rw [if_neg e, if_neg e]; exact h.2 i
  · have e : a ≠ i := by
      intro e; subst e
      rw [ha] at hi
      exact hc (Option.some.inj hi)
    rw [List.getElem?_set_ne e, List.getElem?_set_ne e]
    exact ⟨rfl, hi⟩
theorem mjSub.push2 {v w : MjW} (h : mjSub v w) {c1 : Nat × List Value} : mjSub2 v w (v ++ [c1]) (w ++ [c1]) := by
  refine ⟨⟨by rw [List.length_append, List.length_append, h.1], fun i => ?_⟩, fun i hi => ?_⟩
  · by_cases e : i < v.length
    · rw [List.getElem?_append_left e, List.getElem?_append_left (by rw [← h.1]; exact e)]
      exact h.2 i
    · rw [List.getElem?_append_right (by omega), List.getElem?_append_right (by rw [← h.1]; omega), h.1]
      exact Or.inl rfl
  · have e : i < v.length := (List.getElem?_eq_some_iff.mp hi).1
    rw [List.getElem?_append_left e, List.getElem?_append_left (by rw [← h.1]; exact e)]
    exact ⟨rfl, hi⟩
theorem mjSub2.trans {v w v1 w1 v2 w2 : MjW} (h : mjSub2 v w v1 w1) (h2 : mjSub2 v1 w1 v2 w2) : mjSub2 v w v2 w2 := by
  refine ⟨h2.1, fun i hi => ?_⟩
  obtain ⟨a, b⟩ := h.2 i hi
  obtain ⟨c, d⟩ := h2.2 i b
  exact ⟨c.trans a, d⟩
set_option maxHeartbeats 2000000 in
theorem mjH_sub {v w : MjW} (hs : mjSub v w) {ins : Instr} {inf : List Nat} {st st1 : List Value} {v1 : MjW} {len : Nat} (h : mjH ins inf st v = some (st1, v1, len)) : ∃ w1, mjH ins inf st w = some (st1, w1, len) ∧ mjSub2 v w v1 w1 := by
  unfold mjH at h
  split at h
  · split at h
    · split at h
      · split at h
        · rename_i cj fs hw
          split at h
          · rename_i e1; subst e1
            split at h
            · rename_i x hx
              cases h
              have hw2 := hs.get hw (Or.inr (fun e => by rw [e] at hx; cases hx))
              refine ⟨w, ?_, hs.refl2⟩
              simp only [mjH, hw2, hx, if_true]
            · cases h
          · cases h
        · cases h
      · cases h
    · cases h
  · split at h
    · split at h
      · split at h
        · rename_i cj fs hw
          split at h
          · rename_i e1
            cases h
            have hne : fs ≠ [] := fun e => by rw [e] at e1; exact absurd e1.2.1 (Nat.not_lt_zero _)
            have hw2 := hs.get hw (Or.inr hne)
            refine ⟨_, ?_, hs.set2 hw (fun e => hne (congrArg Prod.snd e))⟩
            simp only [mjH, hw2]
            rw [if_pos e1]
          · cases h
        · cases h
      · cases h
    · cases h
  · split at h
    · split at h
      · rename_i k vs hw
        split at h
        · rename_i e1; subst e1
          split at h
          · rename_i x hx
            cases h
            have hw2 := hs.get hw (Or.inl (by decide))
            refine ⟨w, ?_, hs.refl2⟩
            simp only [mjH, hw2, hx, if_true]
          · cases h
        · cases h
      · cases h
    · cases h
  · split at h
    · split at h
      · rename_i k vs hw
        split at h
        · rename_i e1
          split at h
          · rename_i x hx
            cases h
            have hw2 := hs.get hw (Or.inl (by omega))
            refine ⟨w, ?_, hs.refl2⟩
            simp only [mjH, hw2]
            rw [if_pos e1, hx]
          · cases h
        · cases h
      · cases h
    · cases h
  · split at h
    · split at h
      · rename_i k vs hw
        split at h
        · rename_i e1; subst e1
          split at h
          · rename_i x hx
            cases h
            have hw2 := hs.get hw (Or.inl (by decide))
            refine ⟨w, ?_, hs.refl2⟩
            simp only [mjH, hw2, hx, if_true]
          · cases h
        · cases h
      · cases h
    · cases h
  · split at h
    · split at h
      · rename_i k vs hw
        split at h
        · rename_i e1; subst e1
          split at h
          · rename_i x hx
            cases h
            have hw2 := hs.get hw (Or.inl (by decide))
            refine ⟨w, ?_, hs.refl2⟩
            simp only [mjH, hw2, hx, if_true]
          · cases h
        · cases h
      · cases h
    · cases h
  · split at h
    · split at h
      · rename_i k vs hw
        split at h
        · rename_i e1; subst e1
          split at h
          · rename_i x hx
            cases h
            have hw2 := hs.get hw (Or.inl (by decide))
            refine ⟨_, ?_, hs.set2 hw (fun e => absurd (congrArg Prod.fst e) (show ¬ 100 = 999 by decide))⟩
            simp only [mjH, hw2, hx, if_true]
          · cases h
        · cases h
      · cases h
    · cases h
  · split at h
    · split at h
      · rename_i k vs hw
        split at h
        · rename_i e1; subst e1
          split at h
          · rename_i x hx
            cases h
            have hw2 := hs.get hw (Or.inl (by decide))
            refine ⟨_, ?_, hs.set2 hw (fun e => absurd (congrArg Prod.fst e) (show ¬ 101 = 999 by decide))⟩
            simp only [mjH, hw2, hx, if_true]
          · cases h
        · split at h
          · rename_i e0 e1; subst e1
            split at h
            · rename_i x hx
              cases h
              have hw2 := hs.get hw (Or.inl (by decide))
              refine ⟨_, ?_, hs.set2 hw (fun e => absurd (congrArg Prod.fst e) (show ¬ 102 = 999 by decide))⟩
              simp only [mjH, hw2, hx, if_true]
              rw [if_neg e0]
            · cases h
          · cases h
      · cases h
    · cases h
  · split at h
    · split at h
      · rename_i k vs hw
        split at h
        · rename_i e1; subst e1
          split at h
          · rename_i x hx
            cases h
            have hw2 := hs.get hw (Or.inl (by decide))
            refine ⟨_, ?_, hs.set2 hw (fun e => absurd (congrArg Prod.fst e) (show ¬ 103 = 999 by decide))⟩
            simp only [mjH, hw2, hx, if_true]
          · cases h
        · cases h
      · cases h
    · cases h
  · split at h
    · split at h
      · rename_i k vs k2 fs2 hw hw2
        split at h
        · rename_i e1
          obtain ⟨rfl, rfl⟩ := e1
          split at h
          · rename_i x hx
            cases h
            have g1 := hs.get hw (Or.inl (by decide))
            have g2 := hs.get hw2 (Or.inl (by decide))
            refine ⟨_, ?_, hs.set2 hw (fun e => absurd (congrArg Prod.fst e) (show ¬ 104 = 999 by decide))⟩
            simp only [mjH, g1, g2, hx, and_self, if_true]
          · cases h
        · cases h
      · cases h
    · cases h
  · split at h
    · split at h
      · rename_i k vs hw
        split at h
        · rename_i e1
          cases h
          have hw2 := hs.get hw (Or.inl (by omega))
          refine ⟨w, ?_, hs.refl2⟩
          simp only [mjH, hw2]
          rw [if_pos e1]
        · cases h
      · cases h
    · cases h
  · split at h
    · cases h
      refine ⟨_, ?_, hs.push2⟩
      simp only [mjH, hs.1]
    · cases h
  · split at h
    · split at h
      · split at h
        · rename_i e1
          cases h
          refine ⟨_, ?_, hs.push2⟩
          simp only [mjH, hs.1]
          rw [if_pos e1]
        · cases h
      · cases h
    · cases h
  · split at h
    · split at h
      · rename_i e1
        cases h
        refine ⟨_, ?_, hs.push2⟩
        simp only [mjH, hs.1]
        rw [if_pos e1]
      · cases h
    · cases h
  · cases h
theorem mjPr_sub {v w : MjW} (hs : mjSub v w) {ins : Instr} {inf : List Nat} {st st1 : List Value} {v1 : MjW} (h : mjPr ins inf st v = some (st1, v1)) : ∃ w1, mjPr ins inf st w = some (st1, w1) ∧ mjSub2 v w v1 w1 := by
  unfold mjPr at h
  split at h
  · split at h
    · split at h
      · split at h
        · rename_i e1
          cases h
          exact ⟨w, by simp only [mjPr]; rw [if_pos e1], hs.refl2⟩
        · cases h
      · cases h
    · cases h
  · split at h
    · split at h
      · split at h
        · rename_i e1
          cases h
          exact ⟨w, by simp only [mjPr]; rw [if_pos e1], hs.refl2⟩
        · cases h
      · cases h
    · split at h
      · split at h
        · rename_i e1
          cases h
          exact ⟨w, by simp only [mjPr]; rw [if_pos e1], hs.refl2⟩
        · cases h
      · cases h
    · split at h
      · split at h
        · rename_i k0 vs0 k1 vs1 hw0 hw1
          split at h
          · rename_i e1
            cases h
            have g0 := hs.get hw0 (Or.inl (by omega))
            have g1 := hs.get hw1 (Or.inl (by omega))
            refine ⟨_, ?_, hs.set2 hw1 (fun e => absurd (congrArg Prod.fst e) (show ¬ k1 = 999 by omega))⟩
            simp only [mjPr, g0, g1]
            rw [if_pos e1]
          · cases h
        · cases h
      · cases h
    · cases h
  · cases h
theorem mjC_sub {v w : MjW} (hs : mjSub v w) {ins : Instr} {inf : List Nat} {st : List Value} {q : Nat × List Value × List Value} (h : mjC ins inf st v = some q) : mjC ins inf st w = some q := by
  unfold mjC at h
  split at h
  · split at h
    · split at h
      · rename_i b r hd
        split at h
        · rename_i cj fs hw
          split at h
          · rename_i e1
            have hw2 := hs.get hw (Or.inl (by omega))
            simp only [mjC, hd, hw2]
            rw [if_pos e1]
            exact h
          · cases h
        · cases h
      · rename_i b r hd
        split at h
        · rename_i e1
          simp only [mjC, hd]
          rw [if_pos e1]
          exact h
        · cases h
      · cases h
    · cases h
  · split at h
    · rename_i e0
      split at h
      · rename_i e1
        simp only [mjC]
        rw [if_pos e1]
        exact h
      · cases h
    · cases h
  · split at h
    · split at h
      · rename_i b r hd
        split at h
        · rename_i e1
          simp only [mjC, hd]
          rw [if_pos e1]
          exact h
        · cases h
      · cases h
    · cases h
  · cases h
/-- what is run in a part of a world is run in the world; the other cells stay -/
theorem mjEx_sub : ∀ (n d y pc : Nat) (ls : MjL) (st : List Value) (v w : MjW) (r : Option Value) (v1 : MjW), mjEx tb mt sc n d y pc ls st v = some (r, v1) → mjSub v w → ∃ w1, mjEx tb mt sc n d y pc ls st w = some (r, w1) ∧ mjSub2 v w v1 w1 := by
  intro n
  induction n with
  | zero => intro d y pc ls st v w r v1 h; cases h
  | succ n ih =>
    intro d y pc ls st v w r v1 h hs
    rw [mjEx_succ] at h
    rw [mjEx_succ]
    unfold mjExS at h
    split at h
    · cases h
    · rename_i M hM
      split at h
      · cases h
      · rename_i q hq
        unfold mjExS
        (try rw [hM]); (try simp only)
        (try rw [hq]); (try simp only)
        split at h
        · cases h
        · rename_i f hf
          have key : ∃ w2, mjOne sc M.2.2.2.1 d q pc ls st w = some (.inl (f.1, f.2.1, f.2.2.1, w2)) ∧ mjSub2 v w f.2.2.2 w2 := by
            unfold mjOne at hf ⊢
            split at hf
            · split at hf
              · rename_i hv; cases hf; exact ⟨w, by simp only [hv], hs.refl2⟩
              · cases hf
            · split at hf
              · rename_i hv; cases hf; exact ⟨w, by simp only [hv], hs.refl2⟩
              · cases hf
            · split at hf
              · rename_i hv; cases hf; exact ⟨w, by simp only [hv], hs.refl2⟩
              · cases hf
            · split at hf
              · rename_i hv; cases hf; exact ⟨w, by simp only [hv], hs.refl2⟩
              · cases hf
            · split at hf
              · rename_i x hv
                obtain ⟨x1, x2, x3⟩ := x
                obtain ⟨w2, hw2, hs2⟩ := mjH_sub hs hv
                cases hf
                exact ⟨w2, by simp only [hw2], hs2⟩
              · cases hf
            · split at hf
              · rename_i hv; cases hf; exact ⟨w, by simp only [hv], hs.refl2⟩
              · cases hf
            · split at hf <;> cases hf
            · split at hf
              · cases hf
              · split at hf
                · rename_i x hv
                  obtain ⟨x1, x2⟩ := x
                  obtain ⟨w2, hw2, hs2⟩ := mjPr_sub hs hv
                  cases hf
                  exact ⟨w2, by simp only [hw2], hs2⟩
                · cases hf
            · split at hf <;> cases hf
            · split at hf
              · rename_i hv; cases hf; exact ⟨w, by simp only [hv], hs.refl2⟩
              · cases hf
            · cases hf
          obtain ⟨w2, hw2, hs2⟩ := key
          rw [hw2]
          simp only
          obtain ⟨w3, hw3, hs3⟩ := ih _ _ _ _ _ _ _ _ _ h hs2.1
          exact ⟨w3, hw3, hs2.trans hs3⟩
        · rename_i r0 hf
          have key : mjOne sc M.2.2.2.1 d q pc ls st w = some (.inr (.inl (r0.1, w))) ∧ r0.2 = v := by
            unfold mjOne at hf ⊢
            split at hf <;> (try (split at hf <;> (try split at hf) <;> cases hf; done))
            · split at hf
              · rename_i hv; cases hf; exact ⟨by simp only [hv], rfl⟩
              · cases hf
            · cases hf
          rw [key.1]
          cases h
          simp only at key
          rw [key.2]
          exact ⟨w, rfl, hs.refl2⟩
        · rename_i g hf
          have key : mjOne sc M.2.2.2.1 d q pc ls st w = some (.inr (.inr (g.1, g.2.1, (g.2.2.1, g.2.2.2.1, g.2.2.2.2.1, w)))) := by
            unfold mjOne at hf ⊢
            split at hf <;> (try (split at hf <;> (try split at hf) <;> cases hf; done))
            · split at hf
              · rename_i hv; cases hf; simp only [mjC_sub hs hv]
              · cases hf
            · cases hf
          rw [key]
          cases d with
          | zero => cases h
          | succ d1 =>
            try simp only at h ⊢
            split at h
            · cases h
            · rename_i M1 hM1
              try rw [hM1]
              try simp only
              split at h
              · rename_i hl
                try rw [if_pos hl]
                split at h
                · cases h
                · rename_i r1 hr1
                  obtain ⟨x, v2⟩ := r1
                  obtain ⟨w2, hw2, hs2⟩ := ih _ _ _ _ _ _ _ _ _ hr1 hs
                  rw [hw2]
                  simp only
                  obtain ⟨w3, hw3, hs3⟩ := ih _ _ _ _ _ _ _ _ _ h hs2.1
                  exact ⟨w3, hw3, hs2.trans hs3⟩
              · cases h
end MjPure
