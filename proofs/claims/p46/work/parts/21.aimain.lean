section AiM
variable {S : MjSp} {U : MjU} {J : MjW → Prop} {τ : Nat → Int} {ls : MjL} {st : List Value} {w : MjW} {mods : List (Nat × Nat)} {sc : List Int32} {y pc d len : Nat} {M : MjM} {ins : Instr} {inf : List Nat} {P : Option Value → MjW → Prop}
theorem aiGap_ok {A : MjSt} {p : MjQ} {R : List MjQ} {g : MjSt → Bool} {x : Int32} {lo hi : Int} (hx : mjB x p.2.1 p.2.2.1) (hpx : mjPv ls w (.int x) p) (hr : mjRl S J τ ls st w (A.1, R, A.2.2)) (h : aiGap A p R g lo hi = true) (h1 : lo ≤ x.toInt) (h2 : x.toInt ≤ hi) : ∃ B, g B = true ∧ mjRl S J τ ls st w B := by
  unfold aiGap at h
  have a1 := hx.1; have a2 := hx.2
  have b1 : (if lo ≤ p.2.1 then p.2.1 else lo) ≤ x.toInt := by split <;> omega
  have b2 : x.toInt ≤ (if p.2.2.1 ≤ hi then p.2.2.1 else hi) := by split <;> omega
  rw [if_neg (by omega)] at h
  refine ⟨_, h, aiRef_ok hr ?_⟩
  rcases hpx with e | ⟨x', u, e1, e2, e3⟩
  · exact Or.inl e
  · cases e1; exact Or.inr ⟨u, e2, by omega, by omega⟩
theorem aiGaps_ok {A : MjSt} {p : MjQ} {R : List MjQ} {g : MjSt → Bool} {x : Int32} (hx : mjB x p.2.1 p.2.2.1) (hpx : mjPv ls w (.int x) p) (hr : mjRl S J τ ls st w (A.1, R, A.2.2)) : ∀ {ks : List (Int × Int)} {lo : Int}, aiGaps A p R g lo ks = true → lo ≤ x.toInt → (∀ k ∈ ks, k.1 ≠ x.toInt) → ∃ B, g B = true ∧ mjRl S J τ ls st w B
  | [], lo, h, h1, _ => aiGap_ok hx hpx hr h h1 (mjB.all x).2
  | k :: ks, lo, h, h1, h2 => by
    unfold aiGaps at h
    rw [Bool.and_eq_true] at h
    have n := h2 k List.mem_cons_self
    by_cases e : x.toInt < k.1
    · exact aiGap_ok hx hpx hr h.1 h1 (by omega)
    · exact aiGaps_ok hx hpx hr h.2 (by omega) (fun q hq => h2 q (List.mem_cons_of_mem _ hq))
theorem mj_look : ∀ {l : List (Int × Int)} {d k : Int}, (∃ q ∈ l, q.1 = k ∧ Op.lookupswitch.offset l d k = q.2) ∨ ((∀ q ∈ l, q.1 ≠ k) ∧ Op.lookupswitch.offset l d k = d)
  | [], d, k => Or.inr ⟨fun q hq => (by cases hq), rfl⟩
  | (a, o) :: l, d, k => by
    rw [Op.lookupswitch.offset_cons]
    by_cases e : a = k
    · rw [if_pos e]; exact Or.inl ⟨(a, o), List.mem_cons_self, e, rfl⟩
    · rw [if_neg e]
      rcases mj_look (l := l) (d := d) (k := k) with ⟨q, h1, h2⟩ | ⟨h1, h2⟩
      · exact Or.inl ⟨q, List.mem_cons_of_mem _ h1, h2⟩
      · refine Or.inr ⟨fun q hq => ?_, h2⟩
        rcases List.mem_cons.mp hq with rfl | hq
        · exact e
        · exact h1 q hq
theorem aiNe_ok {k : ClassFile.Cond} {x z : Int32} (h : aiNe k (mjCi k x z) = true) : x.toInt ≠ z.toInt := by
  intro e
  unfold aiNe at h
  split at h
  · rename_i e1; exact mjCi_ne.mp e1 e
  · rename_i e1; rw [mjCi_eq.mpr e] at e1; cases e1
  · cases h
theorem aiBr_ok {A : MjSt} {k : ClassFile.Cond} {p q : MjQ} {R : List MjQ} {g : MjSt → Bool} {x z : Int32} (hx : mjB x p.2.1 p.2.2.1) (hz : mjB z q.2.1 q.2.2.1) (hpx : mjPv ls w (.int x) p) (hpz : mjPv ls w (.int z) q) (hr : mjRl S J τ ls st w (A.1, R, A.2.2)) (h : aiBr A k (mjCi k x z) p q R g = true) : ∃ B, g B = true ∧ mjRl S J τ ls st w B := by
  obtain ⟨h1, h2⟩ := aiCmp_ok (k := k) hx hz
  unfold aiBr at h
  split at h
  · rename_i hc
    have n := aiNe_ok hc.1
    have a1 := hx.1; have a2 := hx.2; have a3 := hz.1; have a4 := hz.2
    rw [Bool.and_eq_true] at h
    by_cases e : x.toInt < z.toInt
    · exact aiGap_ok hx hpx hr h.1 a1 (by omega)
    · exact aiGap_ok hx hpx hr h.2 (by omega) a2
  simp only at h
  generalize aiCmp k (mjCi k x z) p.2.1 p.2.2.1 q.2.1 q.2.2.1 = r at h h1 h2
  have a1 := h1.1; have a2 := h1.2; have a3 := h2.1; have a4 := h2.2
  rw [if_neg (by omega)] at h
  refine ⟨_, h, aiRef_ok (aiRef_ok hr ?_) ?_⟩
  · rcases hpx with e | ⟨x', u, e1, e2, e3⟩
    · exact Or.inl e
    · cases e1; exact Or.inr ⟨u, e2, by omega, by omega⟩
  · rcases hpz with e | ⟨x', u, e1, e2, e3⟩
    · exact Or.inl e
    · cases e1; exact Or.inr ⟨u, e2, by omega, by omega⟩
theorem aiBranch_ok {A : MjSt} {g : Nat → MjSt → Bool} (h : aiBranch ins inf pc A g = true) (hr : mjRl S J τ ls st w A) : ∃ pc1 st1 B, mjBr ins inf pc st = some (pc1, st1) ∧ g pc1 B = true ∧ mjRl S J τ ls st1 w B := by
  obtain ⟨hI, hl, hk, hf⟩ := hr
  unfold aiBranch at h
  split at h
  · split at h
    · rename_i t tl
      exact ⟨t, st, A, rfl, h, hI, hl, hk, hf⟩
    · cases h
  · rename_i k off
    split at h
    · rename_i t tl
      split at h
      · rename_i p R hK
        rw [hK] at hk
        obtain ⟨v, st1, rfl, hd, hp, hk2⟩ := hk.uncons
        simp only [Bool.and_eq_true] at h
        unfold mjDn at hd
        rw [Nat.eq_of_beq_eq_true h.1] at hd
        obtain ⟨x, rfl, hx⟩ := hd
        have z0 : mjB 0 0 0 := ⟨by decide, by decide⟩
        have hc : mjCz k x = mjCi k x 0 := mjCz_is
        cases hb : mjCi k x 0 with
        | true =>
          have h9 : aiBr A k (mjCi k x 0) p (0, 0, 0, 0, 0) R (g t) = true := by rw [hb]; exact h.2.1
          obtain ⟨B, h1, h2⟩ := aiBr_ok (k := k) (R := R) (A := A) (q := (0, 0, 0, 0, 0)) hx z0 hp (Or.inl rfl) (show mjRl S J τ ls st1 w (A.1, R, A.2.2) from ⟨hI, hl, hk2, hf⟩) h9
          exact ⟨t, st1, B, by simp only [mjBr, hc, hb, cond_true], h1, h2⟩
        | false =>
          have h9 : aiBr A k (mjCi k x 0) p (0, 0, 0, 0, 0) R (g (pc + 3)) = true := by rw [hb]; exact h.2.2
          obtain ⟨B, h1, h2⟩ := aiBr_ok (k := k) (R := R) (A := A) (q := (0, 0, 0, 0, 0)) hx z0 hp (Or.inl rfl) (show mjRl S J τ ls st1 w (A.1, R, A.2.2) from ⟨hI, hl, hk2, hf⟩) h9
          exact ⟨pc + 3, st1, B, by simp only [mjBr, hc, hb, cond_false], h1, h2⟩
      · cases h
    · cases h
  · rename_i k off
    split at h
    · rename_i t tl
      split at h
      · rename_i q p R hK
        rw [hK] at hk
        obtain ⟨v, st1, rfl, hd, hp, hk2⟩ := hk.uncons
        obtain ⟨v2, st2, rfl, hd2, hp2, hk3⟩ := hk2.uncons
        simp only [Bool.and_eq_true] at h
        unfold mjDn at hd hd2
        rw [Nat.eq_of_beq_eq_true h.1] at hd
        rw [Nat.eq_of_beq_eq_true h.2.1] at hd2
        obtain ⟨z, rfl, hz⟩ := hd
        obtain ⟨x, rfl, hx⟩ := hd2
        cases hb : mjCi k x z with
        | true =>
          have h9 : aiBr A k (mjCi k x z) p q R (g t) = true := by rw [hb]; exact h.2.2.1
          obtain ⟨B, h1, h2⟩ := aiBr_ok (k := k) (R := R) (A := A) hx hz hp2 hp (show mjRl S J τ ls st2 w (A.1, R, A.2.2) from ⟨hI, hl, hk3, hf⟩) h9
          exact ⟨t, st2, B, by simp only [mjBr, hb, cond_true], h1, h2⟩
        | false =>
          have h9 : aiBr A k (mjCi k x z) p q R (g (pc + 3)) = true := by rw [hb]; exact h.2.2.2
          obtain ⟨B, h1, h2⟩ := aiBr_ok (k := k) (R := R) (A := A) hx hz hp2 hp (show mjRl S J τ ls st2 w (A.1, R, A.2.2) from ⟨hI, hl, hk3, hf⟩) h9
          exact ⟨pc + 3, st2, B, by simp only [mjBr, hb, cond_false], h1, h2⟩
      · cases h
    · cases h
  · rename_i df lo hi offs
    split at h
    · rename_i t ts
      split at h
      · rename_i p R hK
        rw [hK] at hk
        obtain ⟨v, st1, rfl, hd, hp, hk2⟩ := hk.uncons
        simp only [Bool.and_eq_true, Bool.or_eq_true, decide_eq_true_eq] at h
        obtain ⟨h0, h1, h2, h3⟩ := h
        unfold mjDn at hd
        rw [Nat.eq_of_beq_eq_true h0] at hd
        obtain ⟨x, rfl, hx⟩ := hd
        have x1 := hx.1; have x2 := hx.2
        by_cases hout : x.toInt < lo ∨ hi < x.toInt
        · have hr2 : mjRl S J τ ls st1 w (A.1, R, A.2.2) := ⟨hI, hl, hk2, hf⟩
          obtain ⟨B, e1, e2⟩ : ∃ B, g t B = true ∧ mjRl S J τ ls st1 w B := by
            rcases hout with ho | ho
            · exact aiGap_ok hx hp hr2 h1.1 (mjB.all x).1 (by omega)
            · exact aiGap_ok hx hp hr2 h1.2 (by omega) (mjB.all x).2
          exact ⟨t, st1, B, by simp only [mjBr]; rw [if_pos hout], e1, e2⟩
        · have hi9 : (x.toInt - lo).toNat < (hi - lo + 1).toNat := by omega
          have h4 := List.all_eq_true.mp h3 _ (List.mem_range.mpr hi9)
          rw [Bool.or_eq_true, decide_eq_true_eq] at h4
          have ex : lo + ((x.toInt - lo).toNat : Int) = x.toInt := by omega
          rw [ex] at h4
          rcases h4 with h4 | h4
          · omega
          · split at h4
            · rename_i t1 ht1
              refine ⟨t1, st1, _, ?_, h4, aiRef_ok ⟨hI, hl, hk2, hf⟩ ?_⟩
              · simp only [mjBr]
                rw [if_neg hout, List.getElem?_cons_succ, ht1]
              · rcases hp with e | ⟨x', u, e1, e2, e3⟩
                · exact Or.inl e
                · cases e1; exact Or.inr ⟨u, e2, by omega, by omega⟩
            · cases h4
      · cases h
    · cases h
  · rename_i df ps
    split at h
    · rename_i p R hK
      rw [hK] at hk
      obtain ⟨v, st1, rfl, hd, hp, hk2⟩ := hk.uncons
      simp only [Bool.and_eq_true, decide_eq_true_eq] at h
      obtain ⟨h0, ⟨h1, h2⟩, h3⟩ := h
      unfold mjDn at hd
      rw [Nat.eq_of_beq_eq_true h0] at hd
      obtain ⟨x, rfl, hx⟩ := hd
      have hr2 : mjRl S J τ ls st1 w (A.1, R, A.2.2) := ⟨hI, hl, hk2, hf⟩
      rcases mj_look (l := ps.toList) (d := df) (k := x.toInt) with ⟨q, q1, q2, q3⟩ | ⟨q1, q2⟩
      · have h4 := List.all_eq_true.mp h3 q q1
        rw [Bool.and_eq_true, decide_eq_true_eq] at h4
        obtain ⟨B, e1, e2⟩ := aiGap_ok hx hp hr2 h4.2 (by omega) (by omega)
        exact ⟨_, st1, B, by simp only [mjBr]; rw [q3, if_pos h4.1], e1, e2⟩
      · obtain ⟨B, e1, e2⟩ := aiGaps_ok hx hp hr2 h2 (mjB.all x).1 q1
        exact ⟨_, st1, B, by simp only [mjBr]; rw [q2, if_pos h1], e1, e2⟩
    · cases h
  · cases h
-- ===== cuts =====
def mjRlC (S : MjSp) (J : MjW → Prop) (ls : MjL) (st : List Value) (w : MjW) (C : MjSt) : Prop := mjInv S J w ∧ (ls.length = C.1.length ∧ ∀ (i : Nat) (p : MjQ), C.1[i]? = some p → if p.1 = 9 then ∀ v, mjLoc ls i = some v → v.category = 1 else ∃ v, mjLoc ls i = some v ∧ mjDn S v p) ∧ mjArgs S st C.2.1 ∧ mjFs0 S w C.2.2
theorem aiAllL_ok : ∀ {L L2 : List MjQ}, aiAllL S L L2 = true → L.length = L2.length ∧ ∀ (i : Nat) (q : MjQ), L2[i]? = some q → ∃ p, L[i]? = some p ∧ (bif Nat.beq q.1 9 then (aiCat p || Nat.beq p.1 9) else aiSub S p q) = true
  | [], [], _ => ⟨rfl, fun i q h => by cases h⟩
  | [], _ :: _, h => by cases h
  | _ :: _, [], h => by cases h
  | p :: L, q :: L2, h => by
    unfold aiAllL at h
    rw [Bool.and_eq_true] at h
    obtain ⟨h1, h2⟩ := aiAllL_ok h.2
    refine ⟨by rw [List.length_cons, List.length_cons, h1], fun i q' hq => ?_⟩
    cases i with
    | zero => cases hq; exact ⟨p, rfl, h.1⟩
    | succ i => exact h2 i q' hq
theorem aiEnt_ok {B C : MjSt} (h : aiEnt S B C = true) (hr : mjRl S J τ ls st w B) : mjRlC S J ls st w C := by
  obtain ⟨hI, hl, hk, hf⟩ := hr
  unfold aiEnt at h
  simp only [Bool.and_eq_true] at h
  obtain ⟨h1, h2, h3⟩ := h
  obtain ⟨g1, g2⟩ := aiAllL_ok h1
  refine ⟨hI, ⟨by rw [hl.1, g1], fun i q hq => ?_⟩, mjSk_args hk h2, fun f hf2 => aiHas_ok hI hf (List.all_eq_true.mp h3 f hf2)⟩
  obtain ⟨p, hp, hs⟩ := g2 i q hq
  have := hl.2 i p hp
  by_cases h9 : q.1 = 9
  · rw [if_pos h9]
    rw [h9] at hs
    have hs2 : (aiCat p || Nat.beq p.1 9) = true := hs
    intro v hv
    rw [Bool.or_eq_true] at hs2
    split at this
    · exact this v hv
    · rename_i hp9
      obtain ⟨v', e1, e2, -⟩ := this
      rw [hv] at e1; cases e1
      rcases hs2 with e | e
      · exact aiCat_ok e e2
      · exact absurd (Nat.eq_of_beq_eq_true e) hp9
  · rw [if_neg h9]
    have hb : Nat.beq q.1 9 = false := by
      cases e : Nat.beq q.1 9 with
      | false => rfl
      | true => exact absurd (Nat.eq_of_beq_eq_true e) h9
    rw [hb, cond_false] at hs
    split at this
    · rename_i hp9
      exfalso
      unfold aiSub at hs
      split at hs <;> first
        | (simp only [decide_eq_true_eq] at hs; omega)
        | (have := Nat.eq_of_beq_eq_true hs; omega)
        | (rename_i e; exact h9 e)
        | cases hs
    · obtain ⟨v, e1, e2, -⟩ := this
      exact ⟨v, e1, aiSub_ok hs e2⟩
def mjVal (o : Option Value) : Int := match o with | some (.int x) => x.toInt | _ => 0
def mjTau (ls : MjL) (w : MjW) (F : List MjFa) (n : Nat) : Int := if n < 100 then mjVal (mjLoc ls (n - 1)) else match F[n - 100]? with | some f => mjVal (mjFld w f.1 f.2.1) | none => 0
theorem aiMark_get : ∀ (L : List MjQ) (k i : Nat), (aiMark L k)[i]? = (L[i]?).map (fun p => (p.1, p.2.1, p.2.2.1, if p.1 = 0 then k + i + 1 else 0, 0))
  | [], k, i => by simp [aiMark]
  | p :: L, k, i => by
    cases i with
    | zero => simp [aiMark]
    | succ i =>
      unfold aiMark
      rw [List.getElem?_cons_succ, List.getElem?_cons_succ, aiMark_get L (k + 1) i, show k + 1 + i = k + (i + 1) by omega]
theorem aiMark_len : ∀ (L : List MjQ) (k : Nat), (aiMark L k).length = L.length
  | [], _ => rfl
  | _ :: L, k => by unfold aiMark; rw [List.length_cons, List.length_cons, aiMark_len L (k + 1)]
theorem aiMarkF_get : ∀ (F : List MjFa) (k i : Nat), (aiMarkF F k)[i]? = (F[i]?).map (fun q => (q.1, q.2.1, (q.2.2.1, q.2.2.2.1, q.2.2.2.2.1, if q.2.2.1 = 0 then k + i + 100 else 0, 0)))
  | [], k, i => by simp [aiMarkF]
  | q :: F, k, i => by
    cases i with
    | zero => simp [aiMarkF]
    | succ i =>
      unfold aiMarkF
      rw [List.getElem?_cons_succ, List.getElem?_cons_succ, aiMarkF_get F (k + 1) i, show k + 1 + i = k + (i + 1) by omega]
theorem mjArgs_sk {st : List Value} {K : List MjQ} (h : mjArgs S st K) : mjSk S ls w st (K.map (fun p => (p.1, p.2.1, p.2.2.1, 0, 0))) := by
  induction st generalizing K with
  | nil => cases K with
    | nil => exact trivial
    | cons p K => cases h
  | cons v st ih => cases K with
    | nil => cases h
    | cons p K => exact ⟨⟨h.1, Or.inl rfl⟩, ih h.2⟩
theorem aiBegin_ok {C : MjSt} (h60 : C.1.length ≤ 60) (h : mjRlC S J ls st w C) : mjRl S J (mjTau ls w C.2.2) ls st w (aiBegin C) := by
  obtain ⟨hI, hl, hk, hf⟩ := h
  refine ⟨hI, ⟨by show _ = (aiMark C.1 0).length; rw [aiMark_len]; exact hl.1, fun i p hp => ?_⟩, mjArgs_sk hk, fun q hq => ?_⟩
  · have hp2 : (aiMark C.1 0)[i]? = some p := hp
    rw [aiMark_get] at hp2
    obtain ⟨p0, hp0, rfl⟩ := Option.map_eq_some_iff.mp hp2
    have hi : i < C.1.length := (List.getElem?_eq_some_iff.mp hp0).1
    have := hl.2 i p0 hp0
    split at this
    · rename_i h9; rw [if_pos h9]; exact this
    · rename_i h9
      rw [if_neg h9]
      obtain ⟨v, e1, e2⟩ := this
      refine ⟨v, e1, e2, ?_⟩
      unfold mjSy
      simp only
      split
      · rename_i h0
        have e3 := e2
        unfold mjDn at e3
        rw [h0] at e3
        obtain ⟨x, rfl, -⟩ := e3
        refine Or.inr ⟨x, rfl, ?_⟩
        unfold mjTau
        rw [if_pos (by omega), show 0 + i + 1 - 1 = i by omega, e1]
        show x.toInt = x.toInt + 0
        omega
      · exact Or.inl rfl
  · obtain ⟨i, hi⟩ := List.getElem?_of_mem (show q ∈ aiMarkF C.2.2 0 from hq)
    rw [aiMarkF_get] at hi
    obtain ⟨q0, hq0, rfl⟩ := Option.map_eq_some_iff.mp hi
    obtain ⟨v, e1, e2⟩ := hf q0 (List.mem_of_getElem? hq0)
    refine ⟨v, e1, e2, ?_⟩
    unfold mjSy
    simp only
    split
    · rename_i h0
      have e3 := e2
      unfold mjDn at e3
      rw [h0] at e3
      obtain ⟨x, rfl, -⟩ := e3
      refine Or.inr ⟨x, rfl, ?_⟩
      unfold mjTau
      rw [if_neg (by omega), show 0 + i + 100 - 100 = i by omega, hq0]
      simp only
      rw [e1]
      show x.toInt = x.toInt + 0
      omega
    · exact Or.inl rfl
def mjMu (ls : MjL) (w : MjW) (F : List MjFa) (m : Nat × Nat × Int) : Int := match m.1 with
  | 0 => m.2.2
  | 1 => m.2.2 - mjVal (mjLoc ls m.2.1)
  | 2 => mjVal (mjLoc ls m.2.1) - m.2.2
  | 3 => (match F[m.2.1]? with | some f => m.2.2 - mjVal (mjFld w f.1 f.2.1) | none => 0)
  | 4 => (match F[m.2.1]? with | some f => mjVal (mjFld w f.1 f.2.1) - m.2.2 | none => 0)
  | _ => 0
theorem aiComp_ok {B : MjSt} {F : List MjFa} {m : Nat × Nat × Int} {a : Int × Nat × Int} (h : aiComp B F m = some a) (hl : mjLo S τ ls B.1) (hf : mjFs S τ w B.2.2) : mjMu ls w F m = a.2.2 + a.1 * τ a.2.1 := by
  have loc : ∀ {p : MjQ}, B.1[m.2.1]? = some p → p.1 = 0 ∧ p.2.2.2.1 ≠ 0 → mjVal (mjLoc ls m.2.1) = τ p.2.2.2.1 + p.2.2.2.2 := by
    intro p hp hc
    have := hl.2 _ _ hp
    rw [if_neg (by omega)] at this
    obtain ⟨v, e1, -, e3⟩ := this
    rcases e3 with e3 | ⟨x, rfl, e4⟩
    · exact absurd e3 hc.2
    · rw [e1]; exact e4
  have fld : ∀ {f : MjFa} {p : MjQ}, aiFind B.2.2 f.1 f.2.1 = some p → p.1 = 0 ∧ p.2.2.2.1 ≠ 0 → mjVal (mjFld w f.1 f.2.1) = τ p.2.2.2.1 + p.2.2.2.2 := by
    intro f p hp hc
    obtain ⟨v, e1, -, e3⟩ := hf _ (aiFind_mem hp)
    rcases e3 with e3 | ⟨x, rfl, e4⟩
    · exact absurd e3 hc.2
    · simp only at e1; rw [e1]; exact e4
  unfold aiComp at h
  unfold mjMu
  split at h
  · rename_i hm; rw [hm]; cases h; simp
  · rename_i hm
    rw [hm]
    split at h
    · rename_i p hp
      split at h
      · rename_i hc
        cases h
        simp only
        rw [loc hp hc]; omega
      · cases h
    · cases h
  · rename_i hm
    rw [hm]
    split at h
    · rename_i p hp
      split at h
      · rename_i hc
        cases h
        simp only
        rw [loc hp hc]; omega
      · cases h
    · cases h
  · rename_i hm
    rw [hm]
    split at h
    · rename_i f hfF
      split at h
      · rename_i p hp
        split at h
        · rename_i hc
          cases h
          simp only [hfF]
          rw [fld hp hc]; omega
        · cases h
      · cases h
    · cases h
  · rename_i hm
    rw [hm]
    split at h
    · rename_i f hfF
      split at h
      · rename_i p hp
        split at h
        · rename_i hc
          cases h
          simp only [hfF]
          rw [fld hp hc]; omega
        · cases h
      · cases h
    · cases h
  · cases h
def mjLex : List Int → List Int → Prop
  | a :: as, b :: bs => a < b ∨ (a = b ∧ mjLex as bs)
  | _, _ => False
theorem aiLess_ok {B0 B : MjSt} {F0 F : List MjFa} {ls0 : MjL} {w0 : MjW} (hl0 : mjLo S τ ls0 B0.1) (hf0 : mjFs S τ w0 B0.2.2) (hl : mjLo S τ ls B.1) (hf : mjFs S τ w B.2.2) : ∀ {m0 m : List (Nat × Nat × Int)}, aiLess B0 F0 B F m0 m = true → mjLex (m.map (mjMu ls w F)) (m0.map (mjMu ls0 w0 F0))
  | [], _, h => by unfold aiLess at h; cases h
  | _ :: _, [], h => by unfold aiLess at h; cases h
  | a0 :: m0, a :: m, h => by
    unfold aiLess at h
    split at h
    · rename_i x z hx hz
      split at h
      · rename_i hc
        have e1 := aiComp_ok hx hl0 hf0
        have e2 := aiComp_ok hz hl hf
        show mjMu ls w F a < mjMu ls0 w0 F0 a0 ∨ (mjMu ls w F a = mjMu ls0 w0 F0 a0 ∧ mjLex (m.map (mjMu ls w F)) (m0.map (mjMu ls0 w0 F0)))
        rw [e1, e2, ← hc.1, ← hc.2]
        split at h
        · exact Or.inl (by omega)
        · split at h
          · exact Or.inr ⟨by omega, aiLess_ok hl0 hf0 hl hf h⟩
          · cases h
      · cases h
    · cases h
/-- the components are in range at the cut -/
def aiMuOk1 (C : MjSt) (m : Nat × Nat × Int) : Bool := match m.1 with
  | 0 => decide (0 ≤ m.2.2 ∧ m.2.2 < 1099511627776)
  | 1 => (match C.1[m.2.1]? with | some p => decide (p.1 = 0 ∧ 0 ≤ m.2.2 - p.2.2.1 ∧ m.2.2 - p.2.1 < 1099511627776) | none => false)
  | 2 => (match C.1[m.2.1]? with | some p => decide (p.1 = 0 ∧ 0 ≤ p.2.1 - m.2.2 ∧ p.2.2.1 - m.2.2 < 1099511627776) | none => false)
  | 3 => (match C.2.2[m.2.1]? with | some f => decide (f.2.2.1 = 0 ∧ 0 ≤ m.2.2 - f.2.2.2.2.1 ∧ m.2.2 - f.2.2.2.1 < 1099511627776) | none => false)
  | 4 => (match C.2.2[m.2.1]? with | some f => decide (f.2.2.1 = 0 ∧ 0 ≤ f.2.2.2.1 - m.2.2 ∧ f.2.2.2.2.1 - m.2.2 < 1099511627776) | none => false)
  | _ => false
theorem aiMuOk1_ok {C : MjSt} {m : Nat × Nat × Int} (h : aiMuOk1 C m = true) (hr : mjRlC S J ls st w C) : 0 ≤ mjMu ls w C.2.2 m ∧ mjMu ls w C.2.2 m < 1099511627776 := by
  obtain ⟨hI, hl, hk, hf⟩ := hr
  unfold aiMuOk1 at h
  unfold mjMu
  split at h
  · rename_i hm; rw [decide_eq_true_eq] at h; first | exact h | (rw [hm]; exact h)
  · rename_i hm
    try rw [hm]
    split at h
    · rename_i p hp
      simp only [decide_eq_true_eq] at h
      have := hl.2 _ _ hp
      rw [if_neg (by omega)] at this
      obtain ⟨v, e1, e2⟩ := this
      unfold mjDn at e2
      rw [h.1] at e2
      obtain ⟨x, rfl, hx⟩ := e2
      have x1 := hx.1; have x2 := hx.2
      try simp only
      rw [e1]
      show 0 ≤ m.2.2 - x.toInt ∧ m.2.2 - x.toInt < _
      omega
    · cases h
  · rename_i hm
    try rw [hm]
    split at h
    · rename_i p hp
      simp only [decide_eq_true_eq] at h
      have := hl.2 _ _ hp
      rw [if_neg (by omega)] at this
      obtain ⟨v, e1, e2⟩ := this
      unfold mjDn at e2
      rw [h.1] at e2
      obtain ⟨x, rfl, hx⟩ := e2
      have x1 := hx.1; have x2 := hx.2
      try simp only
      rw [e1]
      show 0 ≤ x.toInt - m.2.2 ∧ x.toInt - m.2.2 < _
      omega
    · cases h
  · rename_i hm
    try rw [hm]
    split at h
    · rename_i f hfF
      simp only [decide_eq_true_eq] at h
      obtain ⟨v, e1, e2⟩ := hf f (List.mem_of_getElem? hfF)
      unfold mjDn at e2
      rw [h.1] at e2
      obtain ⟨x, rfl, hx⟩ := e2
      have x1 := hx.1; have x2 := hx.2
      try rw [hfF]
      try simp only
      rw [e1]
      show 0 ≤ m.2.2 - x.toInt ∧ m.2.2 - x.toInt < _
      omega
    · cases h
  · rename_i hm
    try rw [hm]
    split at h
    · rename_i f hfF
      simp only [decide_eq_true_eq] at h
      obtain ⟨v, e1, e2⟩ := hf f (List.mem_of_getElem? hfF)
      unfold mjDn at e2
      rw [h.1] at e2
      obtain ⟨x, rfl, hx⟩ := e2
      have x1 := hx.1; have x2 := hx.2
      try rw [hfF]
      try simp only
      rw [e1]
      show 0 ≤ x.toInt - m.2.2 ∧ x.toInt - m.2.2 < _
      omega
    · cases h
  · cases h
end AiM
