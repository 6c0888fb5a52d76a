/-! ===== the checker's run ===== -/
/-- a local's values one by one -/
def aiSpl (i : Nat) (B : MjSt) (f : MjSt → Bool) : Bool := match B.1[i]? with
  | some p => Nat.beq p.1 0 && (decide (p.2.2.1 - p.2.1 < 12) && (List.range (p.2.2.1 - p.2.1 + 1).toNat).all (fun j => f (B.1.set i (0, p.2.1 + (j : Int), p.2.1 + (j : Int), p.2.2.2), B.2)))
  | none => false
def aiToCut (S : MjSp) (cuts : List MjCut) (B0 : MjSt) (F0 : List MjFa) (m0 : List (Nat × Nat × Int)) (pc : Nat) (B : MjSt) : Bool := cuts.any (fun C => Nat.beq C.1 pc && (aiEnt S B C.2.1 && aiLess B0 F0 B C.2.1.2.2 m0 C.2.2))
def aiGoTo (S : MjSp) (sp : Nat) (cuts : List MjCut) (B0 : MjSt) (F0 : List MjFa) (m0 : List (Nat × Nat × Int)) (ih : Nat → MjSt → Bool) (pc : Nat) (B : MjSt) : Bool := match aiCutAt cuts pc with
  | some _ => aiToCut S cuts B0 F0 m0 pc B || aiSpl sp B (aiToCut S cuts B0 F0 m0 pc)
  | none => ih pc B
/-- the value is between lo and hi -/
def aiGap (A : MjSt) (x : MjQ) (R : List MjQ) (g : MjSt → Bool) (lo hi : Int) : Bool :=
  if (if x.2.2.1 ≤ hi then x.2.2.1 else hi) < (if lo ≤ x.2.1 then x.2.1 else lo) then true else
  g (aiRef (A.1, R, A.2.2) x.2.2.2.1 ((if lo ≤ x.2.1 then x.2.1 else lo) - x.2.2.2.2) ((if x.2.2.1 ≤ hi then x.2.2.1 else hi) - x.2.2.2.2))
def aiGaps (A : MjSt) (x : MjQ) (R : List MjQ) (g : MjSt → Bool) (lo : Int) : List (Int × Int) → Bool
  | [] => aiGap A x R g lo 2147483647
  | k :: ks => aiGap A x R g lo (k.1 - 1) && aiGaps A x R g (k.1 + 1) ks
def aiNe (k : ClassFile.Cond) (tr : Bool) : Bool := match k, tr with | .ne, true => true | .eq, false => true | _, _ => false
def aiBr (A : MjSt) (k : ClassFile.Cond) (tr : Bool) (x z : MjQ) (R : List MjQ) (g : MjSt → Bool) : Bool :=
  if aiNe k tr = true ∧ z.2.1 = z.2.2.1 ∧ x.2.1 < z.2.1 ∧ z.2.1 < x.2.2.1 ∧ 0 < x.2.2.2.1 ∧ x.2.2.2.1 < 8 then (aiGap A x R g x.2.1 (z.2.1 - 1) && aiGap A x R g (z.2.1 + 1) x.2.2.1) else
  let r := aiCmp k tr x.2.1 x.2.2.1 z.2.1 z.2.2.1
  if r.1.2 < r.1.1 ∨ r.2.2 < r.2.1 then true else
  g (aiRef (aiRef (A.1, R, A.2.2) x.2.2.2.1 (r.1.1 - x.2.2.2.2) (r.1.2 - x.2.2.2.2)) z.2.2.2.1 (r.2.1 - z.2.2.2.2) (r.2.2 - z.2.2.2.2))
def aiBranch (ins : Instr) (inf : List Nat) (pc : Nat) (A : MjSt) (g : Nat → MjSt → Bool) : Bool := match ins with
  | .goto _ => (match inf with | t :: _ => g t A | [] => false)
  | .ifCond k _ => (match inf with
    | t :: _ => (match A.2.1 with | x :: R => Nat.beq x.1 0 && (aiBr A k true x (0, 0, 0, 0, 0) R (g t) && aiBr A k false x (0, 0, 0, 0, 0) R (g (pc + 3))) | [] => false)
    | [] => false)
  | .if_icmp k _ => (match inf with
    | t :: _ => (match A.2.1 with | z :: x :: R => Nat.beq z.1 0 && (Nat.beq x.1 0 && (aiBr A k true x z R (g t) && aiBr A k false x z R (g (pc + 3)))) | _ => false)
    | [] => false)
  | .tableswitch _ lo hi _ => (match inf with
    | t :: ts => (match A.2.1 with
      | x :: R => Nat.beq x.1 0 && ((aiGap A x R (g t) (-2147483648) (lo - 1) && aiGap A x R (g t) (hi + 1) 2147483647) && (decide ((hi - lo + 1).toNat ≤ ts.length) && (List.range (hi - lo + 1).toNat).all (fun i => decide (lo + i < x.2.1 ∨ x.2.2.1 < lo + i) || (match ts[i]? with | some t1 => g t1 (aiRef (A.1, R, A.2.2) x.2.2.2.1 (lo + i - x.2.2.2.2) (lo + i - x.2.2.2.2)) | none => false))))
      | [] => false)
    | [] => false)
  | .lookupswitch d ps => (match A.2.1 with
    | x :: R => Nat.beq x.1 0 && ((decide (0 ≤ (pc : Int) + d) && aiGaps A x R (g ((pc : Int) + d).toNat) (-2147483648) ps.toList) && ps.toList.all (fun q => decide (0 ≤ (pc : Int) + q.2) && aiGap A x R (g ((pc : Int) + q.2).toNat) q.1 q.1))
    | [] => false)
  | _ => false
def aiX (ins : Instr) (inf : List Nat) (K : List MjQ) : Option (List MjQ × Nat) := match ins with
  | .getstatic _ => (match inf with | 0 :: _ => some ((0, 1, 1, 0, 0) :: K, 3) | 1 :: _ => some ((5, 4, 0, 0, 0) :: K, 3) | _ => none)
  | .getfield _ => (match K with
    | p :: R => if p.1 = 5 ∧ 0 ≤ p.2.1 ∧ p.2.1 < 2 then (match inf with | 0 :: _ => some ((5, p.2.1 + 2, 0, 0, 0) :: R, 3) | 1 :: _ => some ((0, 0, 0, 0, 0) :: R, 3) | _ => none) else none
    | [] => none)
  | .arraylength => (match K with
    | p :: R => if p.1 = 5 ∧ (p.2.1 = 2 ∨ p.2.1 = 3) then some ((0, ((mjSLen.getD (p.2.1.toNat - 2) 0 : Nat) : Int), ((mjSLen.getD (p.2.1.toNat - 2) 0 : Nat) : Int), 0, 0) :: R, 1) else none
    | [] => none)
  | .baload => (match K with
    | x :: p :: R => if p.1 = 5 ∧ (p.2.1 = 2 ∨ p.2.1 = 3) ∧ x.1 = 0 ∧ 0 ≤ x.2.1 ∧ x.2.2.1 < ((mjSLen.getD (p.2.1.toNat - 2) 0 : Nat) : Int) then some ((0, -128, 127, 0, 0) :: R, 1) else none
    | _ => none)
  | _ => none
def aiOne (S : MjSp) (U : MjU) (env : List (Nat × MjSm)) (sm : MjSm) (pr : List Nat) (rt : Option FieldType) (q : MjI) (pc : Nat) (A : MjSt) (g : Nat → MjSt → Bool) : Bool := match q.2.2.1 with
  | 0 => match aiA q.1 A.2.1 with | some K => g (pc + 1) (A.1, K, A.2.2) | none => false
  | 1 => match aiLd q.1 A.1 with | some v => g (pc + v.2) (A.1, v.1 :: A.2.1, A.2.2) | none => false
  | 2 => match aiSo pr q.1 A with | some v => g (pc + v.2) v.1 | none => false
  | 3 => aiBranch q.1 q.2.2.2 pc A g
  | 4 => match aiH S U sm.2.2.2.1 q.1 q.2.2.2 A with | some v => g (pc + v.2) v.1 | none => false
  | 5 => match aiPu q.1 q.2.2.2 with | some v => g (pc + v.2) (A.1, v.1 :: A.2.1, A.2.2) | none => false
  | 6 => match aiCall S env sm.2.2.2.1 sm.2.2.2.2 q.1 q.2.2.2 A with | some Bs => Bs.all (g (pc + 3)) | none => false
  | 7 => Nat.blt 0 sm.2.2.2.2 && (match aiPr q.1 q.2.2.2 A.2.1 with | some K => g (pc + 3) (A.1, K, A.2.2) | none => (match aiCpy S U sm.2.2.2.1 q.1 q.2.2.2 A with | some B => g (pc + 3) B | none => false))
  | 8 => match aiRetT rt q.1 A.2.1 with | some p => aiEnds S pr sm.2.2.1 A p | none => false
  | 9 => match aiX q.1 q.2.2.2 A.2.1 with | some v => g (pc + v.2) (A.1, v.1, A.2.2) | none => false
  | _ => false
noncomputable def aiRun (S : MjSp) (U : MjU) (env : List (Nat × MjSm)) (sm : MjSm) (pr : List Nat) (sp : Nat) (rt : Option FieldType) (cuts : List MjCut) (B0 : MjSt) (F0 : List MjFa) (m0 : List (Nat × Nat × Int)) (cd : Nat → Option MjI) (n : Nat) : Nat → MjSt → Bool :=
  Nat.rec (fun _ _ => false) (fun _ ih pc A => match cd pc with
    | none => false
    | some q => aiOne S U env sm pr rt q pc A (aiGoTo S sp cuts B0 F0 m0 ih)) n
theorem aiRun_succ (S : MjSp) (U : MjU) (env : List (Nat × MjSm)) (sm : MjSm) (pr : List Nat) (sp : Nat) (rt : Option FieldType) (cuts : List MjCut) (B0 : MjSt) (F0 : List MjFa) (m0 : List (Nat × Nat × Int)) (cd : Nat → Option MjI) (n pc : Nat) (A : MjSt) : aiRun S U env sm pr sp rt cuts B0 F0 m0 cd (n + 1) pc A = (match cd pc with
    | none => false
    | some q => aiOne S U env sm pr rt q pc A (aiGoTo S sp cuts B0 F0 m0 (aiRun S U env sm pr sp rt cuts B0 F0 m0 cd n))) := rfl
section AiC
variable {S : MjSp} {U : MjU} {J : MjW → Prop} {τ : Nat → Int} {ls : MjL} {st : List Value} {w : MjW} {mods : List (Nat × Nat)}
theorem mjCat_le {st : List Value} {K : List MjQ} : mjSk S ls w st K → mjCat st ≤ aiCatS K ∧ st.length = K.length := by
  induction st generalizing K with
  | nil => cases K with
    | nil => intro _; exact ⟨Nat.le_refl _, rfl⟩
    | cons p K => intro h; cases h
  | cons v st ih => cases K with
    | nil => intro h; cases h
    | cons p K =>
      intro h
      obtain ⟨h1, h2⟩ := ih h.2
      refine ⟨?_, by rw [List.length_cons, List.length_cons, h2]⟩
      have hv : v.category ≤ (if aiCat p = true then 1 else 2) := by
        split
        · rename_i hc; exact Nat.le_of_eq (aiCat_ok hc h.1.1)
        · rcases lv_cat v with e | e <;> omega
      show v.category + mjCat st ≤ (if aiCat p = true then 1 else 2) + aiCatS K
      omega
theorem mjSk_drop {st : List Value} {K : List MjQ} (n : Nat) (h : mjSk S ls w st K) : mjSk S ls w (st.drop n) (K.drop n) := by
  induction n generalizing st K with
  | zero => exact h
  | succ n ih =>
    cases st with
    | nil => cases K with
      | nil => exact h
      | cons p K => cases h
    | cons v st => cases K with
      | nil => cases h
      | cons p K => exact ih h.2
theorem mjSk_take {st : List Value} {K : List MjQ} (n : Nat) (h : mjSk S ls w st K) : mjSk S ls w (st.take n) (K.take n) := by
  induction n generalizing st K with
  | zero => exact trivial
  | succ n ih =>
    cases st with
    | nil => cases K with
      | nil => exact h
      | cons p K => cases h
    | cons v st => cases K with
      | nil => cases h
      | cons p K => exact ⟨h.1, ih h.2⟩
theorem mjSk_app {st st2 : List Value} {K K2 : List MjQ} (h : mjSk S ls w st K) (h2 : mjSk S ls w st2 K2) : mjSk S ls w (st ++ st2) (K ++ K2) := by
  induction st generalizing K with
  | nil => cases K with
    | nil => exact h2
    | cons p K => cases h
  | cons v st ih => cases K with
    | nil => cases h
    | cons p K => exact ⟨h.1, ih h.2⟩
theorem mjSk_rev {st : List Value} {K : List MjQ} (h : mjSk S ls w st K) : mjSk S ls w st.reverse K.reverse := by
  induction st generalizing K with
  | nil => cases K with
    | nil => exact h
    | cons p K => cases h
  | cons v st ih => cases K with
    | nil => cases h
    | cons p K =>
      rw [List.reverse_cons, List.reverse_cons]
      exact mjSk_app (ih h.2) ⟨h.1, trivial⟩
theorem mjSk_args {as : List Value} {K : List MjQ} {req : List MjQ} (h : mjSk S ls w as K) (h2 : aiAll2 S K req = true) : mjArgs S as req := by
  induction as generalizing K req with
  | nil => cases K with
    | nil => cases req with
      | nil => trivial
      | cons q req => cases h2
    | cons p K => cases h
  | cons v as ih => cases K with
    | nil => cases h
    | cons p K => cases req with
      | nil => cases h2
      | cons q req =>
        unfold aiAll2 at h2
        rw [Bool.and_eq_true] at h2
        exact ⟨aiSub_ok h2.1 h.1.1, ih h.2 h2.2⟩
theorem aiHas_ok {F : List MjFa} {q : MjFa} (hI : mjInv S J w) (hf : mjFs S τ w F) (h : aiHas S F q = true) : ∃ v, mjFld w q.1 q.2.1 = some v ∧ mjDn S v q.2.2 := by
  unfold aiHas at h
  rw [Bool.or_eq_true] at h
  rcases h with h | h
  · split at h
    · rename_i f hfd
      obtain ⟨v, h1, h2, -⟩ := hf _ (aiFind_mem hfd)
      exact ⟨v, h1, aiSub_ok h h2⟩
    · cases h
  · rw [Bool.and_eq_true, decide_eq_true_eq] at h
    obtain ⟨⟨h1, h2⟩, h3⟩ := h
    obtain ⟨vs, g1, g2, g3⟩ := hI.at rfl h1
    have hv : vs[q.2.1]? = some vs[q.2.1] := List.getElem?_eq_getElem (by rw [g2]; exact h2)
    exact ⟨_, by unfold mjFld; rw [g1]; exact hv, aiSub_ok h3 (aiTy_ok (g3 _ _ hv))⟩
theorem aiPick_ok {F : List MjFa} {y : Nat} {As : List MjQ} {env : List (Nat × MjSm)} {sm : MjSm} (h : aiPick S F y As env = some sm) : (y, sm) ∈ env ∧ aiAll2 S As sm.1 = true ∧ sm.2.1.all (aiHas S F) = true := by
  induction env with
  | nil => cases h
  | cons e env ih =>
    unfold aiPick at h
    split at h
    · rename_i hc
      cases h
      simp only [Bool.and_eq_true] at hc
      have := Nat.eq_of_beq_eq_true hc.1
      subst this
      exact ⟨List.mem_cons_self, hc.2.1, hc.2.2⟩
    · obtain ⟨h1, h2⟩ := ih h
      exact ⟨List.mem_cons_of_mem _ h1, h2⟩
theorem mjPv_kp {w1 : MjW} {v : Value} {p : MjQ} {mods : List (Nat × Nat)} (hk : mjKp S mods w w1) (hd : mjDn S v p) (h : mjPv ls w v p) : mjDn S v (if 64 ≤ p.2.2.2.1 ∧ aiMod mods (S.1 ((p.2.2.2.1 - 64) / 100)) ((p.2.2.2.1 - 64) % 100) = true then (p.1, p.2.1, p.2.2.1, 0, 0) else p) ∧ mjPv ls w1 v (if 64 ≤ p.2.2.2.1 ∧ aiMod mods (S.1 ((p.2.2.2.1 - 64) / 100)) ((p.2.2.2.1 - 64) % 100) = true then (p.1, p.2.1, p.2.2.1, 0, 0) else p) := by
  split
  · exact ⟨hd, Or.inl rfl⟩
  · rename_i hc
    refine ⟨hd, mjPv_keep h (fun h64 => hk.2 _ _ ?_)⟩
    cases hm : aiMod mods (S.1 ((p.2.2.2.1 - 64) / 100)) ((p.2.2.2.1 - 64) % 100) with
    | false => rfl
    | true => exact absurd ⟨h64, hm⟩ hc
theorem aiDropKs_ok {w1 : MjW} {K : List MjQ} (hk : mjKp S mods w w1) (h : mjSk S ls w st K) : mjSk S ls w1 st (aiDropKs S mods K) := mjSk_keep (fun _ _ hd hp => mjPv_kp hk hd hp) h
theorem aiRefs_ok {As : List MjQ} {as : List Value} (hs : mjSk S ls w as As) : ∀ (qs : List (Nat × Int × Int)) (A : MjSt), mjRl S J τ ls st w A → (∀ q ∈ qs, ∃ x : Int32, as[q.1]? = some (.int x) ∧ mjB x q.2.1 q.2.2) → mjRl S J τ ls st w (aiRefs As A qs) := by
  intro qs
  induction qs with
  | nil => intro A hr _; exact hr
  | cons q qs ih =>
    intro A hr hq
    unfold aiRefs
    rw [List.foldl_cons]
    refine ih _ ?_ (fun z hz => hq z (List.mem_cons_of_mem _ hz))
    obtain ⟨x, hx, hb⟩ := hq q List.mem_cons_self
    split
    · rename_i p hp
      refine aiRef_ok hr ?_
      have key : ∀ (as : List Value) (As : List MjQ) (i : Nat), mjSk S ls w as As → as[i]? = some (.int x) → As[i]? = some p → mjPv ls w (.int x) p := by
        intro as
        induction as with
        | nil => intro As i _ h1 _; cases h1
        | cons v as ih =>
          intro As i h0 h1 h2
          cases As with
          | nil => cases h2
          | cons p' As =>
            cases i with
            | zero => cases h1; cases h2; exact h0.1.2
            | succ i => exact ih As i h0.2 h1 h2
      rcases key as As q.1 hs hx hp with e | ⟨x', u, e1, e2, e3⟩
      · exact Or.inl e
      · cases e1
        have b1 := hb.1; have b2 := hb.2
        exact Or.inr ⟨u, e2, by omega, by omega⟩
    · exact hr
theorem aiModsIn_ok {a b : List (Nat × Nat)} {w1 : MjW} (h : aiModsIn a b = true) (hk : mjKp S a w w1) : mjKp S b w w1 := by
  refine ⟨hk.1, fun x j hx => hk.2 x j ?_⟩
  cases hm : aiMod a (S.1 x) j with
  | false => rfl
  | true =>
    unfold aiMod at hm hx
    obtain ⟨m, m1, m2⟩ := List.any_eq_true.mp hm
    have h1 := List.all_eq_true.mp h m m1
    obtain ⟨k, k1, k2⟩ := List.any_eq_true.mp h1
    have h2 := List.any_eq_false.mp hx k k1
    simp only [Bool.and_eq_true, Bool.or_eq_true] at m2 k2 h2
    have e1 := Nat.eq_of_beq_eq_true k2.1
    have e2 := Nat.eq_of_beq_eq_true m2.1
    exfalso
    refine h2 ⟨by rw [e1]; exact m2.1, ?_⟩
    rcases k2.2 with e | e
    · exact Or.inl e
    · have := Nat.eq_of_beq_eq_true e
      rcases m2.2 with e3 | e3
      · have := Nat.eq_of_beq_eq_true e3
        left; rw [show k.2 = 255 by omega]; rfl
      · right; rw [‹k.2 = m.2›]; exact e3
theorem mjEnc_len {as : List Value} : (mjEnc as).length ≤ mjCat as := by
  induction as with
  | nil => exact Nat.le_refl _
  | cons v as ih =>
    have : mjEnc (v :: as) = (if v.category = 2 then [some v, none] else [some v]) ++ mjEnc as := rfl
    rw [this, List.length_append]
    show _ ≤ v.category + mjCat as
    split
    · rename_i h; rw [h]; simp only [List.length_cons, List.length_nil]; omega
    · rcases lv_cat v with e | e <;> simp only [List.length_cons, List.length_nil] <;> omega
end AiC
