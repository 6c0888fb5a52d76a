/-! ===== the checker: heap ===== -/
def aiMod (mods : List (Nat × Nat)) (r k : Nat) : Bool := mods.any (fun m => Nat.beq m.1 r && (Nat.beq m.2 255 || Nat.beq m.2 k))
def mjShp (w : MjW) : List (Nat × Nat) := w.map (fun c => (c.1, c.2.length))
theorem mjShp_set {w : MjW} {a c : Nat} {vs us : List Value} (ha : w[a]? = some (c, vs)) (hl : us.length = vs.length) : mjShp (w.set a (c, us)) = mjShp w := by
  unfold mjShp
  apply List.ext_getElem?
  intro i
  rw [List.getElem?_map, List.getElem?_map, List.getElem?_set]
  split
  · rename_i e
    subst e
    rw [if_pos (List.getElem?_eq_some_iff.mp ha).1, ha]
    show some (c, us.length) = some (c, vs.length)
    rw [hl]
  · rfl
def mjKp (S : MjSp) (mods : List (Nat × Nat)) (w w1 : MjW) : Prop := mjShp w1 = mjShp w ∧ ∀ b j : Nat, aiMod mods (S.1 b) j = false → mjFld w1 b j = mjFld w b j
/-- all places of a range may change -/
def aiModR (mods : List (Nat × Nat)) (r lo n : Nat) : Bool := aiMod mods r 255 || (Nat.ble n 8 && (List.range n).all (fun i => aiMod mods r (lo + i)))
theorem aiMod_255 {mods : List (Nat × Nat)} {r j : Nat} (h : aiMod mods r 255 = true) : aiMod mods r j = true := by
  unfold aiMod at h ⊢
  obtain ⟨m, h1, h2⟩ := List.any_eq_true.mp h
  refine List.any_eq_true.mpr ⟨m, h1, ?_⟩
  simp only [Bool.and_eq_true, Bool.or_eq_true] at h2 ⊢
  exact ⟨h2.1, Or.inl (h2.2.elim id id)⟩
theorem aiModR_ok {mods : List (Nat × Nat)} {r lo n j : Nat} (h : aiModR mods r lo n = true) (h1 : lo ≤ j) (h2 : j < lo + n) : aiMod mods r j = true := by
  unfold aiModR at h
  rw [Bool.or_eq_true, Bool.and_eq_true] at h
  rcases h with h | h
  · exact aiMod_255 h
  · have := List.all_eq_true.mp h.2 (j - lo) (List.mem_range.mpr (by omega))
    rw [show lo + (j - lo) = j by omega] at this
    exact this
theorem mjKp.refl {S : MjSp} {mods : List (Nat × Nat)} {w : MjW} : mjKp S mods w w := ⟨rfl, fun _ _ _ => rfl⟩
theorem mjKp.trans {S : MjSp} {mods : List (Nat × Nat)} {w w1 w2 : MjW} (h : mjKp S mods w w1) (h2 : mjKp S mods w1 w2) : mjKp S mods w w2 := ⟨h2.1.trans h.1, fun b j hm => (h2.2 b j hm).trans (h.2 b j hm)⟩
def aiTyLe (t u : MjTy) : Bool := decide (t = u ∨ (t.1 = 0 ∧ u.1 = 0 ∧ u.2.1 ≤ t.2.1 ∧ t.2.2 ≤ u.2.2) ∨ (u.1 = 6 ∧ (t.1 = 2 ∨ t.1 = 3 ∨ t.1 = 6)))
def aiJoin (t u : MjTy) : MjTy := (t.1, if t.2.1 ≤ u.2.1 then t.2.1 else u.2.1, if t.2.2 ≤ u.2.2 then u.2.2 else t.2.2)
/-- a type that holds of all places from lo on, n of them -/
def aiElem (S : MjSp) (U : MjU) (r lo n : Nat) : Option MjTy :=
  if U.1 r = true then some (S.2.2.2 r 0) else
  let t := (List.range n).foldl (fun t i => aiJoin t (S.2.2.2 r (lo + i))) (S.2.2.2 r lo)
  if (List.range n).all (fun i => aiTyLe (S.2.2.2 r (lo + i)) t) = true then some t else none
def aiIx (S : MjSp) (p : MjQ) (r : Nat) : Bool := decide (p.1 = 0 ∧ 0 ≤ p.2.1 ∧ p.2.1 ≤ p.2.2.1 ∧ p.2.2.1 < (S.2.2.1 r : Int))
def aiIsR (p : MjQ) : Bool := decide ((p.1 = 2 ∨ p.1 = 3) ∧ 0 ≤ p.2.1)
/-- the value fits all places of the range -/
def aiFill (S : MjSp) (U : MjU) (r : Nat) (x : MjQ) (v : MjQ) : Bool := if U.1 r = true then aiSub S v (aiTy (S.2.2.2 r 0)) else (List.range (x.2.2.1 - x.2.1 + 1).toNat).all (fun i => aiSub S v (aiTy (S.2.2.2 r (x.2.1.toNat + i))))
def aiDropF (a k : Nat) (F : List MjFa) : List MjFa := F.filter (fun q => !(Nat.beq q.1 a && Nat.beq q.2.1 k))
def aiBv (S : MjSp) (r : Nat) : MjQ := if S.2.1 r = 101 then (0, -128, 127, 0, 0) else (0, 0, 1, 0, 0)
/-- what the facts tell of places of an array -/
def aiJF (F : List MjFa) (a lo : Nat) : Nat → Option (Int × Int)
  | 0 => (match aiFind F a lo with | some f => if f.1 = 0 then some (f.2.1, f.2.2.1) else none | none => none)
  | n + 1 => (match aiJF F a lo n with
    | some t => (match aiFind F a (lo + (n + 1)) with | some f => if f.1 = 0 then some (if t.1 ≤ f.2.1 then t.1 else f.2.1, if f.2.2.1 ≤ t.2 then t.2 else f.2.2.1) else none | none => none)
    | none => none)
def aiEl (F : List MjFa) (p x : MjQ) (t : MjTy) : MjQ :=
  if p.1 = 3 ∧ x.2.2.1 < 100 ∧ t.1 = 0 then (match aiJF F p.2.1.toNat x.2.1.toNat (x.2.2.1 - x.2.1).toNat with
    | some q => (0, q.1, q.2, if x.2.1 = x.2.2.1 then 64 + p.2.1.toNat * 100 + x.2.1.toNat else 0, 0)
    | none => (0, t.2.1, t.2.2, if x.2.1 = x.2.2.1 then 64 + p.2.1.toNat * 100 + x.2.1.toNat else 0, 0))
  else aiTy t
/-- the facts behind a store -/
def aiStF (S : MjSp) (A : MjSt) (v x p : MjQ) : List MjFa :=
  if p.1 = 3 then (if x.2.1 = x.2.2.1 ∧ x.2.2.1 < 100 then [(p.2.1.toNat, x.2.1.toNat, (0, v.2.1, v.2.2.1, aiStart A v))] else []) ++ A.2.2.filter (fun q => !(Nat.beq q.1 p.2.1.toNat && (Nat.ble x.2.1.toNat q.2.1 && Nat.ble q.2.1 x.2.2.1.toNat)))
  else aiDropR S (aiRole S p) 255 A.2.2
def aiH (S : MjSp) (U : MjU) (mods : List (Nat × Nat)) (ins : Instr) (inf : List Nat) (A : MjSt) : Option (MjSt × Nat) := match ins with
  | .getfield _ => match A.2.1 with
    | p :: R => (match inf with
      | ci :: k :: _ => if aiIsR p = true ∧ 0 < aiRole S p ∧ S.2.1 (aiRole S p) = ci ∧ k < S.2.2.1 (aiRole S p) ∧ k < 100 then
          (if p.1 = 3 then (let q := (match aiFind A.2.2 p.2.1.toNat k with | some f => f | none => aiTy (S.2.2.2 (aiRole S p) k))
            some ((A.1, (q.1, q.2.1, q.2.2.1, if q.1 = 0 then 64 + p.2.1.toNat * 100 + k else 0, 0) :: R, A.2.2), 3))
          else some ((A.1, aiTy (S.2.2.2 (aiRole S p) k) :: R, A.2.2), 3)) else none
      | _ => none)
    | [] => none
  | .putfield _ => match A.2.1 with
    | v :: p :: R => (match inf with
      | ci :: k :: _ => if aiIsR p = true ∧ 0 < aiRole S p ∧ S.2.1 (aiRole S p) = ci ∧ k < S.2.2.1 (aiRole S p) ∧ k < 100 ∧ aiSub S v (aiTy (S.2.2.2 (aiRole S p) k)) = true ∧ aiFitT (mjTyp ci k) v = true ∧ aiMod mods (aiRole S p) k = true ∧ aiGd U (aiRole S p) k v = true then
          (if p.1 = 3 then some ((A.1, aiUnlink (64 + p.2.1.toNat * 100 + k) R, (p.2.1.toNat, k, (v.1, v.2.1, v.2.2.1, if v.1 = 0 then aiStart A v else (0, 0))) :: aiDropF p.2.1.toNat k A.2.2), 3)
          else some ((A.1, aiDropK S (aiRole S p) k R, aiDropR S (aiRole S p) k A.2.2), 3)) else none
      | _ => none)
    | _ => none
  | .arraylength => match A.2.1 with
    | p :: R => if aiIsR p = true ∧ 0 < aiRole S p ∧ 100 ≤ S.2.1 (aiRole S p) ∧ S.2.1 (aiRole S p) ≤ 104 ∧ S.2.2.1 (aiRole S p) ≤ 100000 then some ((A.1, (0, (S.2.2.1 (aiRole S p) : Int), (S.2.2.1 (aiRole S p) : Int), 0, 0) :: R, A.2.2), 1) else none
    | _ => none
  | .iastore => match A.2.1 with
    | v :: x :: p :: R => if aiIsR p = true ∧ 0 < aiRole S p ∧ S.2.1 (aiRole S p) = 100 ∧ aiIx S x (aiRole S p) = true ∧ v.1 = 0 ∧ aiFill S U (aiRole S p) x v = true ∧ aiModR mods (aiRole S p) x.2.1.toNat (x.2.2.1 - x.2.1 + 1).toNat = true ∧ aiGdR U (aiRole S p) x.2.1.toNat (x.2.2.1 - x.2.1 + 1).toNat v = true then some ((A.1, aiDropK S (aiRole S p) 255 R, aiStF S A v x p), 1) else none
    | _ => none
  | .bastore => match A.2.1 with
    | v :: x :: p :: R => if aiIsR p = true ∧ 0 < aiRole S p ∧ (S.2.1 (aiRole S p) = 101 ∨ S.2.1 (aiRole S p) = 102) ∧ aiIx S x (aiRole S p) = true ∧ v.1 = 0 ∧ aiFill S U (aiRole S p) x (aiBv S (aiRole S p)) = true ∧ aiMod mods (aiRole S p) 255 = true ∧ aiGdR U (aiRole S p) x.2.1.toNat (x.2.2.1 - x.2.1 + 1).toNat (aiBv S (aiRole S p)) = true then some ((A.1, aiDropK S (aiRole S p) 255 R, aiDropR S (aiRole S p) 255 A.2.2), 1) else none
    | _ => none
  | .lastore => match A.2.1 with
    | v :: x :: p :: R => if aiIsR p = true ∧ 0 < aiRole S p ∧ S.2.1 (aiRole S p) = 103 ∧ aiIx S x (aiRole S p) = true ∧ v.1 = 1 ∧ aiFill S U (aiRole S p) x v = true ∧ aiMod mods (aiRole S p) 255 = true ∧ aiGdR U (aiRole S p) x.2.1.toNat (x.2.2.1 - x.2.1 + 1).toNat v = true then some ((A.1, aiDropK S (aiRole S p) 255 R, aiDropR S (aiRole S p) 255 A.2.2), 1) else none
    | _ => none
  | i => match A.2.1 with
    | x :: p :: R => if aiIsR p = true ∧ 0 < aiRole S p ∧ mjAld i (S.2.1 (aiRole S p)) = true ∧ aiIx S x (aiRole S p) = true then
        (match aiElem S U (aiRole S p) x.2.1.toNat (x.2.2.1 - x.2.1 + 1).toNat with | some t => some ((A.1, aiEl A.2.2 p x t :: R, A.2.2), 1) | none => none) else none
    | _ => none
section AiH
variable {S : MjSp} {U : MjU} {J : MjW → Prop} {τ : Nat → Int} {ls : MjL} {st : List Value} {w : MjW} {mods : List (Nat × Nat)}
theorem aiIsR_ok {v : Value} {p : MjQ} (h : aiIsR p = true) (hd : mjDn S v p) : ∃ a : Nat, v = .ref a ∧ S.1 a = aiRole S p ∧ (p.1 = 3 → a = p.2.1.toNat) := by
  unfold aiIsR at h
  simp only [decide_eq_true_eq] at h
  unfold mjDn at hd
  unfold aiRole
  rcases h.1 with e | e <;> rw [e] at hd
  · obtain ⟨a, rfl, ha⟩ := hd
    refine ⟨a, rfl, ?_, fun e2 => by omega⟩
    rw [if_neg (by omega), if_pos e]; omega
  · obtain ⟨a, rfl, ha⟩ := hd
    refine ⟨a, rfl, ?_, fun _ => by omega⟩
    rw [if_pos e, show p.2.1.toNat = a by omega]
theorem aiTy_ok {v : Value} {t : MjTy} (h : mjHasT S v t) : mjDn S v (aiTy t) := by
  unfold mjHasT at h
  unfold mjDn aiTy
  split at h
  · rename_i e; simp only [e, if_true]; exact h
  · rename_i e; simp only [e]; exact h
  · rename_i e; simp only [e]; exact h
  · rename_i e; simp only [e]; exact h
  · rename_i h0 h1 h2 h6
    rw [if_neg h0, if_neg h1, if_neg h2, if_neg h6]
    exact h
theorem aiSub_ok {v : Value} {p q : MjQ} (h : aiSub S p q = true) (hd : mjDn S v p) : mjDn S v q := by
  unfold aiSub at h
  unfold mjDn at hd ⊢
  split at h
  · rename_i e
    simp only [decide_eq_true_eq] at h
    rw [h.1] at hd
    simp only [e]
    obtain ⟨x, rfl, hx⟩ := hd
    exact ⟨x, rfl, hx.mono h.2.1 h.2.2⟩
  · rename_i e
    rw [Nat.eq_of_beq_eq_true h] at hd
    simp only [e]
    exact hd
  · rename_i e
    simp only [decide_eq_true_eq] at h
    simp only [e]
    rcases h with ⟨h1, h2⟩ | ⟨h1, h2, h3⟩
    · rw [h1] at hd; rw [← h2]; exact hd
    · rw [h1] at hd
      obtain ⟨a, rfl, ha⟩ := hd
      refine ⟨a, rfl, ?_⟩
      rw [← h3, ← ha]; rfl
  · rename_i e
    simp only [decide_eq_true_eq] at h
    simp only [e]
    rw [h.1] at hd; rw [← h.2]; exact hd
  · rename_i e
    simp only [decide_eq_true_eq] at h
    simp only [e]
    rw [h.1] at hd; rw [← h.2]; exact hd
  · rename_i e
    simp only [decide_eq_true_eq] at h
    simp only [e]
    rcases h with h | h | h <;> rw [h] at hd
    · obtain ⟨a, rfl, -⟩ := hd; exact ⟨a, rfl⟩
    · obtain ⟨a, rfl, -⟩ := hd; exact ⟨a, rfl⟩
    · exact hd
  · rename_i e
    simp only [e]
  · cases h
theorem aiTy_back {v : Value} {t : MjTy} (h : mjDn S v (aiTy t)) : mjHasT S v t := by
  unfold mjHasT
  unfold mjDn aiTy at h
  split
  · rename_i e; simp only [e, if_true] at h; exact h
  · rename_i e; simp only [e] at h; exact h
  · rename_i e; simp only [e] at h; exact h
  · rename_i e; simp only [e] at h; exact h
  · rename_i h0 h1 h2 h6
    rw [if_neg h0, if_neg h1, if_neg h2, if_neg h6] at h
    exact h
theorem aiFitT_ok {v : Value} {p : MjQ} {ty : FieldType} (h : aiFitT ty p = true) (hd : mjDn S v p) : mjFit ty v = true := by
  unfold aiFitT at h
  unfold mjDn at hd
  split at h
  · rw [Nat.eq_of_beq_eq_true h] at hd
    obtain ⟨x, rfl, -⟩ := hd
    simp [mjFit, narrow, fits]
  · simp only [decide_eq_true_eq] at h
    rw [h.1] at hd
    obtain ⟨x, rfl, hx⟩ := hd
    have x1 := hx.1; have x2 := hx.2
    have : x = 0 ∨ x = 1 := by
      have e : x.toInt = 0 ∨ x.toInt = 1 := by omega
      rcases e with e | e
      · exact Or.inl (Int32.toInt_inj.mp (by rw [e]; rfl))
      · exact Or.inr (Int32.toInt_inj.mp (by rw [e]; rfl))
    rcases this with rfl | rfl <;> decide
  · rw [Nat.eq_of_beq_eq_true h] at hd
    obtain ⟨x, rfl⟩ := hd
    simp [mjFit, narrow, fits]
  · simp only [decide_eq_true_eq] at h
    rcases h with e | e <;> rw [e] at hd <;> (obtain ⟨a, rfl, -⟩ := hd; rfl)
  · simp only [decide_eq_true_eq] at h
    rcases h with e | e <;> rw [e] at hd <;> (obtain ⟨a, rfl, -⟩ := hd; rfl)
  · cases h
theorem mjSk_keep {w1 : MjW} {g : MjQ → MjQ} (hg : ∀ (v : Value) (p : MjQ), mjDn S v p → mjPv ls w v p → mjDn S v (g p) ∧ mjPv ls w1 v (g p)) : ∀ {st : List Value} {K : List MjQ}, mjSk S ls w st K → mjSk S ls w1 st (K.map g)
  | [], [], _ => trivial
  | [], _ :: _, h => h
  | _ :: _, [], h => h
  | v :: _, p :: _, h => ⟨hg v p h.1.1 h.1.2, mjSk_keep hg h.2⟩
/-- links to what may have changed go; the others' fields stayed -/
theorem mjPv_keep {w1 : MjW} {v : Value} {p : MjQ} (h : mjPv ls w v p) (hk : 64 ≤ p.2.2.2.1 → mjFld w1 ((p.2.2.2.1 - 64) / 100) ((p.2.2.2.1 - 64) % 100) = mjFld w ((p.2.2.2.1 - 64) / 100) ((p.2.2.2.1 - 64) % 100)) : mjPv ls w1 v p := by
  rcases h with h | ⟨x, u, e1, e2, e3⟩
  · exact Or.inl h
  · refine Or.inr ⟨x, u, e1, ?_, e3⟩
    unfold mjSrc at e2 ⊢
    split at e2
    · rename_i hl; rw [if_pos hl]; exact e2
    · rename_i hl; rw [if_neg hl, hk (by omega)]; exact e2
theorem aiDropK_ok {w1 : MjW} {r k : Nat} {K : List MjQ} (hoff : ∀ b j, ¬ (S.1 b = r ∧ (k = 255 ∨ j = k)) → mjFld w1 b j = mjFld w b j) (h : mjSk S ls w st K) : mjSk S ls w1 st (aiDropK S r k K) := by
  unfold aiDropK
  refine mjSk_keep (fun v p hd hp => ?_) h
  split
  · exact ⟨hd, Or.inl rfl⟩
  · rename_i hc
    refine ⟨hd, mjPv_keep hp (fun h64 => hoff _ _ (fun hz => hc ⟨h64, hz.1, hz.2⟩))⟩
theorem aiDropR_ok {w1 : MjW} {r k : Nat} {F : List MjFa} (hoff : ∀ b j, ¬ (S.1 b = r ∧ (k = 255 ∨ j = k)) → mjFld w1 b j = mjFld w b j) (h : mjFs S τ w F) : mjFs S τ w1 (aiDropR S r k F) := by
  intro q hq
  unfold aiDropR at hq
  obtain ⟨h1, h2⟩ := List.mem_filter.mp hq
  obtain ⟨v, g1, g2⟩ := h q h1
  refine ⟨v, ?_, g2⟩
  rw [hoff _ _ ?_]
  · exact g1
  · intro hz
    simp only [Bool.not_eq_true', Bool.and_eq_false_iff, Bool.or_eq_false_iff] at h2
    rcases h2 with h2 | ⟨h2, h3⟩
    · rw [hz.1] at h2; simp [Nat.beq_refl] at h2
    · rcases hz.2 with e | e
      · rw [e] at h2; cases h2
      · rw [e] at h3; simp [Nat.beq_refl] at h3
theorem aiUnlinkF_ok {w1 : MjW} {a k : Nat} {K : List MjQ} (hk : k < 100) (hoff : mjOff w w1 a k) (h : mjSk S ls w st K) : mjSk S ls w1 st (aiUnlink (64 + a * 100 + k) K) := by
  unfold aiUnlink
  refine mjSk_keep (fun v p hd hp => ?_) h
  split
  · exact ⟨hd, Or.inl rfl⟩
  · rename_i hc
    refine ⟨hd, mjPv_keep hp (fun h64 => hoff _ _ (fun e1 e2 => hc (by omega)))⟩
theorem aiDropF_ok {w1 : MjW} {a k : Nat} {F : List MjFa} (hoff : mjOff w w1 a k) (h : mjFs S τ w F) : mjFs S τ w1 (aiDropF a k F) := by
  intro q hq
  unfold aiDropF at hq
  obtain ⟨h1, h2⟩ := List.mem_filter.mp hq
  obtain ⟨v, g1, g2⟩ := h q h1
  refine ⟨v, ?_, g2⟩
  rw [hoff _ _ ?_]
  · exact g1
  · intro e1 e2
    rw [e1, e2] at h2
    simp [Nat.beq_refl] at h2
theorem mjKp_off {w1 : MjW} {a k : Nat} (hm : aiMod mods (S.1 a) k = true) (hs : mjShp w1 = mjShp w) (hoff : mjOff w w1 a k) : mjKp S mods w w1 := by
  refine ⟨hs, ?_⟩
  intro b j hb
  refine hoff b j (fun e1 e2 => ?_)
  rw [e1, e2, hm] at hb
  cases hb
theorem aiIx_ok {v : Value} {p : MjQ} {r : Nat} (h : aiIx S p r = true) (hd : mjDn S v p) : ∃ x : Int32, v = .int x ∧ ¬ x < 0 ∧ x.toNatClampNeg < S.2.2.1 r ∧ p.2.1.toNat ≤ x.toNatClampNeg ∧ x.toNatClampNeg < p.2.1.toNat + (p.2.2.1 - p.2.1 + 1).toNat := by
  unfold aiIx at h
  simp only [decide_eq_true_eq] at h
  unfold mjDn at hd
  rw [h.1] at hd
  obtain ⟨x, rfl, hx⟩ := hd
  obtain ⟨i0, i1, i2⟩ := mj_ix (n := S.2.2.1 r) hx h.2.1 h.2.2.2
  have x1 := hx.1; have x2 := hx.2
  exact ⟨x, rfl, i0, i1, by omega, by omega⟩
theorem aiTyLe_ok {v : Value} {t u : MjTy} (h : aiTyLe t u = true) (hd : mjHasT S v t) : mjHasT S v u := by
  unfold aiTyLe at h
  simp only [decide_eq_true_eq] at h
  rcases h with h | ⟨h1, h2, h3, h4⟩ | ⟨h1, h2⟩
  · rw [← h]; exact hd
  · unfold mjHasT at hd ⊢
    rw [h1] at hd
    rw [h2]
    obtain ⟨x, rfl, hx⟩ := hd
    exact ⟨x, rfl, hx.mono h3 h4⟩
  · unfold mjHasT at hd ⊢
    rw [h1]
    rcases h2 with h | h | h <;> rw [h] at hd
    · obtain ⟨a, rfl, -⟩ := hd; exact ⟨a, rfl⟩
    · obtain ⟨a, rfl, -⟩ := hd; exact ⟨a, rfl⟩
    · exact hd
theorem aiElem_ok (hU : mjUok S U J) {r lo n j : Nat} {t : MjTy} {v : Value} (h : aiElem S U r lo n = some t) (h1 : lo ≤ j) (h2 : j < lo + n) (hv : mjHasT S v (S.2.2.2 r j)) : mjHasT S v t := by
  unfold aiElem at h
  split at h
  · rename_i hu
    cases h
    rw [← hU.1 r j hu]
    exact hv
  · simp only at h
    split at h
    · rename_i ha
      cases h
      have := List.all_eq_true.mp ha (j - lo) (List.mem_range.mpr (by omega))
      rw [show lo + (j - lo) = j by omega] at this
      exact aiTyLe_ok this hv
    · cases h
theorem aiFill_ok (hU : mjUok S U J) {r j : Nat} {x v : MjQ} {u : Value} (h : aiFill S U r x v = true) (h1 : x.2.1.toNat ≤ j) (h2 : j < x.2.1.toNat + (x.2.2.1 - x.2.1 + 1).toNat) (hv : mjDn S u v) : mjHasT S u (S.2.2.2 r j) := by
  unfold aiFill at h
  split at h
  · rename_i hu
    rw [hU.1 r j hu]
    exact aiTy_back (aiSub_ok h hv)
  · have := List.all_eq_true.mp h (j - x.2.1.toNat) (List.mem_range.mpr (by omega))
    rw [show x.2.1.toNat + (j - x.2.1.toNat) = j by omega] at this
    exact aiTy_back (aiSub_ok this hv)
theorem mj_nbyte (x : Int32) : ∃ z : Int32, narrow .byte (.int x) = .int z ∧ mjB z (-128) 127 := ⟨x.toInt8.toInt32, rfl, mj_i2b x⟩
theorem mj_nbool (x : Int32) : ∃ z : Int32, narrow .boolean (.int x) = .int z ∧ mjB z 0 1 := ⟨x &&& 1, rfl, by
  have := mj_and_r (x := x) (z := 1) (by decide)
  have e : (1 : Int32).toInt = 1 := rfl
  rw [e] at this
  exact this⟩
/-- a store to an array of a role -/
theorem mj_arrst {a r j : Nat} {v : Value} (hU : mjUok S U J) (hg : mjGdV (U.2 r j) v) (hI : mjInv S J w) (ha : S.1 a = r) (hr : 0 < r) (hj : j < S.2.2.1 r) (hv : mjHasT S v (S.2.2.2 r j)) (hm : aiMod mods r j = true) : ∃ vs : List Value, w[a]? = some (S.2.1 r, vs) ∧ j < vs.length ∧ mjInv S J (w.set a (S.2.1 r, vs.set j v)) ∧ (∀ b i, ¬ (S.1 b = r ∧ (255 = 255 ∨ i = 255)) → mjFld (w.set a (S.2.1 r, vs.set j v)) b i = mjFld w b i) ∧ mjKp S mods w (w.set a (S.2.1 r, vs.set j v)) ∧ mjFld (w.set a (S.2.1 r, vs.set j v)) a j = some v ∧ mjOff w (w.set a (S.2.1 r, vs.set j v)) a j := by
  obtain ⟨vs, h1, h2, h3⟩ := hI.at ha hr
  have hlt : j < vs.length := by rw [h2]; exact hj
  obtain ⟨f1, f2⟩ := mjFld_set (v := v) h1 hlt
  refine ⟨vs, h1, hlt, hI.set hU h1 (by rw [ha]; exact hv) hlt (by rw [ha]; exact hg), fun b i hn => f2 b i (fun e _ => hn ⟨by rw [e]; exact ha, Or.inl rfl⟩), ⟨mjShp_set h1 List.length_set, fun b i hb => f2 b i (fun e e2 => ?_)⟩, f1, f2⟩
  rw [e, e2, ha, hm] at hb
  cases hb
theorem aiJF_ok {F : List MjFa} {a lo : Nat} (hf : mjFs S τ w F) : ∀ {n : Nat} {q : Int × Int}, aiJF F a lo n = some q → ∀ (j : Nat) (v : Value), lo ≤ j → j ≤ lo + n → mjFld w a j = some v → ∃ x : Int32, v = .int x ∧ mjB x q.1 q.2
  | 0, q, h, j, v, h1, h2, hv => by
    unfold aiJF at h
    split at h
    · rename_i f hF
      split at h
      · rename_i h0
        cases h
        obtain ⟨u, e1, e2, -⟩ := hf _ (aiFind_mem hF)
        have ej : j = lo := by omega
        subst ej
        simp only at e1
        rw [hv] at e1; cases e1
        unfold mjDn at e2
        simp only at e2
        rw [h0] at e2
        exact e2
      · cases h
    · cases h
  | n + 1, q, h, j, v, h1, h2, hv => by
    unfold aiJF at h
    split at h
    · rename_i t ht
      split at h
      · rename_i f hF
        split at h
        · rename_i h0
          cases h
          by_cases e : j ≤ lo + n
          · obtain ⟨x, e1, e2⟩ := aiJF_ok hf ht j v h1 e hv
            exact ⟨x, e1, e2.mono (by dsimp only; split <;> omega) (by dsimp only; split <;> omega)⟩
          · have ej : j = lo + (n + 1) := by omega
            subst ej
            obtain ⟨u, e1, e2, -⟩ := hf _ (aiFind_mem hF)
            simp only at e1
            rw [hv] at e1; cases e1
            unfold mjDn at e2
            simp only at e2
            rw [h0] at e2
            obtain ⟨x, rfl, hx⟩ := e2
            exact ⟨x, rfl, hx.mono (by dsimp only; split <;> omega) (by dsimp only; split <;> omega)⟩
        · cases h
      · cases h
    · cases h
theorem aiEl_ok {F : List MjFa} {p x : MjQ} {t : MjTy} {r a j : Nat} {v : Value} (c4 : aiIx S x r = true) (ha3 : p.1 = 3 → a = p.2.1.toNat) (i2 : x.2.1.toNat ≤ j) (i3 : j < x.2.1.toNat + (x.2.2.1 - x.2.1 + 1).toNat) (hv : mjHasT S v t) (hf : mjFs S τ w F) (hfl : mjFld w a j = some v) : mjDn S v (aiEl F p x t) ∧ mjPv ls w v (aiEl F p x t) := by
  unfold aiIx at c4
  simp only [decide_eq_true_eq] at c4
  unfold aiEl
  split
  · rename_i hc
    have e3 := ha3 hc.1
    subst e3
    have hint : ∃ z : Int32, v = .int z ∧ mjB z t.2.1 t.2.2 := by
      unfold mjHasT at hv; rw [hc.2.2] at hv; exact hv
    have pv : ∀ (z : Int32), v = .int z → (if x.2.1 = x.2.2.1 then 64 + p.2.1.toNat * 100 + x.2.1.toNat else 0) = 0 ∨ ∃ y u : Int32, v = .int y ∧ mjSrc ls w (if x.2.1 = x.2.2.1 then 64 + p.2.1.toNat * 100 + x.2.1.toNat else 0) = some (.int u) ∧ y.toInt = u.toInt + 0 := by
      intro z ez
      split
      · rename_i e
        have ej : j = x.2.1.toNat := by omega
        have hj : x.2.1.toNat < 100 := by omega
        refine Or.inr ⟨z, z, ez, ?_, by omega⟩
        unfold mjSrc
        rw [if_neg (by omega), show (64 + p.2.1.toNat * 100 + x.2.1.toNat - 64) / 100 = p.2.1.toNat by omega, show (64 + p.2.1.toNat * 100 + x.2.1.toNat - 64) % 100 = x.2.1.toNat by omega, ← ej, hfl, ez]
      · exact Or.inl rfl
    split
    · rename_i q hq
      obtain ⟨z, e1, e2⟩ := aiJF_ok hf hq j v i2 (by omega) hfl
      exact ⟨⟨z, e1, e2⟩, pv z e1⟩
    · obtain ⟨z, e1, e2⟩ := hint
      exact ⟨⟨z, e1, e2⟩, pv z e1⟩
  · refine ⟨aiTy_ok hv, Or.inl rfl⟩
theorem aiStF_ok {A : MjSt} {v x p : MjQ} {r a j : Nat} {z : Int32} {w1 : MjW} (c4 : aiIx S x r = true) (c5 : v.1 = 0) (ha3 : p.1 = 3 → a = p.2.1.toNat) (i2 : x.2.1.toNat ≤ j) (i3 : j < x.2.1.toNat + (x.2.2.1 - x.2.1 + 1).toNat) (g4 : ∀ b i, ¬ (S.1 b = aiRole S p ∧ (255 = 255 ∨ i = 255)) → mjFld w1 b i = mjFld w b i) (g6 : mjFld w1 a j = some (.int z)) (g7 : mjOff w w1 a j) (hl : mjLo S τ ls A.1) (hf : mjFs S τ w A.2.2) (hdv : mjDn S (.int z) v) (hpv : mjPv ls w (.int z) v) : mjFs S τ w1 (aiStF S A v x p) := by
  unfold aiIx at c4
  simp only [decide_eq_true_eq] at c4
  unfold aiStF
  split
  · rename_i h3
    have e3 := ha3 h3
    subst e3
    intro q hq
    rcases List.mem_append.mp hq with hq | hq
    · split at hq
      · rename_i hc
        rcases List.mem_cons.mp hq with rfl | hq
        · have ej : j = x.2.1.toNat := by omega
          refine ⟨.int z, by rw [← ej]; exact g6, ?_, aiStart_ok (A := A) hl hf hpv v.2.1 v.2.2.1⟩
          unfold mjDn at hdv
          rw [c5] at hdv
          exact hdv
        · cases hq
      · cases hq
    · rw [List.mem_filter] at hq
      obtain ⟨u, e1, e2, e4⟩ := hf q hq.1
      refine ⟨u, ?_, e2, e4⟩
      rw [g7 q.1 q.2.1 (fun f1 f2 => ?_)]
      · exact e1
      · have h5 := hq.2
        rw [f1, f2, Nat.beq_refl, Nat.ble_eq_true_of_le i2, Nat.ble_eq_true_of_le (show j ≤ x.2.2.1.toNat by omega)] at h5
        cases h5
  · exact aiDropR_ok g4 hf
set_option maxHeartbeats 2000000 in
theorem aiH_ok (hU : mjUok S U J) {ins : Instr} {inf : List Nat} {A A1 : MjSt} {n : Nat} (h : aiH S U mods ins inf A = some (A1, n)) (hr : mjRl S J τ ls st w A) : ∃ (st1 : List Value) (w1 : MjW), mjH ins inf st w = some (st1, w1, n) ∧ mjRl S J τ ls st1 w1 A1 ∧ mjKp S mods w w1 := by
  obtain ⟨hI, hl, hk, hf⟩ := hr
  unfold aiH at h
  split at h
  · -- getfield
    split at h
    · rename_i p R hK
      rw [hK] at hk
      obtain ⟨v, st1, rfl, hd, -, hk2⟩ := hk.uncons
      split at h
      · rename_i ci k tl
        split at h
        · rename_i hc
          obtain ⟨c1, c2, c3, c4, c5⟩ := hc
          obtain ⟨a, rfl, ha, ha3⟩ := aiIsR_ok c1 hd
          obtain ⟨vs, g1, g2, g3⟩ := hI.at ha c2
          have hv : vs[k]? = some vs[k] := List.getElem?_eq_getElem (by rw [g2]; exact c4)
          have hfl : mjFld w a k = some vs[k] := by unfold mjFld; rw [g1]; exact hv
          have hm : ∀ idx, mjH (.getfield idx) (ci :: k :: tl) (.ref a :: st1) w = some (vs[k] :: st1, w, 3) := by
            intro idx; unfold mjH; simp only [g1, c3, if_true, hv]
          have hty := aiTy_ok (g3 k _ hv)
          split at h
          · rename_i h3
            have ea := ha3 h3
            simp only at h
            cases h
            refine ⟨_, w, hm _, ⟨hI, hl, mjSk.cons ?_ ?_ hk2, hf⟩, mjKp.refl⟩
            · show mjDn S vs[k] _
              cases hfd : aiFind A.2.2 p.2.1.toNat k with
              | none => exact hty
              | some f =>
                obtain ⟨v', k1, k2, -⟩ := hf _ (aiFind_mem hfd)
                simp only at k1
                rw [← ea, hfl] at k1
                cases k1
                exact k2
            · show mjPv ls w vs[k] _
              have hdn : mjDn S vs[k] (match aiFind A.2.2 p.2.1.toNat k with | some f => f | none => aiTy (S.2.2.2 (aiRole S p) k)) := by
                cases hfd : aiFind A.2.2 p.2.1.toNat k with
                | none => exact hty
                | some f =>
                  obtain ⟨v', k1, k2, -⟩ := hf _ (aiFind_mem hfd)
                  simp only at k1
                  rw [← ea, hfl] at k1
                  cases k1
                  exact k2
              generalize (match aiFind A.2.2 p.2.1.toNat k with | some f => f | none => aiTy (S.2.2.2 (aiRole S p) k)) = q at hdn ⊢
              unfold mjPv
              simp only
              split
              · rename_i hq0
                unfold mjDn at hdn
                rw [hq0] at hdn
                obtain ⟨x, ex, -⟩ := hdn
                refine Or.inr ⟨x, x, ex, ?_, by simp⟩
                unfold mjSrc
                rw [if_neg (by omega), show (64 + p.2.1.toNat * 100 + k - 64) / 100 = a by omega, show (64 + p.2.1.toNat * 100 + k - 64) % 100 = k by omega, hfl, ex]
              · exact Or.inl rfl
          · cases h
            exact ⟨_, w, hm _, ⟨hI, hl, mjSk.cons hty (Or.inl rfl) hk2, hf⟩, mjKp.refl⟩
        · cases h
      · cases h
    · cases h
  · -- putfield
    split at h
    · rename_i v p R hK
      rw [hK] at hk
      obtain ⟨u, st1, rfl, hdv, hpv, hk2⟩ := hk.uncons
      obtain ⟨v2, st2, rfl, hd, -, hk3⟩ := hk2.uncons
      split at h
      · rename_i ci k tl
        split at h
        · rename_i hc
          obtain ⟨c1, c2, c3, c4, c5, c6, c7, c8, c9⟩ := hc
          obtain ⟨a, rfl, ha, ha3⟩ := aiIsR_ok c1 hd
          obtain ⟨vs, g1, g2, g3⟩ := hI.at ha c2
          rw [c3] at g1
          have hlt : k < vs.length := by rw [g2]; exact c4
          obtain ⟨f1, f2⟩ := mjFld_set (v := u) g1 hlt
          have hT : mjHasT S u (S.2.2.2 (S.1 a) k) := by rw [ha]; exact aiTy_back (aiSub_ok c6 hdv)
          have hI1 := hI.set hU g1 hT hlt (by rw [ha]; exact aiGd_ok c9 hdv)
          have hm : ∀ idx, mjH (.putfield idx) (ci :: k :: tl) (u :: .ref a :: st2) w = some (st2, w.set a (ci, vs.set k u), 3) := by
            intro idx; unfold mjH; simp only [g1]
            rw [if_pos ⟨trivial, hlt, aiFitT_ok c7 hdv⟩]
          have hkp : mjKp S mods w (w.set a (ci, vs.set k u)) := mjKp_off (by rw [ha]; exact c8) (mjShp_set g1 List.length_set) f2
          split at h
          · rename_i h3
            have ea := ha3 h3
            cases h
            refine ⟨st2, _, hm _, ⟨hI1, hl, ?_, fun q hq => ?_⟩, hkp⟩
            · rw [← ea]; exact aiUnlinkF_ok c5 f2 hk3
            · rw [← ea] at hq
              rcases List.mem_cons.mp hq with e | e
              · subst e
                refine ⟨u, f1, hdv, ?_⟩
                show mjSy τ u (v.1, v.2.1, v.2.2.1, if v.1 = 0 then aiStart A v else (0, 0))
                split
                · rename_i hv0
                  have hdv2 := hdv
                  unfold mjDn at hdv2
                  rw [hv0] at hdv2
                  obtain ⟨x, rfl, -⟩ := hdv2
                  exact aiStart_ok (A := A) hl hf hpv v.2.1 v.2.2.1
                · exact Or.inl rfl
              · exact aiDropF_ok f2 hf q e
          · cases h
            have hoff : ∀ b j, ¬ (S.1 b = aiRole S p ∧ (k = 255 ∨ j = k)) → mjFld (w.set a (ci, vs.set k u)) b j = mjFld w b j := fun b j hn => f2 b j (fun e1 e2 => hn ⟨by rw [e1]; exact ha, Or.inr e2⟩)
            exact ⟨st2, _, hm _, ⟨hI1, hl, aiDropK_ok hoff hk3, aiDropR_ok hoff hf⟩, hkp⟩
        · cases h
      · cases h
    · cases h
  · -- arraylength
    split at h
    · rename_i p R hK
      rw [hK] at hk
      obtain ⟨v, st1, rfl, hd, -, hk2⟩ := hk.uncons
      split at h
      · rename_i hc
        obtain ⟨c1, c2, c3, c4, c5⟩ := hc
        cases h
        obtain ⟨a, rfl, ha, -⟩ := aiIsR_ok c1 hd
        obtain ⟨vs, g1, g2, g3⟩ := hI.at ha c2
        refine ⟨.int (Int32.ofNat vs.length) :: st1, w, ?_, ⟨hI, hl, mjSk.cons ⟨_, rfl, ?_⟩ (Or.inl rfl) hk2, hf⟩, mjKp.refl⟩
        · unfold mjH; simp only [g1]; rw [if_pos ⟨c3, c4⟩]
        · rw [g2]
          have := nI_toInt (n := S.2.2.1 (aiRole S p)) (by omega)
          unfold mjB
          show _ ≤ (nI _).toInt ∧ (nI _).toInt ≤ _
          rw [this]
          exact ⟨Int.le_refl _, Int.le_refl _⟩
      · cases h
    · cases h
  · -- iastore
    split at h
    · rename_i v x p R hK
      rw [hK] at hk
      obtain ⟨u, st1, rfl, hdv, hpv, hk2⟩ := hk.uncons
      obtain ⟨u2, st2, rfl, hdx, -, hk3⟩ := hk2.uncons
      obtain ⟨u3, st3, rfl, hd, -, hk4⟩ := hk3.uncons
      split at h
      · rename_i hc
        obtain ⟨c1, c2, c3, c4, c5, c6, c7, c8⟩ := hc
        cases h
        obtain ⟨a, rfl, ha, ha3⟩ := aiIsR_ok c1 hd
        obtain ⟨xi, rfl, i0, i1, i2, i3⟩ := aiIx_ok c4 hdx
        have hdv2 := hdv
        unfold mjDn at hdv2
        rw [c5] at hdv2
        obtain ⟨z, rfl, -⟩ := hdv2
        obtain ⟨vs, g1, g2, g3, g4, g5, g6, g7⟩ := mj_arrst (mods := mods) hU (aiGdR_ok hU c8 i2 i3 hdv) hI ha c2 i1 (aiFill_ok hU c6 i2 i3 hdv) (aiModR_ok c7 i2 i3)
        rw [c3] at g1 g3 g4 g5 g6 g7
        refine ⟨st3, _, ?_, ⟨g3, hl, aiDropK_ok g4 hk4, aiStF_ok (a := a) (j := xi.toNatClampNeg) (z := z) c4 c5 ha3 i2 i3 g4 g6 g7 hl hf hdv hpv⟩, g5⟩
        unfold mjH; simp only [g1, if_true, mjWr]
        rw [if_neg i0, if_pos g2]
      · cases h
    · cases h
  · -- bastore
    split at h
    · rename_i v x p R hK
      rw [hK] at hk
      obtain ⟨u, st1, rfl, hdv, -, hk2⟩ := hk.uncons
      obtain ⟨u2, st2, rfl, hdx, -, hk3⟩ := hk2.uncons
      obtain ⟨u3, st3, rfl, hd, -, hk4⟩ := hk3.uncons
      split at h
      · rename_i hc
        obtain ⟨c1, c2, c3, c4, c5, c6, c7, c8⟩ := hc
        cases h
        obtain ⟨a, rfl, ha, -⟩ := aiIsR_ok c1 hd
        obtain ⟨xi, rfl, i0, i1, i2, i3⟩ := aiIx_ok c4 hdx
        have hdv2 := hdv
        unfold mjDn at hdv2
        rw [c5] at hdv2
        obtain ⟨z, rfl, -⟩ := hdv2
        rcases c3 with c3 | c3
        · unfold aiBv at c6 c8; rw [if_pos c3] at c6 c8
          obtain ⟨z2, ez, hz⟩ := mj_nbyte z
          obtain ⟨vs, g1, g2, g3, g4, g5, g6, g7⟩ := mj_arrst (mods := mods) (v := .int z2) hU (aiGdR_ok (S := S) (v := .int z2) hU c8 i2 i3 ⟨z2, rfl, hz⟩) hI ha c2 i1 (aiFill_ok hU c6 i2 i3 ⟨z2, rfl, hz⟩) (aiMod_255 c7)
          rw [c3] at g1 g3 g4 g5 g6 g7
          refine ⟨st3, _, ?_, ⟨g3, hl, aiDropK_ok g4 hk4, aiDropR_ok g4 hf⟩, g5⟩
          unfold mjH; simp only [g1, if_true, mjWr, ez]
          rw [if_neg i0, if_pos g2]
        · unfold aiBv at c6 c8; rw [if_neg (by omega)] at c6 c8
          obtain ⟨z2, ez, hz⟩ := mj_nbool z
          obtain ⟨vs, g1, g2, g3, g4, g5, g6, g7⟩ := mj_arrst (mods := mods) (v := .int z2) hU (aiGdR_ok (S := S) (v := .int z2) hU c8 i2 i3 ⟨z2, rfl, hz⟩) hI ha c2 i1 (aiFill_ok hU c6 i2 i3 ⟨z2, rfl, hz⟩) (aiMod_255 c7)
          rw [c3] at g1 g3 g4 g5 g6 g7
          refine ⟨st3, _, ?_, ⟨g3, hl, aiDropK_ok g4 hk4, aiDropR_ok g4 hf⟩, g5⟩
          unfold mjH; simp only [g1, if_true, mjWr, ez]
          rw [if_neg (show ¬ 102 = 101 by decide), if_neg i0, if_pos g2]
      · cases h
    · cases h
  · -- lastore
    split at h
    · rename_i v x p R hK
      rw [hK] at hk
      obtain ⟨u, st1, rfl, hdv, -, hk2⟩ := hk.uncons
      obtain ⟨u2, st2, rfl, hdx, -, hk3⟩ := hk2.uncons
      obtain ⟨u3, st3, rfl, hd, -, hk4⟩ := hk3.uncons
      split at h
      · rename_i hc
        obtain ⟨c1, c2, c3, c4, c5, c6, c7, c8⟩ := hc
        cases h
        obtain ⟨a, rfl, ha, -⟩ := aiIsR_ok c1 hd
        obtain ⟨xi, rfl, i0, i1, i2, i3⟩ := aiIx_ok c4 hdx
        have hdv2 := hdv
        unfold mjDn at hdv2
        rw [c5] at hdv2
        obtain ⟨z, rfl⟩ := hdv2
        obtain ⟨vs, g1, g2, g3, g4, g5, g6, g7⟩ := mj_arrst (mods := mods) hU (aiGdR_ok hU c8 i2 i3 hdv) hI ha c2 i1 (aiFill_ok hU c6 i2 i3 hdv) (aiMod_255 c7)
        rw [c3] at g1 g3 g4 g5 g6 g7
        refine ⟨st3, _, ?_, ⟨g3, hl, aiDropK_ok g4 hk4, aiDropR_ok g4 hf⟩, g5⟩
        unfold mjH; simp only [g1, if_true, mjWr]
        rw [if_neg i0, if_pos g2]
      · cases h
    · cases h
  · -- loads
    split at h
    · rename_i x p R hK
      rw [hK] at hk
      obtain ⟨u2, st2, rfl, hdx, -, hk3⟩ := hk.uncons
      obtain ⟨u3, st3, rfl, hd, -, hk4⟩ := hk3.uncons
      split at h
      · rename_i hc
        obtain ⟨c1, c2, c3, c4⟩ := hc
        obtain ⟨a, rfl, ha, ha3⟩ := aiIsR_ok c1 hd
        obtain ⟨xi, rfl, i0, i1, i2, i3⟩ := aiIx_ok c4 hdx
        split at h
        · rename_i t ht
          cases h
          obtain ⟨vs, g1, g2, g3⟩ := hI.at ha c2
          have hlt : xi.toNatClampNeg < vs.length := by rw [g2]; exact i1
          have hv : vs[xi.toNatClampNeg]? = some vs[xi.toNatClampNeg] := List.getElem?_eq_getElem hlt
          have hrd : mjRd vs xi = some vs[xi.toNatClampNeg] := by unfold mjRd; rw [if_neg i0]; exact hv
          refine ⟨vs[xi.toNatClampNeg] :: st3, w, ?_, ⟨hI, hl, mjSk.cons (aiEl_ok (ls := ls) c4 ha3 i2 i3 (aiElem_ok hU ht i2 i3 (g3 _ _ hv)) hf (by unfold mjFld; rw [g1]; exact hv)).1 (aiEl_ok c4 ha3 i2 i3 (aiElem_ok hU ht i2 i3 (g3 _ _ hv)) hf (by unfold mjFld; rw [g1]; exact hv)).2 hk4, hf⟩, mjKp.refl⟩
          generalize S.2.1 (aiRole S p) = kd at g1 c3
          unfold mjAld at c3
          split at c3
          · have := Nat.eq_of_beq_eq_true c3; subst this
            unfold mjH; simp only [g1, if_true, hrd]
          · have e : kd = 101 ∨ kd = 102 := by
              rcases Bool.or_eq_true_iff.mp c3 with q | q
              · exact Or.inl (Nat.eq_of_beq_eq_true q)
              · exact Or.inr (Nat.eq_of_beq_eq_true q)
            unfold mjH; simp only [g1]; rw [if_pos e, hrd]
          · have := Nat.eq_of_beq_eq_true c3; subst this
            unfold mjH; simp only [g1, if_true, hrd]
          · have := Nat.eq_of_beq_eq_true c3; subst this
            unfold mjH; simp only [g1, if_true, hrd]
          · cases c3
        · cases h
      · cases h
    · cases h
end AiH
