/-! ===== the checker: calls by summaries, returns, cuts ===== -/
/-- an answer, what it tells of arguments, what fields hold then -/
abbrev MjOut : Type := MjQ × List (Nat × Int × Int) × List MjFa
/-- arguments, fields before, ends, what may change, depth -/
abbrev MjSm : Type := List MjQ × List MjFa × List MjOut × List (Nat × Nat) × Nat
def mjRs (S : MjSp) (r : Option Value) (p : MjQ) : Prop := if p.1 = 7 then r = none else ∃ v, r = some v ∧ mjDn S v p
def mjArgs (S : MjSp) : List Value → List MjQ → Prop
  | [], [] => True
  | v :: as, p :: ps => mjDn S v p ∧ mjArgs S as ps
  | _, _ => False
def mjFs0 (S : MjSp) (w : MjW) (F : List MjFa) : Prop := ∀ q ∈ F, ∃ v, mjFld w q.1 q.2.1 = some v ∧ mjDn S v q.2.2
def mjPost (S : MjSp) (J : MjW → Prop) (sm : MjSm) (as : List Value) (w : MjW) : Option Value → MjW → Prop := fun r w1 => mjInv S J w1 ∧ mjKp S sm.2.2.2.1 w w1 ∧ ∃ o ∈ sm.2.2.1, mjRs S r o.1 ∧ (∀ q ∈ o.2.1, ∃ x : Int32, as[q.1]? = some (.int x) ∧ mjB x q.2.1 q.2.2) ∧ mjFs0 S w1 o.2.2
def mjCtr (S : MjSp) (J : MjW → Prop) (y : Nat) (sm : MjSm) : Prop := ∀ (sc : List Int32) (w : MjW) (as : List Value) (M : MjM), mjInv S J w → mjArgs S as sm.1 → mjFs0 S w sm.2.1 → mjMt y = some M → mjGo mjTb mjMt sc sm.2.2.2.2 y (0, mjEntry M.2.2.1 as, [], w) (mjPost S J sm as w)
def aiCatS (K : List MjQ) : Nat := (K.map (fun p => if aiCat p = true then 1 else 2)).sum
def aiAll2 (S : MjSp) : List MjQ → List MjQ → Bool
  | [], [] => true
  | p :: ps, q :: qs => aiSub S p q && aiAll2 S ps qs
  | _, _ => false
/-- a field's value is told by the facts, or by its type -/
def aiHas (S : MjSp) (F : List MjFa) (q : MjFa) : Bool := (match aiFind F q.1 q.2.1 with | some f => aiSub S f q.2.2 | none => false) || (decide (0 < S.1 q.1 ∧ q.2.1 < S.2.2.1 (S.1 q.1)) && aiSub S (aiTy (S.2.2.2 (S.1 q.1) q.2.1)) q.2.2)
def aiPick (S : MjSp) (F : List MjFa) (y : Nat) (As : List MjQ) : List (Nat × MjSm) → Option MjSm
  | [] => none
  | e :: env => if Nat.beq e.1 y && (aiAll2 S As e.2.1 && e.2.2.1.all (aiHas S F)) then some e.2 else aiPick S F y As env
def aiArgs (S : MjSp) (ins : Instr) (inf : List Nat) (K : List MjQ) : Option (Nat × List MjQ × List MjQ) := match ins with
  | .invokevirtual _ => match inf with
    | 0 :: y :: n :: ci :: _ => (match K.drop n with
      | p :: R => if n ≤ K.length ∧ aiCatS R ≤ 8 ∧ ((aiIsR p = true ∧ 0 < aiRole S p ∧ S.2.1 (aiRole S p) = ci ∧ ci < 100) ∨ (p.1 = 5 ∧ 0 ≤ p.2.1 ∧ p.2.1 < 2 ∧ ci = 200)) then some (y, p :: (K.take n).reverse, R) else none
      | [] => none)
    | _ => none
  | .invokestatic _ => match inf with
    | 0 :: y :: n :: _ => if n ≤ K.length ∧ aiCatS (K.drop n) ≤ 8 then some (y, (K.take n).reverse, K.drop n) else none
    | _ => none
  | _ => none
def aiDropKs (S : MjSp) (mods : List (Nat × Nat)) (K : List MjQ) : List MjQ := K.map (fun p => if 64 ≤ p.2.2.2.1 ∧ aiMod mods (S.1 ((p.2.2.2.1 - 64) / 100)) ((p.2.2.2.1 - 64) % 100) = true then (p.1, p.2.1, p.2.2.1, 0, 0) else p)
def aiRefs (As : List MjQ) (A : MjSt) (qs : List (Nat × Int × Int)) : MjSt := qs.foldl (fun B q => match As[q.1]? with | some p => aiRef B p.2.2.2.1 (q.2.1 - p.2.2.2.2) (q.2.2 - p.2.2.2.2) | none => B) A
def aiAfter (S : MjSp) (sm : MjSm) (As R : List MjQ) (A : MjSt) (o : MjOut) : MjSt :=
  aiRefs (aiDropKs S sm.2.2.2.1 As) (A.1, (if o.1.1 = 7 then aiDropKs S sm.2.2.2.1 R else (o.1.1, o.1.2.1, o.1.2.2.1, 0, 0) :: aiDropKs S sm.2.2.2.1 R), o.2.2.map (fun f => (f.1, f.2.1, (f.2.2.1, f.2.2.2.1, f.2.2.2.2.1, 0, 0))) ++ A.2.2.filter (fun q => !(aiMod sm.2.2.2.1 (S.1 q.1) q.2.1))) o.2.1
def aiModsIn (a b : List (Nat × Nat)) : Bool := a.all (fun m => b.any (fun k => Nat.beq k.1 m.1 && (Nat.beq k.2 255 || Nat.beq k.2 m.2)))
/-- an end that the arguments' ranges don't rule out -/
def aiFeas (As : List MjQ) (o : MjOut) : Bool := o.2.1.all (fun q => match As[q.1]? with | some p => !(Nat.beq p.1 0 && (decide (q.2.2 < p.2.1) || decide (p.2.2.1 < q.2.1))) | none => true)
def aiCall (S : MjSp) (env : List (Nat × MjSm)) (mods : List (Nat × Nat)) (d : Nat) (ins : Instr) (inf : List Nat) (A : MjSt) : Option (List MjSt) := match aiArgs S ins inf A.2.1 with
  | some q => (match aiPick S A.2.2 q.1 q.2.1 env with
    | some sm => (match mjMt q.1 with
      | some M1 => if sm.2.2.2.2 < d ∧ aiModsIn sm.2.2.2.1 mods = true ∧ aiCatS q.2.1 ≤ M1.2.2.1 ∧ 0 < q.1 then some ((sm.2.2.1.filter (aiFeas q.2.1)).map (aiAfter S sm q.2.1 q.2.2 A)) else none
      | none => none)
    | none => none)
  | none => none
/-- Math.max, Math.min -/
def aiPr (ins : Instr) (inf : List Nat) (K : List MjQ) : Option (List MjQ) := match ins with
  | .invokestatic _ => match inf with
    | 2 :: _ => (match K with | (0, a, b, _) :: (0, c, d, _) :: R => if aiCatS R ≤ 8 then some ((0, if a ≤ c then c else a, if b ≤ d then d else b, 0, 0) :: R) else none | _ => none)
    | 3 :: _ => (match K with | (0, a, b, _) :: (0, c, d, _) :: R => if aiCatS R ≤ 8 then some ((0, if a ≤ c then a else c, if b ≤ d then b else d, 0, 0) :: R) else none | _ => none)
    | _ => none
  | _ => none
/-- what a copy tells of the target's places, if that is wanted (a mark among what may change) -/
def aiCpF (S : MjSp) (mods : List (Nat × Nat)) (p1 p0 n : MjQ) : List MjFa := if aiMod mods 9999 1 = true ∧ p1.1 = 3 ∧ n.2.1 ≤ 100 then (List.range n.2.1.toNat).map (fun j => (p1.2.1.toNat, j, (0, (S.2.2.2 (aiRole S p0) 0).2.1, (S.2.2.2 (aiRole S p0) 0).2.2, 0, 0))) else []
/-- System.arraycopy between arrays of ints -/
def aiCpy (S : MjSp) (U : MjU) (mods : List (Nat × Nat)) (ins : Instr) (inf : List Nat) (A : MjSt) : Option MjSt := match ins with
  | .invokestatic _ => match inf with
    | 4 :: _ => (match A.2.1 with
      | n :: dp :: p1 :: sp :: p0 :: R => if aiIsR p1 = true ∧ aiIsR p0 = true ∧ 0 < aiRole S p1 ∧ 0 < aiRole S p0 ∧ S.2.1 (aiRole S p1) = 100 ∧ S.2.1 (aiRole S p0) = 100 ∧ (n.1 = 0 ∧ 0 ≤ n.2.1 ∧ n.2.1 = n.2.2.1) ∧ (dp.1 = 0 ∧ dp.2.1 = 0 ∧ dp.2.2.1 = 0) ∧ (sp.1 = 0 ∧ sp.2.1 = 0 ∧ sp.2.2.1 = 0) ∧ n.2.1 ≤ (S.2.2.1 (aiRole S p0) : Int) ∧ n.2.1 ≤ (S.2.2.1 (aiRole S p1) : Int) ∧ U.1 (aiRole S p0) = true ∧ U.1 (aiRole S p1) = true ∧ (S.2.2.2 (aiRole S p0) 0).1 = 0 ∧ aiTyLe (S.2.2.2 (aiRole S p0) 0) (S.2.2.2 (aiRole S p1) 0) = true ∧ aiMod mods (aiRole S p1) 255 = true ∧ aiCatS R ≤ 8 ∧ (U.2 (aiRole S p1) 255).1 = 0 then some (A.1, aiDropK S (aiRole S p1) 255 R, aiCpF S mods p1 p0 n ++ aiDropR S (aiRole S p1) 255 A.2.2) else none
      | _ => none)
    | _ => none
  | _ => none
def aiPu (ins : Instr) (inf : List Nat) : Option (MjQ × Nat) := match mjPu ins inf with
  | some (.int z, n) => some ((0, z.toInt, z.toInt, 0, 0), n)
  | some (.long _, n) => some ((1, 0, 0, 0, 0), n)
  | some (.retAddr k, n) => some ((5, (k : Int), 0, 0, 0), n)
  | _ => none
def aiObj (rt : Option FieldType) : Bool := match rt with | some (.object _) => true | _ => false
def aiRetT (rt : Option FieldType) (ins : Instr) (K : List MjQ) : Option MjQ := match ins with
  | .ireturn => match K with
    | p :: [] => if p.1 = 0 ∧ (rt = some .int ∨ (rt = some .boolean ∧ 0 ≤ p.2.1 ∧ p.2.2.1 ≤ 1) ∨ (rt = some .byte ∧ 0 ≤ p.2.1 ∧ p.2.2.1 ≤ 0)) then some p else none
    | _ => none
  | .lreturn => match K with
    | p :: [] => if p.1 = 1 ∧ rt = some .long then some p else none
    | _ => none
  | .areturn => match K with
    | p :: [] => if (p.1 = 2 ∨ p.1 = 3) ∧ aiObj rt = true then some p else none
    | _ => none
  | .return_ => match K with
    | [] => if rt = none then some (7, 0, 0, 0, 0) else none
    | _ => none
  | _ => none
def aiEnds (S : MjSp) (pr : List Nat) (outs : List MjOut) (A : MjSt) (p : MjQ) : Bool := outs.any (fun o => (bif Nat.beq o.1.1 7 then Nat.beq p.1 7 else (!(Nat.beq p.1 7) && aiSub S p o.1)) && (o.2.1.all (fun q => decide (q.1 ∈ pr) && (match A.1[q.1]? with | some l => aiSub S l (0, q.2.1, q.2.2, 0, 0) | none => false)) && o.2.2.all (aiHas S A.2.2)))
-- ===== cuts =====
/-- where, with what, and a measure of four: (0, _, c): c; (1, i, c): c less local i; (2, i, c): local i less c; (3, i, c), (4, i, c): of fact i -/
abbrev MjCut : Type := Nat × MjSt × List (Nat × Nat × Int)
def aiAllL (S : MjSp) : List MjQ → List MjQ → Bool
  | [], [] => true
  | p :: ps, q :: qs => (bif Nat.beq q.1 9 then (aiCat p || Nat.beq p.1 9) else aiSub S p q) && aiAllL S ps qs
  | _, _ => false
def aiEnt (S : MjSp) (B C : MjSt) : Bool := aiAllL S B.1 C.1 && (aiAll2 S B.2.1 C.2.1 && C.2.2.all (aiHas S B.2.2))
/-- each local and fact with its own start -/
def aiMark (L : List MjQ) (i : Nat) : List MjQ := match L with
  | [] => []
  | p :: R => (p.1, p.2.1, p.2.2.1, if p.1 = 0 then i + 1 else 0, 0) :: aiMark R (i + 1)
def aiMarkF (F : List MjFa) (i : Nat) : List MjFa := match F with
  | [] => []
  | q :: R => (q.1, q.2.1, (q.2.2.1, q.2.2.2.1, q.2.2.2.2.1, if q.2.2.1 = 0 then i + 100 else 0, 0)) :: aiMarkF R (i + 1)
def aiBegin (C : MjSt) : MjSt := (aiMark C.1 0, C.2.1.map (fun p => (p.1, p.2.1, p.2.2.1, 0, 0)), aiMarkF C.2.2 0)
/-- a component: its sign, the start that it hangs on (0: none), a number -/
def aiComp (B : MjSt) (F : List MjFa) (m : Nat × Nat × Int) : Option (Int × Nat × Int) := match m.1 with
  | 0 => some (0, 0, m.2.2)
  | 1 => (match B.1[m.2.1]? with | some p => if p.1 = 0 ∧ p.2.2.2.1 ≠ 0 then some (-1, p.2.2.2.1, m.2.2 - p.2.2.2.2) else none | none => none)
  | 2 => (match B.1[m.2.1]? with | some p => if p.1 = 0 ∧ p.2.2.2.1 ≠ 0 then some (1, p.2.2.2.1, p.2.2.2.2 - m.2.2) else none | none => none)
  | 3 => (match F[m.2.1]? with | some f => (match aiFind B.2.2 f.1 f.2.1 with | some p => if p.1 = 0 ∧ p.2.2.2.1 ≠ 0 then some (-1, p.2.2.2.1, m.2.2 - p.2.2.2.2) else none | none => none) | none => none)
  | 4 => (match F[m.2.1]? with | some f => (match aiFind B.2.2 f.1 f.2.1 with | some p => if p.1 = 0 ∧ p.2.2.2.1 ≠ 0 then some (1, p.2.2.2.1, p.2.2.2.2 - m.2.2) else none | none => none) | none => none)
  | _ => none
/-- the second list comes before the first: at the first difference it is less -/
def aiLess (B0 : MjSt) (F0 : List MjFa) (B : MjSt) (F : List MjFa) : List (Nat × Nat × Int) → List (Nat × Nat × Int) → Bool
  | m0 :: R0, m :: R => (match aiComp B0 F0 m0, aiComp B F m with
    | some a, some b => if a.1 = b.1 ∧ a.2.1 = b.2.1 then (if b.2.2 < a.2.2 then true else if b.2.2 = a.2.2 then aiLess B0 F0 B F R0 R else false) else false
    | _, _ => false)
  | _, _ => false
def aiCutAt (cuts : List MjCut) (pc : Nat) : Option MjCut := match cuts with
  | [] => none
  | c :: R => if Nat.beq c.1 pc then some c else aiCutAt R pc
