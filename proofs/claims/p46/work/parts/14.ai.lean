/-! ===== a checker of methods over a typed world: ranges of locals, stack, some fields; cuts at loop heads; summaries of callees ===== -/
/-- tag (0 int, 1 long, 2 a role, 3 an address, 5 what was there before, 7 nothing, 9 unknown), lo, hi, link, offset -/
abbrev MjQ : Type := Nat × Int × Int × Nat × Int
abbrev MjFa : Type := Nat × Nat × MjQ
/-- locals, stack, fields of addresses -/
abbrev MjSt : Type := List MjQ × List MjQ × List MjFa
def mjDn (S : MjSp) (v : Value) (p : MjQ) : Prop := match p.1 with
  | 0 => ∃ x : Int32, v = .int x ∧ mjB x p.2.1 p.2.2.1
  | 1 => ∃ x : Int64, v = .long x
  | 2 => ∃ a : Nat, v = .ref a ∧ (S.1 a : Int) = p.2.1
  | 3 => ∃ a : Nat, v = .ref a ∧ (a : Int) = p.2.1
  | 5 => ∃ k : Nat, v = .retAddr k ∧ (k : Int) = p.2.1
  | 6 => ∃ a : Nat, v = .ref a
  | _ => True
def mjSy (τ : Nat → Int) (v : Value) (p : MjQ) : Prop := p.2.2.2.1 = 0 ∨ ∃ x : Int32, v = .int x ∧ x.toInt = τ p.2.2.2.1 + p.2.2.2.2
def mjLoc (ls : MjL) (i : Nat) : Option Value := match ls[i]? with | some (some v) => some v | _ => none
/-- where a value on the stack came from -/
def mjSrc (ls : MjL) (w : MjW) (l : Nat) : Option Value := if l < 64 then mjLoc ls (l - 1) else mjFld w ((l - 64) / 100) ((l - 64) % 100)
def mjPv (ls : MjL) (w : MjW) (v : Value) (p : MjQ) : Prop := p.2.2.2.1 = 0 ∨ ∃ x u : Int32, v = .int x ∧ mjSrc ls w p.2.2.2.1 = some (.int u) ∧ x.toInt = u.toInt + p.2.2.2.2
def mjSk (S : MjSp) (ls : MjL) (w : MjW) : List Value → List MjQ → Prop
  | [], [] => True
  | v :: st, p :: K => (mjDn S v p ∧ mjPv ls w v p) ∧ mjSk S ls w st K
  | _, _ => False
def mjLo (S : MjSp) (τ : Nat → Int) (ls : MjL) (L : List MjQ) : Prop := ls.length = L.length ∧ ∀ (i : Nat) (p : MjQ), L[i]? = some p → if p.1 = 9 then ∀ v, mjLoc ls i = some v → v.category = 1 else ∃ v, mjLoc ls i = some v ∧ mjDn S v p ∧ mjSy τ v p
def mjFs (S : MjSp) (τ : Nat → Int) (w : MjW) (F : List MjFa) : Prop := ∀ q ∈ F, ∃ v, mjFld w q.1 q.2.1 = some v ∧ mjDn S v q.2.2 ∧ mjSy τ v q.2.2
/-- uniform roles; guards: of a role and a place (255: all places) (0: free, 1: only such a range, 2: never) -/
abbrev MjU : Type := (Nat → Bool) × (Nat → Nat → Nat × Int × Int)
def mjInv (S : MjSp) (J : MjW → Prop) (w : MjW) : Prop := mjTyd S w ∧ J w
def mjGdV (g : Nat × Int × Int) (v : Value) : Prop := match g.1 with
  | 0 => True
  | 1 => ∃ x : Int32, v = .int x ∧ mjB x g.2.1 g.2.2
  | _ => False
def mjUok (S : MjSp) (U : MjU) (J : MjW → Prop) : Prop := (∀ r j, U.1 r = true → S.2.2.2 r j = S.2.2.2 r 0) ∧ (∀ r k, (U.2 r 255).1 = 0 → (U.2 r k).1 = 0) ∧ (∀ (w : MjW) (a c k : Nat) (vs : List Value) (v : Value), w[a]? = some (c, vs) → k < vs.length → mjGdV (U.2 (S.1 a) k) v → J w → J (w.set a (c, vs.set k v))) ∧ (∀ (w : MjW) (a c : Nat) (vs us : List Value), w[a]? = some (c, vs) → us.length = vs.length → (U.2 (S.1 a) 255).1 = 0 → J w → J (w.set a (c, us)))
def aiGd (U : MjU) (r k : Nat) (v : MjQ) : Bool := match (U.2 r k).1 with
  | 0 => true
  | 1 => decide (v.1 = 0 ∧ (U.2 r k).2.1 ≤ v.2.1 ∧ v.2.2.1 ≤ (U.2 r k).2.2)
  | _ => false
/-- all places of a range -/
def aiGdR (U : MjU) (r lo n : Nat) (v : MjQ) : Bool := Nat.beq (U.2 r 255).1 0 || (List.range n).all (fun i => aiGd U r (lo + i) v)
theorem aiGd_ok {S : MjSp} {U : MjU} {r k : Nat} {p : MjQ} {v : Value} (h : aiGd U r k p = true) (hd : mjDn S v p) : mjGdV (U.2 r k) v := by
  unfold aiGd at h
  unfold mjGdV
  split at h
  · rename_i e; try rw [e]
    trivial
  · rename_i e
    rw [decide_eq_true_eq] at h
    try rw [e]
    unfold mjDn at hd
    rw [h.1] at hd
    obtain ⟨x, e1, e2⟩ := hd
    exact ⟨x, e1, e2.mono h.2.1 h.2.2⟩
  · cases h
theorem aiGdR_ok {S : MjSp} {U : MjU} {J : MjW → Prop} {r lo n j : Nat} {p : MjQ} {v : Value} (hU : mjUok S U J) (h : aiGdR U r lo n p = true) (h1 : lo ≤ j) (h2 : j < lo + n) (hd : mjDn S v p) : mjGdV (U.2 r j) v := by
  unfold aiGdR at h
  rw [Bool.or_eq_true] at h
  rcases h with h | h
  · have e := hU.2.1 r j (Nat.eq_of_beq_eq_true h)
    unfold mjGdV; rw [e]; trivial
  · have := List.all_eq_true.mp h (j - lo) (List.mem_range.mpr (by omega))
    rw [show lo + (j - lo) = j by omega] at this
    exact aiGd_ok this hd
theorem mjInv.at {S : MjSp} {J : MjW → Prop} {w : MjW} {a r : Nat} (hI : mjInv S J w) (ha : S.1 a = r) (hr : 0 < r) : ∃ vs : List Value, w[a]? = some (S.2.1 r, vs) ∧ vs.length = S.2.2.1 r ∧ ∀ (j : Nat) (v : Value), vs[j]? = some v → mjHasT S v (S.2.2.2 r j) := mjTyd.at hI.1 ha hr
theorem mjInv.set {S : MjSp} {U : MjU} {J : MjW → Prop} {w : MjW} (h : mjInv S J w) (hU : mjUok S U J) {a k : Nat} {c : Nat} {vs : List Value} {v : Value} (ha : w[a]? = some (c, vs)) (hv : mjHasT S v (S.2.2.2 (S.1 a) k)) (hk : k < vs.length) (hg : mjGdV (U.2 (S.1 a) k) v) : mjInv S J (w.set a (c, vs.set k v)) := ⟨mjTyd.set h.1 ha hv, hU.2.2.1 w a c k vs v ha hk hg h.2⟩
def mjRl (S : MjSp) (J : MjW → Prop) (τ : Nat → Int) (ls : MjL) (st : List Value) (w : MjW) (A : MjSt) : Prop := mjInv S J w ∧ mjLo S τ ls A.1 ∧ mjSk S ls w st A.2.1 ∧ mjFs S τ w A.2.2
-- ===== ints =====
def mjTop : Int × Int := (-2147483648, 2147483647)
def mjMask (n : Int) : Int := if n ≤ 1 then 1 else if n ≤ 3 then 3 else if n ≤ 7 then 7 else if n ≤ 15 then 15 else if n ≤ 31 then 31 else if n ≤ 63 then 63 else if n ≤ 127 then 127 else if n ≤ 1023 then 1023 else 2147483647
def aiBin (ins : Instr) (a b c d : Int) : Option (Int × Int) :=
  if a = b ∧ c = d then (match mjA ins [.int (Int32.ofInt c), .int (Int32.ofInt a)] with | some (.int z :: []) => some (z.toInt, z.toInt) | _ => none)
  else match ins with
  | .iadd => some (if -2147483648 ≤ a + c ∧ b + d ≤ 2147483647 then (a + c, b + d) else mjTop)
  | .isub => some (if -2147483648 ≤ a - d ∧ b - c ≤ 2147483647 then (a - d, b - c) else mjTop)
  | .imul => some (if 0 ≤ a ∧ 0 ≤ c ∧ b * d ≤ 2147483647 then (a * c, b * d) else mjTop)
  | .idiv => if 0 < c then some (if 0 ≤ a then (0, b / c) else mjTop) else if d < 0 then some mjTop else none
  | .irem => if 0 < c then some (if 0 ≤ a then (0, if b ≤ d - 1 then b else d - 1) else mjTop) else if d < 0 then some mjTop else none
  | .iand => some (if 0 ≤ a then (if 0 ≤ c then (0, if b ≤ d then b else d) else (0, b)) else if 0 ≤ c then (0, d) else mjTop)
  | .ior => some (if 0 ≤ a ∧ 0 ≤ c then (0, mjMask (if b ≤ d then d else b)) else mjTop)
  | .ixor => some (if 0 ≤ a ∧ 0 ≤ c then (0, mjMask (if b ≤ d then d else b)) else mjTop)
  | .ishl => some (if a = 1 ∧ b = 1 ∧ 0 ≤ c ∧ d ≤ 30 then (1, 2 ^ d.toNat) else mjTop)
  | .ishr => some (if 0 ≤ a then (0, b) else mjTop)
  | .iushr => some (if 0 ≤ a then (0, b) else mjTop)
  | _ => none
def aiLink (ins : Instr) (x z : MjQ) : Nat × Int := match ins with
  | .iadd => if z.2.1 = z.2.2.1 ∧ -2147483648 ≤ x.2.1 + z.2.1 ∧ x.2.2.1 + z.2.2.1 ≤ 2147483647 then (x.2.2.2.1, x.2.2.2.2 + z.2.1) else (0, 0)
  | .isub => if z.2.1 = z.2.2.1 ∧ -2147483648 ≤ x.2.1 - z.2.2.1 ∧ x.2.2.1 - z.2.1 ≤ 2147483647 then (x.2.2.2.1, x.2.2.2.2 - z.2.1) else (0, 0)
  | _ => (0, 0)
def aiCat (p : MjQ) : Bool := Nat.beq p.1 0 || (Nat.beq p.1 2 || (Nat.beq p.1 3 || Nat.beq p.1 5))
def aiA (ins : Instr) (K : List MjQ) : Option (List MjQ) := match ins with
  | .iconst n => if -1 ≤ n ∧ n ≤ 5 then some ((0, n, n, 0, 0) :: K) else none
  | .lconst _ => some ((1, 0, 0, 0, 0) :: K)
  | .ladd => match K with | (1, _) :: (1, _) :: R => some ((1, 0, 0, 0, 0) :: R) | _ => none
  | .lmul => match K with | (1, _) :: (1, _) :: R => some ((1, 0, 0, 0, 0) :: R) | _ => none
  | .lor => match K with | (1, _) :: (1, _) :: R => some ((1, 0, 0, 0, 0) :: R) | _ => none
  | .lshl => match K with | (0, _) :: (1, _) :: R => some ((1, 0, 0, 0, 0) :: R) | _ => none
  | .lcmp => match K with | (1, _) :: (1, _) :: R => some ((0, -1, 1, 0, 0) :: R) | _ => none
  | .i2l => match K with | (0, _) :: R => some ((1, 0, 0, 0, 0) :: R) | _ => none
  | .i2b => match K with | (0, lo, hi, l, o) :: R => some ((if -128 ≤ lo ∧ hi ≤ 127 then (0, lo, hi, l, o) else (0, -128, 127, 0, 0)) :: R) | _ => none
  | .i2c => match K with | (0, lo, hi, l, o) :: R => some ((if 0 ≤ lo ∧ hi ≤ 65535 then (0, lo, hi, l, o) else (0, 0, 65535, 0, 0)) :: R) | _ => none
  | .dup => match K with | p :: R => if aiCat p = true then some (p :: p :: R) else none | _ => none
  | .pop => match K with | p :: R => if aiCat p = true then some R else none | _ => none
  | .dup2 => match K with | p :: q :: R => if aiCat p = true ∧ aiCat q = true then some (p :: q :: p :: q :: R) else none | _ => none
  | i => match K with
    | (0, zq) :: (0, xq) :: R => (match aiBin i xq.1 xq.2.1 zq.1 zq.2.1 with | some r => some ((0, r.1, r.2, aiLink i (0, xq) (0, zq)) :: R) | none => none)
    | _ => none
def aiLdG (L : List MjQ) (k n t : Nat) : Option (MjQ × Nat) := if k < 60 then (match L[k]? with
    | some (tag, lo, hi, _) => if t = 0 then (if tag = 0 then some ((0, lo, hi, k + 1, 0), n) else none) else if t = 1 then (if tag = 1 then some ((1, lo, hi, 0, 0), n) else none) else if tag = 2 ∨ tag = 3 ∨ (tag = 5 ∧ lo ≠ 4) then some ((tag, lo, hi, 0, 0), n) else none
    | none => none) else none
def aiLd (ins : Instr) (L : List MjQ) : Option (MjQ × Nat) := match ins with
  | .iload_n k => aiLdG L k 1 0
  | .iload k => aiLdG L k 2 0
  | .lload_n k => aiLdG L k 1 1
  | .lload k => aiLdG L k 2 1
  | .aload_n k => aiLdG L k 1 2
  | .aload k => aiLdG L k 2 2
  | _ => none
def aiFind (F : List MjFa) (a k : Nat) : Option MjQ := match F with
  | [] => none
  | q :: R => if q.1 = a ∧ q.2.1 = k then some q.2.2 else aiFind R a k
/-- the start's value that a stack value hangs on -/
def aiStart (A : MjSt) (p : MjQ) : Nat × Int :=
  if p.2.2.2.1 = 0 then (0, 0) else
  match (if p.2.2.2.1 < 64 then A.1[p.2.2.2.1 - 1]? else aiFind A.2.2 ((p.2.2.2.1 - 64) / 100) ((p.2.2.2.1 - 64) % 100)) with
  | some q => if q.1 = 0 ∧ q.2.2.2.1 ≠ 0 then (q.2.2.2.1, q.2.2.2.2 + p.2.2.2.2) else (0, 0)
  | none => (0, 0)
def aiUnlink (l : Nat) (K : List MjQ) : List MjQ := K.map (fun p => if p.2.2.2.1 = l then (p.1, p.2.1, p.2.2.1, 0, 0) else p)
def aiFree (L : List MjQ) (k : Nat) : Bool := match k with
  | 0 => true
  | j + 1 => match L[j]? with | some p => aiCat p || Nat.beq p.1 9 | none => true
def aiSoG (pr : List Nat) (A : MjSt) (k n t : Nat) : Option (MjSt × Nat) := match A.2.1 with
  | p :: R => if k < A.1.length ∧ aiFree A.1 k = true ∧ ¬ k ∈ pr ∧ k < 60 then (if t = 0 then (if p.1 = 0 then some ((A.1.set k (0, p.2.1, p.2.2.1, aiStart A p), aiUnlink (k + 1) R, A.2.2), n) else none) else if p.1 = 2 ∨ p.1 = 3 ∨ (p.1 = 5 ∧ p.2.1 ≠ 4) then some ((A.1.set k (p.1, p.2.1, p.2.2.1, 0, 0), aiUnlink (k + 1) R, A.2.2), n) else none) else none
  | [] => none
def aiInc (pr : List Nat) (A : MjSt) (k : Nat) (n : Int) : Option (MjSt × Nat) := match A.1[k]? with
  | some q => if q.1 = 0 ∧ aiFree A.1 k = true ∧ ¬ k ∈ pr ∧ k < 60 ∧ -128 ≤ n ∧ n ≤ 127 ∧ -2147483648 ≤ q.2.1 + n ∧ q.2.2.1 + n ≤ 2147483647 then some ((A.1.set k (0, q.2.1 + n, q.2.2.1 + n, q.2.2.2.1, q.2.2.2.2 + n), A.2.1.map (fun p => if p.2.2.2.1 = k + 1 then (p.1, p.2.1, p.2.2.1, p.2.2.2.1, p.2.2.2.2 - n) else p), A.2.2), 3) else none
  | none => none
def aiSo (pr : List Nat) (ins : Instr) (A : MjSt) : Option (MjSt × Nat) := match ins with
  | .istore_n k => aiSoG pr A k 1 0
  | .istore k => aiSoG pr A k 2 0
  | .astore_n k => aiSoG pr A k 1 2
  | .astore k => aiSoG pr A k 2 2
  | .lstore_n k => match A.2.1 with
    | p :: R => if (k : Nat) + 1 < A.1.length ∧ aiFree A.1 k = true ∧ ¬ (k : Nat) ∈ pr ∧ ¬ (k : Nat) + 1 ∈ pr ∧ (k : Nat) < 60 ∧ p.1 = 1 then some (((A.1.set k (1, 0, 0, 0, 0)).set (k + 1) (9, 0, 0, 0, 0), aiUnlink (k + 2) (aiUnlink (k + 1) R), A.2.2), 1) else none
    | [] => none
  | .iinc k n => aiInc pr A k n
  | _ => none
-- ===== what a branch tells =====
def aiMeet (p : MjQ) (lo hi : Int) : MjQ := (p.1, if p.2.1 ≤ lo then lo else p.2.1, if hi ≤ p.2.2.1 then hi else p.2.2.1, p.2.2.2)
/-- the value at l is in this range -/
def aiRef (A : MjSt) (l : Nat) (lo hi : Int) : MjSt := if l = 0 then A else if l < 64 then
    (match A.1[l - 1]? with | some p => if p.1 = 0 then (A.1.set (l - 1) (aiMeet p lo hi), A.2.1, A.2.2) else A | none => A)
  else (match aiFind A.2.2 ((l - 64) / 100) ((l - 64) % 100) with
    | some p => if p.1 = 0 then (A.1, A.2.1, ((l - 64) / 100, (l - 64) % 100, aiMeet p lo hi) :: A.2.2) else A
    | none => (A.1, A.2.1, ((l - 64) / 100, (l - 64) % 100, (0, lo, hi, 0, 0)) :: A.2.2))
/-- x in [a,b], y in [c,d], and the relation holds or not: what is left of both -/
def aiCmp (k : ClassFile.Cond) (tr : Bool) (a b c d : Int) : (Int × Int) × (Int × Int) :=
  let lt : (Int × Int) × (Int × Int) := ((a, if b ≤ d - 1 then b else d - 1), (if a + 1 ≤ c then c else a + 1, d))
  let le : (Int × Int) × (Int × Int) := ((a, if b ≤ d then b else d), (if a ≤ c then c else a, d))
  let gt : (Int × Int) × (Int × Int) := ((if c + 1 ≤ a then a else c + 1, b), (c, if d ≤ b - 1 then d else b - 1))
  let ge : (Int × Int) × (Int × Int) := ((if c ≤ a then a else c, b), (c, if d ≤ b then d else b))
  let eq : (Int × Int) × (Int × Int) := ((if a ≤ c then c else a, if b ≤ d then b else d), (if a ≤ c then c else a, if b ≤ d then b else d))
  let ne : (Int × Int) × (Int × Int) := ((if c = d ∧ a = c then a + 1 else a, if c = d ∧ b = c then b - 1 else b), (if a = b ∧ c = a then c + 1 else c, if a = b ∧ d = a then d - 1 else d))
  match k, tr with
  | .lt, true => lt | .ge, false => lt
  | .le, true => le | .gt, false => le
  | .gt, true => gt | .le, false => gt
  | .ge, true => ge | .lt, false => ge
  | .eq, true => eq | .ne, false => eq
  | .ne, true => ne | .eq, false => ne
-- ===== the typed heap =====
def aiRole (S : MjSp) (p : MjQ) : Nat := if p.1 = 3 then S.1 p.2.1.toNat else if p.1 = 2 then p.2.1.toNat else 0
def aiTy (t : MjTy) : MjQ := (if t.1 = 0 then 0 else if t.1 = 1 then 1 else if t.1 = 2 then 2 else if t.1 = 6 then 6 else 3, t.2.1, t.2.2, 0, 0)
def aiSub (S : MjSp) (p q : MjQ) : Bool := match q.1 with
  | 0 => decide (p.1 = 0 ∧ q.2.1 ≤ p.2.1 ∧ p.2.2.1 ≤ q.2.2.1)
  | 1 => Nat.beq p.1 1
  | 2 => decide ((p.1 = 2 ∧ p.2.1 = q.2.1) ∨ (p.1 = 3 ∧ 0 ≤ p.2.1 ∧ (S.1 p.2.1.toNat : Int) = q.2.1))
  | 3 => decide (p.1 = 3 ∧ p.2.1 = q.2.1)
  | 5 => decide (p.1 = 5 ∧ p.2.1 = q.2.1)
  | 6 => decide (p.1 = 2 ∨ p.1 = 3 ∨ p.1 = 6)
  | 9 => true
  | _ => false
def aiFitT (ty : FieldType) (p : MjQ) : Bool := match ty with
  | .int => Nat.beq p.1 0
  | .boolean => decide (p.1 = 0 ∧ 0 ≤ p.2.1 ∧ p.2.2.1 ≤ 1)
  | .long => Nat.beq p.1 1
  | .object _ => decide (p.1 = 2 ∨ p.1 = 3)
  | .array _ => decide (p.1 = 2 ∨ p.1 = 3)
  | _ => false
/-- behind a store to place k of a role: facts and links that may be wrong go -/
def aiDropR (S : MjSp) (r k : Nat) (F : List MjFa) : List MjFa := F.filter (fun q => !(Nat.beq (S.1 q.1) r && (Nat.beq k 255 || Nat.beq q.2.1 k)))
def aiDropK (S : MjSp) (r k : Nat) (K : List MjQ) : List MjQ := K.map (fun p => if 64 ≤ p.2.2.2.1 ∧ S.1 ((p.2.2.2.1 - 64) / 100) = r ∧ (k = 255 ∨ (p.2.2.2.1 - 64) % 100 = k) then (p.1, p.2.1, p.2.2.1, 0, 0) else p)
def aiRng (S : MjSp) (r : Nat) (lo : Int) (n : Nat) (f : MjTy → Bool) : Bool := (List.range n).all (fun i => f (S.2.2.2 r (lo.toNat + i)))
