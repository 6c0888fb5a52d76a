/-! ===== a small machine: a world is a list of cells, a cell a kind and its values; what it runs, the machine runs ===== -/
abbrev MjW : Type := List (Nat × List Value)
abbrev MjL : Type := List (Option Value)
abbrev MjF : Type := Nat × MjL × List Value × MjW
/-- a frame to go on with; a return; a call: the method, its arguments, the frame behind it -/
abbrev MjO : Type := MjF ⊕ ((Option Value × MjW) ⊕ (Nat × List Value × MjF))
def mjTr (B : Nat) (xa : Nat → Option Nat) (v : Value) : Value := match v with
  | .ref i => .ref (B + i)
  | .retAddr k => va_rf (xa k)
  | .int x => .int x
  | .long x => .long x
  | .float x => .float x
  | .double x => .double x
  | .null => .null
theorem mjTr_cat (B : Nat) (xa : Nat → Option Nat) (v : Value) : (mjTr B xa v).category = v.category := by
  cases v with
  | retAddr k =>
    show (va_rf (xa k)).category = 1
    cases xa k <;> rfl
  | _ => rfl
/-- the array's element type, by the cell's kind -/
def mjAT (k : Nat) : FieldType := match k with
  | 100 => .int
  | 101 => .byte
  | 102 => .boolean
  | 103 => .long
  | _ => .object "AvalancheInn$State"
-- ===== stack alone, one byte =====
def mjA (ins : Instr) (st : List Value) : Option (List Value) := match ins with
  | .iconst n => some (.int (Int32.ofInt n) :: st)
  | .lconst n => some (.long (Int64.ofNat (n : Nat)) :: st)
  | .iadd => match st with | .int y :: .int x :: r => some (.int (x + y) :: r) | _ => none
  | .isub => match st with | .int y :: .int x :: r => some (.int (x - y) :: r) | _ => none
  | .imul => match st with | .int y :: .int x :: r => some (.int (x * y) :: r) | _ => none
  | .idiv => match st with | .int y :: .int x :: r => if y = 0 then none else some (.int (x / y) :: r) | _ => none
  | .irem => match st with | .int y :: .int x :: r => if y = 0 then none else some (.int (x - x / y * y) :: r) | _ => none
  | .iand => match st with | .int y :: .int x :: r => some (.int (x &&& y) :: r) | _ => none
  | .ior => match st with | .int y :: .int x :: r => some (.int (x ||| y) :: r) | _ => none
  | .ixor => match st with | .int y :: .int x :: r => some (.int (x ^^^ y) :: r) | _ => none
  | .ishl => match st with | .int y :: .int x :: r => some (.int (x <<< (y &&& 31)) :: r) | _ => none
  | .ishr => match st with | .int y :: .int x :: r => some (.int (x >>> (y &&& 31)) :: r) | _ => none
  | .iushr => match st with | .int y :: .int x :: r => some (.int (x.toUInt32 >>> (y.toUInt32 &&& Int32.toUInt32 31)).toInt32 :: r) | _ => none
  | .ladd => match st with | .long y :: .long x :: r => some (.long (x + y) :: r) | _ => none
  | .lmul => match st with | .long y :: .long x :: r => some (.long (x * y) :: r) | _ => none
  | .lor => match st with | .long y :: .long x :: r => some (.long (x ||| y) :: r) | _ => none
  | .lshl => match st with | .int y :: .long x :: r => some (.long (x <<< (y.toInt64 &&& 63)) :: r) | _ => none
  | .lcmp => match st with | .long y :: .long x :: r => some (.int (lg_cmp x y) :: r) | _ => none
  | .i2l => match st with | .int x :: r => some (.long x.toInt64 :: r) | _ => none
  | .i2b => match st with | .int x :: r => some (.int x.toInt8.toInt32 :: r) | _ => none
  | .i2c => match st with | .int x :: r => some (.int (x.toUInt32 % 65536).toInt32 :: r) | _ => none
  | .dup => match st with | v :: r => if v.category = 1 then some (v :: v :: r) else none | _ => none
  | .pop => match st with | v :: r => if v.category = 1 then some r else none | _ => none
  | .dup2 => match st with | v :: u :: r => if v.category = 1 ∧ u.category = 1 then some (v :: u :: v :: u :: r) else none | _ => none
  | _ => none
-- ===== locals =====
def mjLd (ins : Instr) (ls : MjL) : Option (Value × Nat) := match ins with
  | .iload_n k => match ls[(k : Nat)]? with | some (some (.int x)) => some (.int x, 1) | _ => none
  | .iload k => match ls[k]? with | some (some (.int x)) => some (.int x, 2) | _ => none
  | .lload_n k => match ls[(k : Nat)]? with | some (some (.long x)) => some (.long x, 1) | _ => none
  | .lload k => match ls[k]? with | some (some (.long x)) => some (.long x, 2) | _ => none
  | .aload_n k => match ls[(k : Nat)]? with | some (some (.ref x)) => some (.ref x, 1) | some (some (.retAddr x)) => if x = 4 then none else some (.retAddr x, 1) | _ => none
  | .aload k => match ls[k]? with | some (some (.ref x)) => some (.ref x, 2) | some (some (.retAddr x)) => if x = 4 then none else some (.retAddr x, 2) | _ => none
  | _ => none
/-- no long ends at this place -/
def mjFree (ls : MjL) (i : Nat) : Bool := match i with
  | 0 => true
  | j + 1 => match ls[j]? with | some (some u) => u.category == 1 | _ => true
def mjS1 (ls : MjL) (i : Nat) (v : Value) : Option MjL := if i < ls.length ∧ mjFree ls i = true then some (ls.set i (some v)) else none
def mjS2 (ls : MjL) (i : Nat) (v : Value) : Option MjL := if i + 1 < ls.length ∧ mjFree ls i = true then some ((ls.set i (some v)).set (i + 1) none) else none
def mjSo (ins : Instr) (ls : MjL) (st : List Value) : Option (MjL × List Value × Nat) := match ins with
  | .istore_n k => match st with | .int x :: r => (mjS1 ls k (.int x)).map (fun q => (q, r, 1)) | _ => none
  | .istore k => match st with | .int x :: r => (mjS1 ls k (.int x)).map (fun q => (q, r, 2)) | _ => none
  | .astore_n k => match st with | .ref x :: r => (mjS1 ls k (.ref x)).map (fun q => (q, r, 1)) | .retAddr x :: r => if x = 4 then none else (mjS1 ls k (.retAddr x)).map (fun q => (q, r, 1)) | _ => none
  | .astore k => match st with | .ref x :: r => (mjS1 ls k (.ref x)).map (fun q => (q, r, 2)) | .retAddr x :: r => if x = 4 then none else (mjS1 ls k (.retAddr x)).map (fun q => (q, r, 2)) | _ => none
  | .lstore_n k => match st with | .long x :: r => (mjS2 ls k (.long x)).map (fun q => (q, r, 1)) | _ => none
  | .iinc k n => match ls[k]? with | some (some (.int x)) => (mjS1 ls k (.int (x + Int32.ofInt n))).map (fun q => (q, st, 3)) | _ => none
  | _ => none
def mjLr (B : Nat) (xa : Nat → Option Nat) (nL : Nat) (ls : MjL) (lm : Array Slot) : Prop := lm.size = nL ∧ ls.length = nL ∧ lv_wf lm ∧ ∀ (i : Nat) (v : Value), ls[i]? = some (some v) → lm[i]? = some (.val (mjTr B xa v))
def mjLv (B : Nat) (xa : Nat → Option Nat) (ls : MjL) : List (Nat × Value) := (List.range ls.length).filterMap (fun i => match ls[i]? with | some (some v) => some (i, mjTr B xa v) | _ => none)
theorem mjLv_mem {B : Nat} {xa : Nat → Option Nat} {ls : MjL} {q : Nat × Value} : q ∈ mjLv B xa ls ↔ ∃ v, ls[q.1]? = some (some v) ∧ q.2 = mjTr B xa v := by
  unfold mjLv
  rw [List.mem_filterMap]
  constructor
  · rintro ⟨i, -, h⟩
    split at h
    · rename_i v hv
      cases h
      exact ⟨v, hv, rfl⟩
    · cases h
  · rintro ⟨v, h1, h2⟩
    refine ⟨q.1, List.mem_range.mpr (List.getElem?_eq_some_iff.mp h1).1, ?_⟩
    rw [h1]
    show some (q.1, mjTr B xa v) = some q
    rw [← h2]
theorem mjLr.lv {B : Nat} {xa : Nat → Option Nat} {nL : Nat} {ls : MjL} {lm : Array Slot} (h : mjLr B xa nL ls lm) : lv_has lm nL (mjLv B xa ls) := by
  refine ⟨h.1, h.2.2.1, fun q hq => ?_⟩
  obtain ⟨v, h1, h2⟩ := mjLv_mem.mp hq
  rw [h2]
  exact h.2.2.2 _ _ h1
theorem mjLr.s1 {B : Nat} {xa : Nat → Option Nat} {nL i : Nat} {ls ls1 : MjL} {lm lm' : Array Slot} {v : Value} (h : mjLr B xa nL ls lm) (hs : mjS1 ls i v = some ls1) (h' : lv_has lm' nL ((i, mjTr B xa v) :: (mjLv B xa ls).filter (fun q => !(q.1 == i) && !(q.1 + 1 == i && q.2.category == 2)))) : mjLr B xa nL ls1 lm' := by
  unfold mjS1 at hs
  split at hs
  · rename_i hc
    cases hs
    refine ⟨h'.1, by rw [List.length_set]; exact h.2.1, h'.2.1, fun j u hj => ?_⟩
    rw [List.getElem?_set] at hj
    by_cases e : i = j
    · subst e
      rw [if_pos rfl, if_pos hc.1] at hj
      cases hj
      exact h'.2.2 (i, mjTr B xa v) List.mem_cons_self
    · rw [if_neg e] at hj
      refine h'.2.2 (j, mjTr B xa u) (List.mem_cons_of_mem _ (List.mem_filter.mpr ⟨mjLv_mem.mpr ⟨u, hj, rfl⟩, ?_⟩))
      have e1 : (j == i) = false := by simp; omega
      rw [e1]
      by_cases e2 : j + 1 = i
      · subst e2
        have hf := hc.2
        simp only [mjFree, hj] at hf
        have hu : u.category = 1 := by simpa using hf
        simp [mjTr_cat, hu]
      · have e3 : (j + 1 == i) = false := by simp; omega
        simp [e3]
  · cases hs
theorem mjLr.s2 {B : Nat} {xa : Nat → Option Nat} {nL i : Nat} {ls ls1 : MjL} {lm lm' : Array Slot} {v : Value} (h : mjLr B xa nL ls lm) (hs : mjS2 ls i v = some ls1) (h' : lv_has lm' nL ((i, mjTr B xa v) :: (mjLv B xa ls).filter (fun q => !(q.1 == i) && (!(q.1 == i + 1) && !(q.1 + 1 == i && q.2.category == 2))))) : mjLr B xa nL ls1 lm' := by
  unfold mjS2 at hs
  split at hs
  · rename_i hc
    cases hs
    refine ⟨h'.1, by rw [List.length_set, List.length_set]; exact h.2.1, h'.2.1, fun j u hj => ?_⟩
    rw [List.getElem?_set] at hj
    by_cases e0 : i + 1 = j
    · subst e0
      rw [if_pos rfl] at hj
      split at hj <;> cases hj
    rw [if_neg e0, List.getElem?_set] at hj
    by_cases e : i = j
    · subst e
      rw [if_pos rfl, if_pos (by omega)] at hj
      cases hj
      exact h'.2.2 (i, mjTr B xa v) List.mem_cons_self
    · rw [if_neg e] at hj
      refine h'.2.2 (j, mjTr B xa u) (List.mem_cons_of_mem _ (List.mem_filter.mpr ⟨mjLv_mem.mpr ⟨u, hj, rfl⟩, ?_⟩))
      have e1 : (j == i) = false := by simp; omega
      have e4 : (j == i + 1) = false := by simp; omega
      rw [e1, e4]
      by_cases e2 : j + 1 = i
      · subst e2
        have hf := hc.2
        simp only [mjFree, hj] at hf
        have hu : u.category = 1 := by simpa using hf
        simp [mjTr_cat, hu]
      · have e3 : (j + 1 == i) = false := by simp; omega
        simp [e3]
  · cases hs
-- ===== branches; inf: the targets =====
def mjCz (c : ClassFile.Cond) (x : Int32) : Bool := match c with
  | .eq => decide (x = 0)
  | .ne => decide (¬ x = 0)
  | .lt => decide (x < 0)
  | .ge => decide (0 ≤ x)
  | .gt => decide (0 < x)
  | .le => decide (x ≤ 0)
def mjCi (c : ClassFile.Cond) (x y : Int32) : Bool := match c with
  | .eq => decide (x = y)
  | .ne => decide (¬ x = y)
  | .lt => decide (x < y)
  | .ge => decide (y ≤ x)
  | .gt => decide (y < x)
  | .le => decide (x ≤ y)
def mjBr (ins : Instr) (inf : List Nat) (pc : Nat) (st : List Value) : Option (Nat × List Value) := match ins with
  | .ifCond k _ => match st with | .int x :: r => (match inf with | t :: _ => some (bif mjCz k x then t else pc + 3, r) | _ => none) | _ => none
  | .if_icmp k _ => match st with | .int y :: .int x :: r => (match inf with | t :: _ => some (bif mjCi k x y then t else pc + 3, r) | _ => none) | _ => none
  | .goto _ => match inf with | t :: _ => some (t, st) | _ => none
  | .tableswitch _ lo hi _ => match st with | .int x :: r => (if x.toInt < lo ∨ hi < x.toInt then (match inf with | t :: _ => some (t, r) | _ => none) else (match inf[(x.toInt - lo).toNat + 1]? with | some t => some (t, r) | _ => none)) | _ => none
  | .lookupswitch d ps => match st with | .int x :: r => (if 0 ≤ (pc : Int) + Op.lookupswitch.offset ps.toList d x.toInt then some (((pc : Int) + Op.lookupswitch.offset ps.toList d x.toInt).toNat, r) else none) | _ => none
  | _ => none
/-- the targets are the code's own -/
def mjOkB (ins : Instr) (len : Nat) (inf : List Nat) (pc : Nat) : Bool := match ins with
  | .ifCond _ off => len == 3 && (match inf with | t :: _ => decide ((pc : Int) + off = (t : Int)) | _ => false)
  | .if_icmp _ off => len == 3 && (match inf with | t :: _ => decide ((pc : Int) + off = (t : Int)) | _ => false)
  | .goto off => len == 3 && (match inf with | t :: _ => decide ((pc : Int) + off = (t : Int)) | _ => false)
  | .tableswitch d _ _ offs => (match inf with | t :: ts => decide ((pc : Int) + d = (t : Int)) && decide (offs.toList.map (fun o => (pc : Int) + o) = ts.map (fun (t : Nat) => (t : Int))) | _ => false)
  | .lookupswitch _ ps => (ps.toList.zip (ps.toList.drop 1)).all (fun (a, next) => a.1 < next.1)
  | _ => true
section MjA
variable {p : Program} {l : Launch} {e : Env} {R : Room} {s : State} {m : MethodId} {args : Array Value} {below : List Frame} {meth : Method} {c : Code} {H : Heap} {locs : List Loc} {cells slots : Nat} {Q : State → Prop}
variable {cc : ByteArray} {pc : Nat} {lm : Array Slot} {B : Nat} {xa : Nat → Option Nat}
set_option maxHeartbeats 4000000 in
theorem mj_simA (hx : p.tables.exec = Jvm.exec) (hb : c.code = cc) {ins : Instr} {st st' : List Value} (h : mjA ins st = some st') (hd : decode cc pc = .ok (ins, 1))
    (k : W p l e R s m args below meth c H locs cells slots Q (F0 m (pc + 1) lm (st'.map (mjTr B xa)))) : W p l e R s m args below meth c H locs cells slots Q (F0 m pc lm (st.map (mjTr B xa))) := by
  unfold mjA at h
  split at h
  · cases h; exact lv_iconst hx hb hd rfl k
  · cases h; exact lv_lconst hx hb hd rfl k
  · split at h
    · cases h; exact lv_iadd hx hb hd k
    · cases h
  · split at h
    · cases h; exact lv_isub hx hb hd k
    · cases h
  · split at h
    · cases h; exact lv_imul hx hb hd k
    · cases h
  · split at h
    · split at h
      · cases h
      · rename_i hy; cases h; exact lv_idiv hx hb hd hy k
    · cases h
  · split at h
    · split at h
      · cases h
      · rename_i hy; cases h; exact lv_irem hx hb hd hy k
    · cases h
  · split at h
    · cases h; exact lv_iand hx hb hd k
    · cases h
  · split at h
    · cases h; exact lv_ior hx hb hd k
    · cases h
  · split at h
    · cases h; exact lv_ixor hx hb hd k
    · cases h
  · split at h
    · cases h; exact lv_ishl hx hb hd k
    · cases h
  · split at h
    · cases h; exact lv_ishr hx hb hd k
    · cases h
  · split at h
    · cases h; exact lv_iushr hx hb hd rfl k
    · cases h
  · split at h
    · cases h; exact lv_ladd hx hb hd k
    · cases h
  · split at h
    · cases h; exact lv_lmul hx hb hd k
    · cases h
  · split at h
    · cases h; exact lv_lor hx hb hd k
    · cases h
  · split at h
    · cases h; exact lv_lshl hx hb hd rfl k
    · cases h
  · split at h
    · cases h; exact W.lcmp hx hb hd k
    · cases h
  · split at h
    · cases h; exact lv_i2l hx hb hd rfl k
    · cases h
  · split at h
    · cases h; exact lv_i2b hx hb hd rfl k
    · cases h
  · split at h
    · cases h; exact lv_i2c hx hb hd rfl k
    · cases h
  · split at h
    · split at h
      · rename_i hv; cases h; exact lv_dup hx hb hd ((mjTr_cat B xa _).trans hv) k
      · cases h
    · cases h
  · split at h
    · split at h
      · rename_i hv; cases h; exact lv_pop hx hb hd ((mjTr_cat B xa _).trans hv) k
      · cases h
    · cases h
  · split at h
    · split at h
      · rename_i hv; cases h; exact lv_dup2_11 hx hb hd ((mjTr_cat B xa _).trans hv.1) ((mjTr_cat B xa _).trans hv.2) k
      · cases h
    · cases h
  · cases h
theorem mj_simLd (hxa : ∀ k, k ≠ 4 → ∃ a, xa k = some a) (hx : p.tables.exec = Jvm.exec) (hb : c.code = cc) {ins : Instr} {len nL : Nat} {ls : MjL} {v : Value} {st : List Value} (h : mjLd ins ls = some (v, len)) (hl : mjLr B xa nL ls lm) (hd : decode cc pc = .ok (ins, len))
    (k : W p l e R s m args below meth c H locs cells slots Q (F0 m (pc + len) lm ((v :: st).map (mjTr B xa)))) : W p l e R s m args below meth c H locs cells slots Q (F0 m pc lm (st.map (mjTr B xa))) := by
  unfold mjLd at h
  split at h
  · split at h
    · rename_i hq; cases h; exact lv_iload_n hx hb hd rfl (hl.2.2.2 _ _ hq) k
    · cases h
  · split at h
    · rename_i hq; cases h; exact lv_iload hx hb hd (hl.2.2.2 _ _ hq) k
    · cases h
  · split at h
    · rename_i hq; cases h; exact lv_lload_n hx hb hd rfl (hl.2.2.2 _ _ hq) k
    · cases h
  · split at h
    · rename_i hq; cases h; exact lv_lload hx hb hd (hl.2.2.2 _ _ hq) k
    · cases h
  · split at h
    · rename_i hq; cases h; exact lv_aload_n hx hb hd rfl (hl.2.2.2 _ _ hq) k
    · rename_i x hq
      split at h
      · cases h
      · rename_i h4
        cases h
        obtain ⟨a, ha⟩ := hxa x h4
        have e1 : ∀ z, mjTr B xa (.retAddr x) = z → z = .ref a := fun z hz => by rw [← hz]; show va_rf (xa x) = _; rw [ha]; rfl
        have hq2 := hl.2.2.2 _ _ hq
        rw [e1 _ rfl] at hq2
        simp only [List.map_cons] at k
        rw [e1 _ rfl] at k
        exact lv_aload_n hx hb hd rfl hq2 k
    · cases h
  · split at h
    · rename_i hq; cases h; exact lv_aload hx hb hd (hl.2.2.2 _ _ hq) k
    · rename_i x hq
      split at h
      · cases h
      · rename_i h4
        cases h
        obtain ⟨a, ha⟩ := hxa x h4
        have e1 : ∀ z, mjTr B xa (.retAddr x) = z → z = .ref a := fun z hz => by rw [← hz]; show va_rf (xa x) = _; rw [ha]; rfl
        have hq2 := hl.2.2.2 _ _ hq
        rw [e1 _ rfl] at hq2
        simp only [List.map_cons] at k
        rw [e1 _ rfl] at k
        exact lv_aload hx hb hd hq2 k
    · cases h
  · cases h
theorem mjS1_lt {ls ls1 : MjL} {i : Nat} {v : Value} (h : mjS1 ls i v = some ls1) : i < ls.length := by
  unfold mjS1 at h
  split at h
  · rename_i hc; exact hc.1
  · cases h
theorem mjS2_lt {ls ls1 : MjL} {i : Nat} {v : Value} (h : mjS2 ls i v = some ls1) : i + 1 < ls.length := by
  unfold mjS2 at h
  split at h
  · rename_i hc; exact hc.1
  · cases h
theorem mj_simSo (hxa : ∀ k, k ≠ 4 → ∃ a, xa k = some a) (hx : p.tables.exec = Jvm.exec) (hb : c.code = cc) {ins : Instr} {len nL : Nat} {ls ls1 : MjL} {st st1 : List Value} (h : mjSo ins ls st = some (ls1, st1, len)) (hl : mjLr B xa nL ls lm) (hd : decode cc pc = .ok (ins, len))
    (k : ∀ lm1, mjLr B xa nL ls1 lm1 → W p l e R s m args below meth c H locs cells slots Q (F0 m (pc + len) lm1 (st1.map (mjTr B xa)))) : W p l e R s m args below meth c H locs cells slots Q (F0 m pc lm (st.map (mjTr B xa))) := by
  unfold mjSo at h
  split at h
  · split at h
    · obtain ⟨q, hq, e⟩ := Option.map_eq_some_iff.mp h
      cases e
      exact lv_istore_n hx hb hd rfl hl.lv (by rw [← hl.2.1]; exact mjS1_lt hq) rfl (fun lm1 h1 => k lm1 (hl.s1 hq h1))
    · cases h
  · split at h
    · obtain ⟨q, hq, e⟩ := Option.map_eq_some_iff.mp h
      cases e
      exact lv_istore hx hb hd hl.lv (by rw [← hl.2.1]; exact mjS1_lt hq) rfl (fun lm1 h1 => k lm1 (hl.s1 hq h1))
    · cases h
  · split at h
    · obtain ⟨q, hq, e⟩ := Option.map_eq_some_iff.mp h
      cases e
      exact lv_astore_n hx hb hd rfl hl.lv (by rw [← hl.2.1]; exact mjS1_lt hq) rfl (fun lm1 h1 => k lm1 (hl.s1 hq h1))
    · rename_i x r
      split at h
      · cases h
      · rename_i h4
        obtain ⟨q, hq, e⟩ := Option.map_eq_some_iff.mp h
        cases e
        obtain ⟨a, ha⟩ := hxa x h4
        have e1 : mjTr B xa (.retAddr x) = .ref a := by show va_rf (xa x) = _; rw [ha]; rfl
        rw [List.map_cons, e1]
        exact lv_astore_n hx hb hd rfl hl.lv (by rw [← hl.2.1]; exact mjS1_lt hq) rfl (fun lm1 h1 => k lm1 (hl.s1 hq (by rw [e1]; exact h1)))
    · cases h
  · split at h
    · obtain ⟨q, hq, e⟩ := Option.map_eq_some_iff.mp h
      cases e
      exact lv_astore hx hb hd hl.lv (by rw [← hl.2.1]; exact mjS1_lt hq) rfl (fun lm1 h1 => k lm1 (hl.s1 hq h1))
    · rename_i x r
      split at h
      · cases h
      · rename_i h4
        obtain ⟨q, hq, e⟩ := Option.map_eq_some_iff.mp h
        cases e
        obtain ⟨a, ha⟩ := hxa x h4
        have e1 : mjTr B xa (.retAddr x) = .ref a := by show va_rf (xa x) = _; rw [ha]; rfl
        rw [List.map_cons, e1]
        exact lv_astore hx hb hd hl.lv (by rw [← hl.2.1]; exact mjS1_lt hq) rfl (fun lm1 h1 => k lm1 (hl.s1 hq (by rw [e1]; exact h1)))
    · cases h
  · split at h
    · obtain ⟨q, hq, e⟩ := Option.map_eq_some_iff.mp h
      cases e
      exact lv_lstore_n hx hb hd rfl hl.lv (by rw [← hl.2.1]; exact mjS2_lt hq) rfl (fun lm1 h1 => k lm1 (hl.s2 hq h1))
    · cases h
  · split at h
    · rename_i x hx1
      obtain ⟨q, hq, e⟩ := Option.map_eq_some_iff.mp h
      cases e
      obtain ⟨j, hj⟩ := List.getElem?_of_mem (mjLv_mem (B := B) (xa := xa) (q := (_, Value.int x)) |>.mpr ⟨_, hx1, rfl⟩)
      exact lv_iinc hx hb hd hl.lv hj rfl (by rw [← hl.2.1]; exact mjS1_lt hq) rfl (fun lm1 h1 => k lm1 (hl.s1 hq h1))
    · cases h
  · cases h
set_option maxHeartbeats 4000000 in
theorem mj_simB (hx : p.tables.exec = Jvm.exec) (hb : c.code = cc) {ins : Instr} {len pc1 : Nat} {inf : List Nat} {st st1 : List Value} (h : mjBr ins inf pc st = some (pc1, st1)) (ho : mjOkB ins len inf pc = true) (hd : decode cc pc = .ok (ins, len))
    (k : W p l e R s m args below meth c H locs cells slots Q (F0 m pc1 lm (st1.map (mjTr B xa)))) : W p l e R s m args below meth c H locs cells slots Q (F0 m pc lm (st.map (mjTr B xa))) := by
  unfold mjBr at h
  split at h
  · rename_i kc off
    split at h
    · rename_i x r
      split at h
      · rename_i t ts
        cases h
        simp only [mjOkB, Bool.and_eq_true, beq_iff_eq, decide_eq_true_eq] at ho
        obtain ⟨hlen, ht⟩ := ho
        subst hlen
        cases kc with
        | eq => refine lv_if_eq hx hb hd ht (fun q => ?_) (fun q => ?_) <;> (simp only [mjCz, q, not_true, not_false_eq_true, decide_true, decide_false, cond_true, cond_false] at k; exact k)
        | ne => refine lv_if_ne hx hb hd ht (fun q => ?_) (fun q => ?_) <;> (simp only [mjCz, q, not_true, not_false_eq_true, decide_true, decide_false, cond_true, cond_false] at k; exact k)
        | lt => refine lv_if_lt hx hb hd ht (fun q => ?_) (fun q => ?_) <;> (simp only [mjCz, q, decide_true, decide_false, cond_true, cond_false] at k; exact k)
        | ge => refine lv_if_ge hx hb hd ht (fun q => ?_) (fun q => ?_) <;> (simp only [mjCz, q, decide_true, decide_false, cond_true, cond_false] at k; exact k)
        | gt => refine lv_if_gt hx hb hd ht (fun q => ?_) (fun q => ?_) <;> (simp only [mjCz, q, decide_true, decide_false, cond_true, cond_false] at k; exact k)
        | le => refine lv_if_le hx hb hd ht (fun q => ?_) (fun q => ?_) <;> (simp only [mjCz, q, decide_true, decide_false, cond_true, cond_false] at k; exact k)
      · cases h
    · cases h
  · rename_i kc off
    split at h
    · rename_i y x r
      split at h
      · rename_i t ts
        cases h
        simp only [mjOkB, Bool.and_eq_true, beq_iff_eq, decide_eq_true_eq] at ho
        obtain ⟨hlen, ht⟩ := ho
        subst hlen
        cases kc with
        | eq => refine lv_icmp_eq hx hb hd ht (fun q => ?_) (fun q => ?_) <;> (simp only [mjCi, q, not_true, not_false_eq_true, decide_true, decide_false, cond_true, cond_false] at k; exact k)
        | ne => refine lv_icmp_ne hx hb hd ht (fun q => ?_) (fun q => ?_) <;> (simp only [mjCi, q, not_true, not_false_eq_true, decide_true, decide_false, cond_true, cond_false] at k; exact k)
        | lt => refine lv_icmp_lt hx hb hd ht (fun q => ?_) (fun q => ?_) <;> (simp only [mjCi, q, decide_true, decide_false, cond_true, cond_false] at k; exact k)
        | ge => refine lv_icmp_ge hx hb hd ht (fun q => ?_) (fun q => ?_) <;> (simp only [mjCi, q, decide_true, decide_false, cond_true, cond_false] at k; exact k)
        | gt => refine lv_icmp_gt hx hb hd ht (fun q => ?_) (fun q => ?_) <;> (simp only [mjCi, q, decide_true, decide_false, cond_true, cond_false] at k; exact k)
        | le => refine lv_icmp_le hx hb hd ht (fun q => ?_) (fun q => ?_) <;> (simp only [mjCi, q, decide_true, decide_false, cond_true, cond_false] at k; exact k)
      · cases h
    · cases h
  · split at h
    · cases h
      simp only [mjOkB, Bool.and_eq_true, beq_iff_eq, decide_eq_true_eq] at ho
      obtain ⟨hlen, ht⟩ := ho
      subst hlen
      exact lv_goto hx hb hd ht k
    · cases h
  · rename_i d lo hi offs
    split at h
    · rename_i x r
      split at h
      · rename_i hout
        split at h
        · cases h
          simp only [mjOkB, Bool.and_eq_true, decide_eq_true_eq] at ho
          exact lv_tableOut hx hb hd hout ho.1 k
        · cases h
      · rename_i hout
        split at h
        · rename_i t ht
          cases h
          unfold mjOkB at ho
          simp only at ho
          split at ho
          · rename_i t0 ts
            simp only [Bool.and_eq_true, decide_eq_true_eq] at ho
            rw [List.getElem?_cons_succ] at ht
            have e2 : (offs.toList.map (fun o => (pc : Int) + o))[(x.toInt - lo).toNat]? = some (pc1 : Int) := by
              rw [ho.2, List.getElem?_map, ht]; rfl
            rw [List.getElem?_map] at e2
            obtain ⟨off, e3, e4⟩ := Option.map_eq_some_iff.mp e2
            exact lv_tableIn hx hb hd (fun q => hout (Or.inl q)) (fun q => hout (Or.inr q)) (off := off) (by rw [← Array.getElem?_toList]; exact e3) e4 k
          · cases ho
        · cases h
    · cases h
  · rename_i d ps
    split at h
    · rename_i x r
      split at h
      · rename_i h0
        cases h
        exact lv_lookup hx hb hd ho rfl (by omega) k
      · cases h
    · cases h
  · cases h
end MjA
