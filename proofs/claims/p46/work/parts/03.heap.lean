/-! ===== the small machine's heap ===== -/
def mjTyp (ci : Nat) : Nat → FieldType := match ci with
  | 0 => tyX0
  | 1 => tyX1
  | 2 => tyX2
  | 3 => tyX3
  | 4 => tyX4
  | 5 => tyX5
  | 6 => tyX6
  | 7 => tyX7
  | 8 => tyX8
  | 9 => tyX9
  | _ => tyX10
def mjAll : List Cond := lw_tbl.filter goodWord
def mjNest : List Cond := lw_tbl.filter (fun w => match w with | .methodLinkNest _ _ _ _ => true | _ => false)
def mjTys (cT : Nat → ClassId) : List (ClassId × FieldType) := [(cT 100, mjAT 100), (cT 101, mjAT 101), (cT 102, mjAT 102), (cT 103, mjAT 103), (cT 104, mjAT 104)]
def mjAt (D : va_G) (cT : Nat → ClassId) (B : Nat) (xa : Nat → Option Nat) (a : Nat) (q : Nat × List Value) (H : Heap) : Prop :=
  if q.1 < 100 then ∃ r : vw_C, vwCl[q.1]? = some r ∧ q.2.length = r.2.2 ∧ t_OB a (D.1 q.1) r.2.2 (D.2 q.1) H (vp_V (q.2.map (mjTr B xa)))
  else H[a]? = some (arrV (cT q.1) q.2.length (fun j => mjTr B xa (q.2.getD j .null)))
def mjP (D : va_G) (cT : Nat → ClassId) (B : Nat) (xa : Nat → Option Nat) (H0 : Heap) (w : MjW) (H : Heap) : Prop :=
  H.size = B + w.length ∧ (∀ q : Nat, q < B → H[q]? = H0[q]?) ∧ ∀ (i : Nat) (q : Nat × List Value), w[i]? = some q → mjAt D cT B xa (B + i) q H
theorem mjAt.kept {D : va_G} {cT : Nat → ClassId} {B : Nat} {xa : Nat → Option Nat} {a : Nat} {q : Nat × List Value} {H H1 : Heap} (h : mjAt D cT B xa a q H) (e : H1[a]? = H[a]?) : mjAt D cT B xa a q H1 := by
  unfold mjAt at h ⊢
  split at h
  · rename_i hq
    obtain ⟨r, h1, h2, h3⟩ := h
    rw [if_pos hq]
    exact ⟨r, h1, h2, h3.kept e⟩
  · rename_i hq
    rw [if_neg hq, e]
    exact h
theorem mjP.set {D : va_G} {cT : Nat → ClassId} {B : Nat} {xa : Nat → Option Nat} {H0 H H1 : Heap} {w : MjW} {a : Nat} {q q1 : Nat × List Value} (h : mjP D cT B xa H0 w H) (ha : w[a]? = some q) (h1 : mjAt D cT B xa (B + a) q1 H1) (z : H1.size = H.size) (o : ∀ x, x ≠ B + a → H1[x]? = H[x]?) : mjP D cT B xa H0 (w.set a q1) H1 := by
  refine ⟨by rw [z, List.length_set]; exact h.1, fun x hx => by rw [o x (by omega)]; exact h.2.1 x hx, fun i c hi => ?_⟩
  rw [List.getElem?_set] at hi
  by_cases e : a = i
  · subst e
    rw [if_pos rfl, if_pos (List.getElem?_eq_some_iff.mp ha).1] at hi
    cases hi
    exact h1
  · rw [if_neg e] at hi
    exact (h.2.2 i c hi).kept (o _ (by omega))
theorem mjP.push {D : va_G} {cT : Nat → ClassId} {B : Nat} {xa : Nat → Option Nat} {H0 H H1 : Heap} {w : MjW} {q1 : Nat × List Value} (h : mjP D cT B xa H0 w H) (h1 : mjAt D cT B xa (B + w.length) q1 H1) (z : H1.size = H.size + 1) (o : ∀ x, x < H.size → H1[x]? = H[x]?) : mjP D cT B xa H0 (w ++ [q1]) H1 := by
  refine ⟨by rw [z, h.1, List.length_append]; rfl, fun x hx => by rw [o x (by rw [h.1]; omega)]; exact h.2.1 x hx, fun i c hi => ?_⟩
  by_cases e : i < w.length
  · rw [List.getElem?_append_left e] at hi
    exact (h.2.2 i c hi).kept (o _ (by rw [h.1]; omega))
  · rw [List.getElem?_append_right (by omega)] at hi
    have hz : i - w.length < 1 := (List.getElem?_eq_some_iff.mp hi).1
    have e2 : i = w.length := by omega
    subst e2
    rw [Nat.sub_self] at hi
    cases hi
    exact h1
theorem mjP.arr {D : va_G} {cT : Nat → ClassId} {B : Nat} {xa : Nat → Option Nat} {H0 H : Heap} {w : MjW} {a k : Nat} {vs : List Value} (h : mjP D cT B xa H0 w H) (ha : w[a]? = some (k, vs)) (hk : ¬ k < 100) : H[B + a]? = some (arrV (cT k) vs.length (fun j => mjTr B xa (vs.getD j .null))) := by
  have h1 := h.2.2 a _ ha
  unfold mjAt at h1
  rw [if_neg hk] at h1
  exact h1
theorem mjAt.arr {D : va_G} {cT : Nat → ClassId} {B : Nat} {xa : Nat → Option Nat} {H1 : Heap} {a k i : Nat} {vs : List Value} {v v' : Value} (hk : ¬ k < 100) (hi : i < vs.length) (hv : mjTr B xa v = v') (e : H1[a]? = some ((arrV (cT k) vs.length (fun j => mjTr B xa (vs.getD j .null))).setSlot i v')) : mjAt D cT B xa a (k, vs.set i v) H1 := by
  unfold mjAt
  rw [if_neg hk, e, arrV_store]
  show some (arrV (cT k) vs.length _) = some (arrV (cT k) (vs.set i v).length _)
  rw [List.length_set]
  congr 2
  funext j
  by_cases hj : j = i
  · subst hj
    simp [updV, hi, hv]
  · simp [updV, hj, List.getD_eq_getElem?_getD, List.getElem?_set_ne (Ne.symm hj)]
/-- the classes, and the arrays' classes, as the tables have them -/
def mjK (D : va_G) (cT : Nat → ClassId) (U : State) : Prop := va_K D vwCl (mjTys cT) U ∧ (∀ w ∈ mjNest, va_Nw w U) ∧ va_AO "AvalancheInn$State" U
theorem mjK.arr {D : va_G} {cT : Nat → ClassId} {U : State} (h : mjK D cT U) {k : Nat} (hk : k = 100 ∨ k = 101 ∨ k = 102 ∨ k = 103 ∨ k = 104) : ArrOfT U (cT k) (mjAT k) ∧ va_RA U (cT k) (mjAT k) := by
  rcases hk with rfl | rfl | rfl | rfl | rfl
  · exact h.1.2 0 _ rfl
  · exact h.1.2 1 _ rfl
  · exact h.1.2 2 _ rfl
  · exact h.1.2 3 _ rfl
  · exact h.1.2 4 _ rfl
theorem mjNest_is {w : Cond} (h : w ∈ mjNest) : ∃ a i x o, w = .methodLinkNest a i x o := by
  unfold mjNest at h
  have h2 := (List.mem_filter.mp h).2
  cases w <;> first | exact ⟨_, _, _, _, rfl⟩ | cases h2
theorem mjK.warm {D : va_G} {cT : Nat → ClassId} {s U : State} (hW : s.WarmedH U.vm) (h : mjK D cT s) : mjK D cT U := by
  refine ⟨h.1.moved hW.alike, fun w hw => ?_, h.2.2.moved hW.alike⟩
  obtain ⟨a, i, x, o, rfl⟩ := mjNest_is hw
  exact va_Nw.warmM hW (h.2.1 _ hw)
theorem mjK.same {D : va_G} {cT : Nat → ClassId} {s U : State} (hv : s.vm = U.vm) (h : mjK D cT s) : mjK D cT U := by
  have ha : s.vm.Alike U.vm := by rw [hv]; exact Vm.Alike.refl U.vm
  refine ⟨h.1.moved ha, fun w hw => ?_, h.2.2.moved ha⟩
  obtain ⟨a, i, x, o, rfl⟩ := mjNest_is hw
  exact va_Nw.same rfl hv (h.2.1 _ hw)
-- ===== the instructions on the heap; inf: the class's number and the field's, or the array's kind =====
def mjRd (vs : List Value) (i : Int32) : Option Value := if i < 0 then none else vs[i.toNatClampNeg]?
def mjWr (vs : List Value) (i : Int32) (v : Value) : Option (List Value) := if i < 0 then none else if i.toNatClampNeg < vs.length then some (vs.set i.toNatClampNeg v) else none
def mjFit (ty : FieldType) (v : Value) : Bool := match v with
  | .retAddr _ => false
  | .ref _ => (match ty with | .object _ => true | .array _ => true | _ => false)
  | .null => (match ty with | .object _ => true | .array _ => true | _ => false)
  | v => decide (narrow ty v = v) && fits ty v
def mjNF (ci : Nat) : Nat := match vwCl[ci]? with | some r => r.2.2 | none => 0
def mjDef (ci : Nat) : List Value := (List.range (mjNF ci)).map (fun k => defaultValue (mjTyp ci k))
def mjH (ins : Instr) (inf : List Nat) (st : List Value) (w : MjW) : Option (List Value × MjW × Nat) := match ins with
  | .getfield _ => match st with
    | .ref a :: r => (match inf with
      | ci :: k :: _ => (match w[a]? with
        | some (cj, fs) => if cj = ci then (match fs[k]? with | some v => some (v :: r, w, 3) | none => none) else none
        | none => none)
      | _ => none)
    | _ => none
  | .putfield _ => match st with
    | v :: .ref a :: r => (match inf with
      | ci :: k :: _ => (match w[a]? with
        | some (cj, fs) => if cj = ci ∧ k < fs.length ∧ mjFit (mjTyp ci k) v = true then some (r, w.set a (cj, fs.set k v), 3) else none
        | none => none)
      | _ => none)
    | _ => none
  | .iaload => match st with
    | .int i :: .ref a :: r => (match w[a]? with | some (k, vs) => if k = 100 then (match mjRd vs i with | some v => some (v :: r, w, 1) | none => none) else none | none => none)
    | _ => none
  | .baload => match st with
    | .int i :: .ref a :: r => (match w[a]? with | some (k, vs) => if k = 101 ∨ k = 102 then (match mjRd vs i with | some v => some (v :: r, w, 1) | none => none) else none | none => none)
    | _ => none
  | .laload => match st with
    | .int i :: .ref a :: r => (match w[a]? with | some (k, vs) => if k = 103 then (match mjRd vs i with | some v => some (v :: r, w, 1) | none => none) else none | none => none)
    | _ => none
  | .aaload => match st with
    | .int i :: .ref a :: r => (match w[a]? with | some (k, vs) => if k = 104 then (match mjRd vs i with | some v => some (v :: r, w, 1) | none => none) else none | none => none)
    | _ => none
  | .iastore => match st with
    | .int x :: .int i :: .ref a :: r => (match w[a]? with | some (k, vs) => if k = 100 then (match mjWr vs i (.int x) with | some vs1 => some (r, w.set a (100, vs1), 1) | none => none) else none | none => none)
    | _ => none
  | .bastore => match st with
    | .int x :: .int i :: .ref a :: r => (match w[a]? with
      | some (k, vs) => if k = 101 then (match mjWr vs i (narrow .byte (.int x)) with | some vs1 => some (r, w.set a (101, vs1), 1) | none => none)
        else if k = 102 then (match mjWr vs i (narrow .boolean (.int x)) with | some vs1 => some (r, w.set a (102, vs1), 1) | none => none) else none
      | none => none)
    | _ => none
  | .lastore => match st with
    | .long x :: .int i :: .ref a :: r => (match w[a]? with | some (k, vs) => if k = 103 then (match mjWr vs i (.long x) with | some vs1 => some (r, w.set a (103, vs1), 1) | none => none) else none | none => none)
    | _ => none
  | .aastore => match st with
    | .ref x :: .int i :: .ref a :: r => (match w[a]?, w[x]? with | some (k, vs), some (k2, _) => if k = 104 ∧ k2 = 8 then (match mjWr vs i (.ref x) with | some vs1 => some (r, w.set a (104, vs1), 1) | none => none) else none | _, _ => none)
    | _ => none
  | .arraylength => match st with
    | .ref a :: r => (match w[a]? with | some (k, vs) => if 100 ≤ k ∧ k ≤ 104 then some (.int (Int32.ofNat vs.length) :: r, w, 1) else none | none => none)
    | _ => none
  | .new _ => match inf with
    | ci :: _ => some (.ref w.length :: st, w ++ [(ci, mjDef ci)], 3)
    | _ => none
  | .newarray _ => match st with
    | .int n :: r => (match inf with
      | k :: _ => if ¬ n < 0 ∧ n.toNatClampNeg ≤ 100000 then some (.ref w.length :: r, w ++ [(k, List.replicate n.toNatClampNeg (defaultValue (mjAT k)))], 2) else none
      | _ => none)
    | _ => none
  | .anewarray _ => match st with
    | .int n :: r => if ¬ n < 0 ∧ n.toNatClampNeg ≤ 100000 then some (.ref w.length :: r, w ++ [(104, List.replicate n.toNatClampNeg .null)], 3) else none
    | _ => none
  | _ => none
/-- a word of the tables, by its place -/
def mjHas (pl : Nat) (w : Cond) : Bool := decide (lw_tbl[pl]? = some w) && goodWord w
theorem mjHas_in {pl : Nat} {w : Cond} (h : mjHas pl w = true) : w ∈ mjAll := by
  unfold mjHas at h
  simp only [Bool.and_eq_true, decide_eq_true_eq] at h
  exact List.mem_filter.mpr ⟨List.mem_of_getElem? h.1, h.2⟩
def mjOkH (own : String) (isInit : Bool) (ins : Instr) (len : Nat) (inf : List Nat) : Bool := match ins with
  | .getfield idx => (match inf with
    | ci :: k :: pl :: _ => (match vwCl[ci]? with | some (_, T, N) => decide (ci < 100 ∧ k < N) && mjHas pl (.fieldLink own idx (T k).1 (T k).2.1 (T k).2.2.1) | none => false)
    | _ => false)
  | .putfield idx => (match inf with
    | ci :: k :: pl :: _ => (match vwCl[ci]? with | some (_, T, N) => decide (ci < 100 ∧ k < N) && mjHas pl (.fieldLink own idx (T k).1 (T k).2.1 (T k).2.2.1) && (!(T k).2.2.2 || (isInit && decide ((T k).1 = own))) | none => false)
    | _ => false)
  | .new idx => (match inf with
    | ci :: p1 :: p2 :: p3 :: _ => (match vwCl[ci]? with | some (C, _, N) => decide (ci < 100) && mjHas p1 (.classLink own idx C) && mjHas p2 (.instantiable C N) && mjHas p3 (.initialized C) | none => false)
    | _ => false)
  | .newarray t => (match inf with
    | k :: p1 :: _ => decide (k = 100 ∨ k = 101 ∨ k = 102 ∨ k = 103) && decide (newarray.typeOf t = mjAT k) && mjHas p1 (.arrayClass (mjAT k))
    | _ => false)
  | .anewarray idx => (match inf with
    | p1 :: _ => mjHas p1 (.classLink own idx "AvalancheInn$State")
    | _ => false)
  | _ => true
theorem mjCls : ∀ (ci : Nat) (C : String) (T : u_T) (N : Nat), vwCl[ci]? = some (C, T, N) → (∀ w ∈ u_ws C T N, w ∈ mjAll) ∧ (∀ k, k < N → parseFieldDescriptor (T k).2.2.1 = some (mjTyp ci k)) ∧ (∀ a, a < N → ∀ b, b < N → a ≠ b → (T a).2.1 ≠ (T b).2.1) ∧ mjNF ci = N := by
  intro ci C T N h
  match ci, h with
  | 0, h => cases h; exact ⟨by decide +kernel, tyX0_ok, nmX0, rfl⟩
  | 1, h => cases h; exact ⟨by decide +kernel, tyX1_ok, nmX1, rfl⟩
  | 2, h => cases h; exact ⟨by decide +kernel, tyX2_ok, nmX2, rfl⟩
  | 3, h => cases h; exact ⟨by decide +kernel, tyX3_ok, nmX3, rfl⟩
  | 4, h => cases h; exact ⟨by decide +kernel, tyX4_ok, nmX4, rfl⟩
  | 5, h => cases h; exact ⟨by decide +kernel, tyX5_ok, nmX5, rfl⟩
  | 6, h => cases h; exact ⟨by decide +kernel, tyX6_ok, nmX6, rfl⟩
  | 7, h => cases h; exact ⟨by decide +kernel, tyX7_ok, nmX7, rfl⟩
  | 8, h => cases h; exact ⟨by decide +kernel, tyX8_ok, nmX8, rfl⟩
  | 9, h => cases h; exact ⟨by decide +kernel, tyX9_ok, nmX9, rfl⟩
  | 10, h => cases h; exact ⟨by decide +kernel, tyX10_ok, nmX10, rfl⟩
  | k + 11, h => cases h
