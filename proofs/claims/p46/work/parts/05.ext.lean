/-! ===== what is there before the law: two Strings, two statics, the script ===== -/
def mjSLen : List Nat := [137, 11]
def mjSByt : List (List Int32) := [[108, 97, 110, 101, 115, 32, 114, 111, 119, 115, 32, 115, 108, 111, 112, 101, 32, 108, 105, 101, 115, 32, 119, 97, 108, 108, 32, 114, 111, 111, 109, 32, 103, 117, 101, 115, 116, 32, 116, 105, 112, 115, 32, 102, 97, 108, 108, 115, 32, 119, 105, 110, 100, 32, 100, 114, 97, 119, 32, 115, 110, 111, 119, 32, 115, 116, 101, 101, 112, 32, 110, 111, 105, 115, 101, 32, 98, 101, 108, 111, 119, 32, 104, 111, 117, 114, 32, 114, 111, 119, 32, 108, 101, 102, 116, 32, 114, 105, 103, 104, 116, 32, 108, 97, 110, 101, 32, 98, 101, 97, 114, 115, 32, 114, 97, 116, 101, 32, 102, 114, 111, 109, 32, 116, 111, 32, 111, 114, 32, 97, 110, 100, 32, 110, 111, 116, 32], [59, 40, 41, 60, 62, 61, 43, 45, 42, 47, 37]]
def mjSIdx : List Nat := [19, 63]
def mjSTxt : List String := ["lanes rows slope lies wall room guest tips falls wind draw snow steep noise below hour row left right lane bears rate from to or and not ", ";()<>=+-*/%"]
def mjEA (B : Nat) : Nat → Prop := fun q => B ≤ q
def mjE (B : Nat) (xa : Nat → Option Nat) (sc : List Int32) (H0 : Heap) (U : State) : Prop :=
  H0.size = B ∧ (∀ k, k ≠ 4 → ∃ a, xa k = some a) ∧ va_Z "java/lang/String" "COMPACT_STRINGS" "Z" (.int 1) (mjEA B) U H0 ∧ va_Z "jdk/internal/util/Preconditions" "SIOOBE_FORMATTER" "Ljava/util/function/BiFunction;" (va_rf (xa 4)) (mjEA B) U H0 ∧
  (∃ adK adV : Nat → Nat, vk_S 2 mjSLen mjSByt adK adV (mjEA B) U H0 ∧ xa 0 = some (adK 0) ∧ xa 1 = some (adK 1) ∧ xa 2 = some (adV 0) ∧ xa 3 = some (adV 1) ∧ ∀ i, i < 2 → vk_R "AvalancheInn$Lexer" (mjSIdx.getD i 0) (mjSTxt.getD i "") (adK i) U) ∧
  ∃ b, xa 9 = some b ∧ va_X b sc.length (fun j => sc.getD j 0) U H0 ∧ b < B
theorem mjE.warm {B : Nat} {xa : Nat → Option Nat} {sc : List Int32} {H0 : Heap} {s U : State} (hW : s.WarmedH U.vm) (h : mjE B xa sc H0 s) : mjE B xa sc H0 U := by
  obtain ⟨h1, h2, h3, h4, ⟨adK, adV, k1, k2, k3, k4, k5, k6⟩, b, b1, ⟨scr, x1, x2, x3⟩, b2⟩ := h
  exact ⟨h1, h2, h3.moved hW.alike, h4.moved hW.alike, ⟨adK, adV, k1.moved hW.alike, k2, k3, k4, k5, fun i hi => (k6 i hi).warm hW⟩, b, b1, ⟨scr, x1, State.isArrayOf_alike hW.alike x2, x3⟩, b2⟩
theorem mjE.same {B : Nat} {xa : Nat → Option Nat} {sc : List Int32} {H0 : Heap} {s U : State} (hv : s.vm = U.vm) (h : mjE B xa sc H0 s) : mjE B xa sc H0 U := by
  have ha : s.vm.Alike U.vm := by rw [hv]; exact Vm.Alike.refl U.vm
  obtain ⟨h1, h2, h3, h4, ⟨adK, adV, k1, k2, k3, k4, k5, k6⟩, b, b1, ⟨scr, x1, x2, x3⟩, b2⟩ := h
  exact ⟨h1, h2, h3.moved ha, h4.moved ha, ⟨adK, adV, k1.moved ha, k2, k3, k4, k5, fun i hi => (k6 i hi).same hv.symm⟩, b, b1, ⟨scr, x1, State.isArrayOf_alike ha x2, x3⟩, b2⟩
/-- what is below B stays -/
def mjS (B : Nat) (H0 : Heap) (s : State) (H : Heap) (locs : List Loc) : Prop := s.heap.size ≤ H.size ∧ (∀ q : Nat, q < B → s.heap[q]? = H0[q]?) ∧ (∀ q : Nat, q < B → H[q]? = H0[q]?) ∧ ∀ q ∈ locs, B ≤ q.base
theorem mjS.va {B : Nat} {H0 : Heap} {s : State} {H : Heap} {locs : List Loc} (h : mjS B H0 s H locs) : va_S (mjEA B) s.heap H locs := by
  refine ⟨h.1, fun q _ h2 => ?_, h.2.2.2⟩
  have hq : q < B := Nat.not_le.mp h2
  rw [h.2.2.1 q hq, h.2.1 q hq]
theorem mjS.kept {B : Nat} {H0 : Heap} {s : State} {H : Heap} {locs : List Loc} (h : mjS B H0 s H locs) : ∀ a : Nat, a < H0.size → ¬ (mjEA B) a → s.heap[a]? = H0[a]? := fun a _ h2 => h.2.1 a (Nat.not_le.mp h2)
-- ===== pushes; inf: the number and the place of its word =====
def mjPu (ins : Instr) (inf : List Nat) : Option (Value × Nat) := match ins with
  | .bipush n => some (.int (Int8.ofInt n).toInt32, 2)
  | .sipush n => some (.int (Int16.ofInt n).toInt32, 3)
  | .ldc _ => match inf with | 0 :: v :: _ => some (.int (Int32.ofNat v), 2) | 1 :: i :: _ => if i < 2 then some (.retAddr i, 2) else none | _ => none
  | .ldc_w _ => match inf with | 0 :: v :: _ => some (.int (Int32.ofNat v), 3) | _ => none
  | .ldc2_w _ => match inf with | v :: _ => some (.long (Int64.ofNat v), 3) | _ => none
  | _ => none
def mjOkPu (own : String) (ins : Instr) (inf : List Nat) : Bool := match ins with
  | .ldc idx => (match inf with | 0 :: v :: pl :: _ => mjHas pl (.constant own idx (Int32.ofNat v)) | 1 :: i :: _ => decide (own = "AvalancheInn$Lexer" ∧ mjSIdx.getD i 0 = idx) | _ => false)
  | .ldc_w idx => (match inf with | 0 :: v :: pl :: _ => mjHas pl (.constant own idx (Int32.ofNat v)) | _ => false)
  | .ldc2_w idx => (match inf with | v :: pl :: _ => mjHas pl (.constantLong own idx (Int64.ofNat v)) | _ => false)
  | _ => true
-- ===== reads of what was there before =====
def mjX (sc : List Int32) (ins : Instr) (inf : List Nat) (st : List Value) : Option (List Value × Nat) := match ins with
  | .getstatic _ => match inf with | 0 :: _ => some (.int 1 :: st, 3) | 1 :: _ => some (.retAddr 4 :: st, 3) | _ => none
  | .getfield _ => match st with
    | .retAddr a :: r => (match inf with | 0 :: _ => if a < 2 then some (.retAddr (a + 2) :: r, 3) else none | 1 :: _ => if a < 2 then some (.int 0 :: r, 3) else none | _ => none)
    | _ => none
  | .arraylength => match st with
    | .retAddr a :: r => if a = 9 then some (.int (Int32.ofNat sc.length) :: r, 1) else if a = 2 ∨ a = 3 then some (.int (Int32.ofNat (mjSLen.getD (a - 2) 0)) :: r, 1) else none
    | _ => none
  | .baload => match st with
    | .int i :: .retAddr a :: r => if (a = 2 ∨ a = 3) ∧ ¬ i < 0 ∧ i.toNatClampNeg < mjSLen.getD (a - 2) 0 then some (.int ((mjSByt.getD (a - 2) []).getD i.toNatClampNeg 0) :: r, 1) else none
    | _ => none
  | .iaload => match st with
    | .int i :: .retAddr a :: r => if a = 9 ∧ ¬ i < 0 ∧ i.toNatClampNeg < sc.length then some (.int (sc.getD i.toNatClampNeg 0) :: r, 1) else none
    | _ => none
  | _ => none
def mjOkX (own : String) (ins : Instr) (inf : List Nat) : Bool := match ins with
  | .getstatic idx => (match inf with | 0 :: pl :: _ => mjHas pl (.fieldLink own idx "java/lang/String" "COMPACT_STRINGS" "Z") | 1 :: pl :: _ => mjHas pl (.fieldLink own idx "jdk/internal/util/Preconditions" "SIOOBE_FORMATTER" "Ljava/util/function/BiFunction;") | _ => false)
  | .getfield idx => (match inf with | 0 :: pl :: _ => mjHas pl (.fieldLink own idx "java/lang/String" "value" "[B") | 1 :: pl :: _ => mjHas pl (.fieldLink own idx "java/lang/String" "coder" "B") | _ => false)
  | _ => true
section MjX
variable {p : Program} {l : Launch} {e : Env} {R : Room} {s : State} {m : MethodId} {args : Array Value} {below : List Frame} {meth : Method} {c : Code} {H H0 : Heap} {locs : List Loc} {cells slots : Nat} {Q : State → Prop}
variable {cc : ByteArray} {pc : Nat} {lm : Array Slot} {B : Nat} {xa : Nat → Option Nat} {D : va_G} {cT : Nat → ClassId} {w : MjW} {rest : List Value} {sc : List Int32}
theorem mj_simPu (hx : p.tables.exec = Jvm.exec) (hb : c.code = cc) {own : String} {ins : Instr} {len : Nat} {inf : List Nat} {v : Value} {st : List Value} (h : mjPu ins inf = some (v, len)) (ho : mjOkPu own ins inf = true) (hts : ∀ w ∈ mjAll, w.before args s = true) (hown : s.vm.findClass own = some m.cls) (hE : mjE B xa sc H0 s) (hd : decode cc pc = .ok (ins, len))
    (k : W p l e R s m args below meth c H locs cells slots Q (F0 m (pc + len) lm ((v :: st).map (mjTr B xa)))) : W p l e R s m args below meth c H locs cells slots Q (F0 m pc lm (st.map (mjTr B xa))) := by
  unfold mjPu at h
  split at h
  · cases h; exact lv_bipush hx hb hd rfl k
  · cases h; exact lv_sipush hx hb hd rfl k
  · rename_i idx
    split at h
    · rename_i v0 tl
      cases h
      unfold mjOkPu at ho; simp only at ho
      split at ho
      · rename_i v1 pl tl2 heq
        cases heq
        exact lv_ldc hx hb hown (hts _ (mjHas_in ho)) hd k
      · rename_i i tl2 heq; cases heq
      · cases ho
    · rename_i i tl
      split at h
      · rename_i hi
        cases h
        unfold mjOkPu at ho; simp only [decide_eq_true_eq] at ho
        obtain ⟨-, -, -, -, ⟨adK, adV, -, k2, k3, -, -, k6⟩, -⟩ := hE
        have hz := k6 i hi
        rw [ho.2] at hz
        have hxa : mjTr B xa (.retAddr i) = .ref (adK i) := by
          show va_rf (xa i) = _
          have : i = 0 ∨ i = 1 := by omega
          rcases this with rfl | rfl
          · rw [k2]; rfl
          · rw [k3]; rfl
        rw [List.map_cons, hxa] at k
        exact va_ldcS hx hb (by rw [ho.1] at hown; exact hown) hz hd k
      · cases h
    · cases h
  · rename_i idx
    split at h
    · rename_i v0 tl
      cases h
      unfold mjOkPu at ho; simp only at ho
      split at ho
      · rename_i v1 pl tl2 heq
        cases heq
        exact lv_ldcw hx hb hown (hts _ (mjHas_in ho)) hd k
      · cases ho
    · cases h
  · rename_i idx
    split at h
    · rename_i v0 tl
      cases h
      unfold mjOkPu at ho; simp only at ho
      split at ho
      · rename_i v1 pl tl2 heq
        cases heq
        exact lv_ldc2 hx hb hown (hts _ (mjHas_in ho)) hd k
      · cases ho
    · cases h
  · cases h
set_option maxHeartbeats 2000000 in
theorem mj_simX (hx : p.tables.exec = Jvm.exec) (hb : c.code = cc) {own : String} {ins : Instr} {len : Nat} {inf : List Nat} {st st1 : List Value} (h : mjX sc ins inf st = some (st1, len)) (ho : mjOkX own ins inf = true) (hts : ∀ w ∈ mjAll, w.before args s = true) (hown : s.vm.findClass own = some m.cls) (hE : mjE B xa sc H0 s) (hS : mjS B H0 s H locs) (hd : decode cc pc = .ok (ins, len))
    (k : W p l e R s m args below meth c H locs cells slots Q (F0 m (pc + len) lm (st1.map (mjTr B xa)))) : W p l e R s m args below meth c H locs cells slots Q (F0 m pc lm (st.map (mjTr B xa))) := by
  obtain ⟨hB, hxa, z1, z2, ⟨adK, adV, hsk, k2, k3, k4, k5, -⟩, b, hb9, hX, hbB⟩ := hE
  have tK : ∀ i, i < 2 → mjTr B xa (.retAddr i) = .ref (adK i) := fun i hi => by
    show va_rf (xa i) = _
    have : i = 0 ∨ i = 1 := by omega
    rcases this with rfl | rfl
    · rw [k2]; rfl
    · rw [k3]; rfl
  have tV : ∀ i, i < 2 → mjTr B xa (.retAddr (i + 2)) = .ref (adV i) := fun i hi => by
    show va_rf (xa (i + 2)) = _
    have : i = 0 ∨ i = 1 := by omega
    rcases this with rfl | rfl
    · rw [k4]; rfl
    · rw [k5]; rfl
  have t9 : mjTr B xa (.retAddr 9) = .ref b := by show va_rf (xa 9) = _; rw [hb9]; rfl
  unfold mjX at h
  split at h
  · rename_i idx
    split at h
    · cases h
      unfold mjOkX at ho; simp only at ho
      split at ho
      · exact va_gets hx hb (z1.kept hS.kept) hS.va hown (hts _ (mjHas_in ho)) (fun _ h9 => h9) hd k
      · rename_i heq; cases heq
      · cases ho
    · cases h
      unfold mjOkX at ho; simp only at ho
      split at ho
      · rename_i heq; cases heq
      · exact va_gets hx hb (z2.kept hS.kept) hS.va hown (hts _ (mjHas_in ho)) (fun _ h9 => h9) hd k
      · cases ho
    · cases h
  · rename_i idx
    split at h
    · rename_i a r
      split at h
      · split at h
        · rename_i ha
          cases h
          rw [List.map_cons, tK a ha]
          rw [List.map_cons, tV a ha] at k
          unfold mjOkX at ho; simp only at ho
          split at ho
          · exact vk_getf hx hb ((hsk.1 a ha).2.2.1.kept hS.kept) hS.va hown (hts _ (mjHas_in ho)) (fun _ h9 => h9) hd k
          · rename_i heq; cases heq
          · cases ho
        · cases h
      · split at h
        · rename_i ha
          cases h
          rw [List.map_cons, tK a ha]
          unfold mjOkX at ho; simp only at ho
          split at ho
          · rename_i heq; cases heq
          · exact vk_getf hx hb ((hsk.1 a ha).2.1.kept hS.kept) hS.va hown (hts _ (mjHas_in ho)) (fun _ h9 => h9) hd k
          · cases ho
        · cases h
      · cases h
    · cases h
  · split at h
    · rename_i a r
      split at h
      · rename_i ha
        subst ha
        cases h
        rw [List.map_cons, t9]
        obtain ⟨scr, x1, x2, x3, x4, x5⟩ := hX
        exact W.alen hx hb (by rw [hS.2.2.1 b hbB]; exact x1) x2 (by rw [x4]) rfl rfl hd k
      · split at h
        · rename_i ha
          cases h
          obtain ⟨i, hi, rfl⟩ : ∃ i, i < 2 ∧ a = i + 2 := ⟨a - 2, by omega, by omega⟩
          rw [List.map_cons, tV i hi]
          exact va_tlen hx hb ((hsk.1 i hi).2.2.2.kept hS.kept) hS.va rfl hd k
        · cases h
    · cases h
  · split at h
    · rename_i i a r
      split at h
      · rename_i ha
        cases h
        obtain ⟨q, hq, rfl⟩ : ∃ q, q < 2 ∧ a = q + 2 := ⟨a - 2, by omega, by omega⟩
        obtain ⟨-, h0, h1⟩ := ha
        obtain ⟨cell, c1, c2, c3, c4, c5, c6, c7⟩ := (hsk.1 q hq).2.2.2
        rw [List.map_cons, List.map_cons, tV q hq]
        refine W.bald hx hb (by rw [hS.2.2.1 _ (Nat.not_le.mp c7)]; exact c1) c2 c3 (fun z => ?_) (c6 i.toNatClampNeg h1) rfl rfl hd k
        rcases z with z | z
        · exact h0 z
        · have : i.toNatClampNeg < mjSLen.getD q 0 := h1
          omega
      · cases h
    · cases h
  · split at h
    · rename_i i a r
      split at h
      · rename_i ha
        obtain ⟨rfl, h0, h1⟩ := ha
        cases h
        rw [List.map_cons, List.map_cons, t9]
        obtain ⟨scr, x1, x2, x3, x4, x5⟩ := hX
        refine W.iald hx hb (by rw [hS.2.2.1 b hbB]; exact x1) x2 x3 (fun z => ?_) (x5 i.toNatClampNeg h1) rfl rfl hd k
        rcases z with z | z
        · exact h0 z
        · omega
      · cases h
    · cases h
  · cases h
end MjX
