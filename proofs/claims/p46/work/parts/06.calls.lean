/-! ===== calls, members of the JDK taken whole, returns ===== -/
abbrev MjM : Type := MethodName × ByteArray × Nat × Option FieldType × Nat
def mjCat (r : List Value) : Nat := (r.map fun v => v.category).sum
theorem mjCat_tr (B : Nat) (xa : Nat → Option Nat) (r : List Value) : ((r.map (mjTr B xa)).map fun v => v.category).sum = mjCat r := by
  unfold mjCat
  rw [List.map_map]
  congr 1
  apply List.map_congr_left
  intro v _
  exact mjTr_cat B xa v
def mjIsI (v : Value) : Bool := match v with | .int _ => true | _ => false
def mjCpy (vs0 vs1 : List Value) (sp dp n : Nat) : List Value := vs1.take dp ++ ((vs0.drop sp).take n ++ vs1.drop (dp + n))
def mjPr (ins : Instr) (inf : List Nat) (st : List Value) (w : MjW) : Option (List Value × MjW) := match ins with
  | .invokespecial _ => match inf with
    | 1 :: _ => (match st with | .ref _ :: r => if mjCat r ≤ 8 then some (r, w) else none | _ => none)
    | _ => none
  | .invokestatic _ => match inf with
    | 2 :: _ => (match st with | .int y :: .int x :: r => if mjCat r ≤ 8 then some (.int (if x < y then y else x) :: r, w) else none | _ => none)
    | 3 :: _ => (match st with | .int y :: .int x :: r => if mjCat r ≤ 8 then some (.int (if y < x then y else x) :: r, w) else none | _ => none)
    | 4 :: _ => (match st with
      | .int n :: .int dp :: .ref a1 :: .int sp :: .ref a0 :: r => (match w[a0]?, w[a1]? with
        | some (k0, vs0), some (k1, vs1) => if k0 = 100 ∧ k1 = 100 ∧ ¬ sp < 0 ∧ ¬ dp < 0 ∧ ¬ n < 0 ∧ sp.toNatClampNeg + n.toNatClampNeg ≤ vs0.length ∧ dp.toNatClampNeg + n.toNatClampNeg ≤ vs1.length ∧ vs0.all mjIsI = true ∧ mjCat r ≤ 8 then some (r, w.set a1 (100, mjCpy vs0 vs1 sp.toNatClampNeg dp.toNatClampNeg n.toNatClampNeg)) else none
        | _, _ => none)
      | _ => none)
    | _ => none
  | _ => none
def mjC (ins : Instr) (inf : List Nat) (st : List Value) (w : MjW) : Option (Nat × List Value × List Value) := match ins with
  | .invokevirtual _ => match inf with
    | 0 :: y :: n :: ci :: _ => (match st.drop n with
      | .ref b :: r => (match w[b]? with | some (cj, _) => if cj = ci ∧ cj < 100 ∧ n ≤ st.length ∧ mjCat r ≤ 8 then some (y, .ref b :: (st.take n).reverse, r) else none | none => none)
      | .retAddr b :: r => if ci = 200 ∧ b < 2 ∧ n ≤ st.length ∧ mjCat r ≤ 8 then some (y, .retAddr b :: (st.take n).reverse, r) else none
      | _ => none)
    | _ => none
  | .invokestatic _ => match inf with
    | 0 :: y :: n :: _ => if n ≤ st.length ∧ mjCat (st.drop n) ≤ 8 then some (y, (st.take n).reverse, st.drop n) else none
    | _ => none
  | .invokespecial _ => match inf with
    | 0 :: y :: n :: _ => (match st.drop n with
      | .ref b :: r => if n ≤ st.length ∧ mjCat r ≤ 8 then some (y, .ref b :: (st.take n).reverse, r) else none
      | _ => none)
    | _ => none
  | _ => none
def mjRt (ins : Instr) (ret : Option FieldType) (st : List Value) : Option (Option Value) := match ins with
  | .ireturn => match st with
    | .int v :: [] => (match ret with | some ty => if narrow ty (.int v) = .int v then some (some (.int v)) else none | none => none)
    | _ => none
  | .lreturn => match st with
    | .long v :: [] => if ret = some .long then some (some (.long v)) else none
    | _ => none
  | .areturn => match st with
    | .ref a :: [] => (match ret with | some (.object _) => some (some (.ref a)) | _ => none)
    | _ => none
  | .return_ => match st with
    | [] => if ret = none then some none else none
    | _ => none
  | _ => none
def mjNestHas (pl : Nat) (w : Cond) : Bool := decide (lw_tbl[pl]? = some w) && (match w with | .methodLinkNest _ _ _ _ => true | _ => false)
theorem mjNestHas_in {pl : Nat} {w : Cond} (h : mjNestHas pl w = true) : w ∈ mjNest := by
  unfold mjNestHas at h
  simp only [Bool.and_eq_true, decide_eq_true_eq] at h
  exact List.mem_filter.mpr ⟨List.mem_of_getElem? h.1, h.2⟩
def mjDesc (nm : MethodName) (n : Nat) : Bool := decide (nm.cls ≠ "java/lang/invoke/MethodHandle") && (decide (nm.cls ≠ "java/lang/invoke/VarHandle") && decide ((parseMethodDescriptor nm.desc).map (fun d => d.parameters.length) = some n))
def mjOkC (mt : Nat → Option MjM) (own : String) (ins : Instr) (inf : List Nat) : Bool := match ins with
  | .invokevirtual idx => (match inf with
    | _ :: y :: n :: ci :: p1 :: p2 :: p3 :: p4 :: _ => (match mt y with
      | some (nm, _) => mjHas p1 (.methodLink own idx nm) && (mjHas p2 (.instanceMethod nm) && (mjHas p3 (.selects nm.cls nm nm) && (mjHas p4 (.initialized nm.cls) && (mjDesc nm n && (bif Nat.beq ci 200 then decide (nm.cls = "java/lang/String") else decide ((vwCl[ci]?).map (fun r => r.1) = some nm.cls))))))
      | none => false)
    | _ => false)
  | .invokestatic idx => (match inf with
    | 0 :: y :: n :: k :: p1 :: p2 :: p3 :: _ => (match mt y with
      | some (nm, _) => (bif Nat.beq k 0 then mjHas p1 (.methodLink own idx nm) else mjNestHas p1 (.methodLinkNest own idx nm "AvalancheInn")) && (mjHas p2 (.static nm) && (mjHas p3 (.initialized nm.cls) && mjDesc nm n))
      | none => false)
    | _ => false)
  | .invokespecial idx => (match inf with
    | 0 :: y :: n :: k :: p1 :: p2 :: p3 :: _ => (match mt y with
      | some (nm, _, _, rt, _) => (bif Nat.beq k 0 then mjHas p1 (.methodLink own idx nm) else mjNestHas p1 (.methodLinkNest own idx nm "AvalancheInn")) && (mjHas p2 (.instanceMethod nm) && (mjHas p3 (.initialized nm.cls) && (mjDesc nm n && (decide (nm.name = "<init>") && decide (rt = none)))))
      | none => false)
    | _ => false)
  | _ => true
def mjOkPr (own : String) (ins : Instr) (inf : List Nat) : Bool := match ins with
  | .invokespecial idx => (match inf with
    | _ :: p1 :: p2 :: p3 :: _ => mjHas p1 (.methodLink own idx objectInit) && (mjHas p2 (.instanceMethod objectInit) && mjHas p3 (.code objectInit ⟨#[0xb1]⟩ 1 none))
    | _ => false)
  | .invokestatic idx => (match inf with
    | 2 :: p1 :: p2 :: p3 :: p4 :: _ => mjHas p1 (.methodLink own idx Lib.Math.max.name) && (mjHas p2 (.static Lib.Math.max.name) && (mjHas p3 (.initialized "java/lang/Math") && mjHas p4 (.code Lib.Math.max.name Lib.Math.max.code 2 (some .int))))
    | 3 :: p1 :: p2 :: p3 :: p4 :: _ => mjHas p1 (.methodLink own idx Lib.Math.min.name) && (mjHas p2 (.static Lib.Math.min.name) && (mjHas p3 (.initialized "java/lang/Math") && mjHas p4 (.code Lib.Math.min.name Lib.Math.min.code 2 (some .int))))
    | 4 :: p1 :: p2 :: p3 :: p4 :: _ => mjHas p1 (.methodLink own idx arraycopyName) && (mjHas p2 (.static arraycopyName) && (mjHas p3 (.initialized "java/lang/System") && mjHas p4 (.native arraycopyName)))
    | _ => false)
  | _ => true
theorem mjCpy_get {vs0 vs1 : List Value} {sp dp n : Nat} (h0 : sp + n ≤ vs0.length) (h1 : dp + n ≤ vs1.length) (B : Nat) (xa : Nat → Option Nat) : (fun j => mjTr B xa ((mjCpy vs0 vs1 sp dp n).getD j .null)) = va_cpy (fun j => mjTr B xa (vs0.getD j .null)) (fun j => mjTr B xa (vs1.getD j .null)) sp dp n := by
  funext j
  unfold mjCpy va_cpy
  have l1 : (vs1.take dp).length = dp := by rw [List.length_take]; omega
  have l2 : ((vs0.drop sp).take n).length = n := by rw [List.length_take, List.length_drop]; omega
  simp only [List.getD_eq_getElem?_getD]
  by_cases ha : j < dp
  · rw [if_neg (by omega), List.getElem?_append_left (by omega), List.getElem?_take_of_lt ha]
  · rw [List.getElem?_append_right (by omega), l1]
    by_cases hb : j < dp + n
    · rw [if_pos ⟨by omega, hb⟩, List.getElem?_append_left (by omega), List.getElem?_take_of_lt (by omega), List.getElem?_drop]
    · rw [if_neg (by omega), List.getElem?_append_right (by omega), l2, List.getElem?_drop]
      congr 3
      have : dp + n + (j - dp - n) = j := by omega
      rw [this]
theorem mjCpy_len {vs0 vs1 : List Value} {sp dp n : Nat} (h0 : sp + n ≤ vs0.length) (h1 : dp + n ≤ vs1.length) : (mjCpy vs0 vs1 sp dp n).length = vs1.length := by
  unfold mjCpy
  rw [List.length_append, List.length_append, List.length_take, List.length_take, List.length_drop, List.length_drop]
  omega
section MjC
variable {p : Program} {l : Launch} {e : Env} {R : Room} {s : State} {m : MethodId} {args : Array Value} {below : List Frame} {meth : Method} {c : Code} {H H0 : Heap} {locs : List Loc} {cells slots : Nat} {Q : State → Prop}
variable {cc : ByteArray} {pc : Nat} {lm : Array Slot} {B : Nat} {xa : Nat → Option Nat} {D : va_G} {cT : Nat → ClassId} {w : MjW} {rest : List Value} {sc : List Int32}
set_option maxHeartbeats 2000000 in
theorem mj_copy (hx : p.tables.exec = Jvm.exec) (hb : c.code = cc) (hml : c.maxLocals = lm.size) {own : String} {index : Nat} (hown : s.vm.findClass own = some m.cls) (hlink : (Cond.methodLink own index arraycopyName).before args s = true) (hnat : (Cond.native arraycopyName).before args s = true) (hstat : (Cond.static arraycopyName).before args s = true) (hini : (Cond.initialized "java/lang/System").before args s = true)
    (hK : mjK D cT s) (hP : mjP D cT B xa H0 w H) {a0 a1 : Nat} {vs0 vs1 : List Value} (ha0 : w[a0]? = some (100, vs0)) (ha1 : w[a1]? = some (100, vs1)) {sp dp n : Int32} (h1 : ¬ sp < 0) (h2 : ¬ dp < 0) (h3 : ¬ n < 0) (h4 : sp.toNatClampNeg + n.toNatClampNeg ≤ vs0.length) (h5 : dp.toNatClampNeg + n.toNatClampNeg ≤ vs1.length) (hI : vs0.all mjIsI = true)
    (hframes : 1 ≤ R.frames) (hlocals : (rest.map fun v => v.category).sum + (nativeFrameWords "java/lang/System" "arraycopy" 5 + 11) ≤ R.locals) (hd : decode cc pc = .ok (.invokestatic index, 3))
    (kk : ∀ (H1 : Heap), mjP D cT B xa H0 (w.set a1 (100, mjCpy vs0 vs1 sp.toNatClampNeg dp.toNatClampNeg n.toNatClampNeg)) H1 → ∀ locs1 : List Loc, (∀ q ∈ locs1, q ∈ locs ∨ B ≤ q.base) → W p l e R s m args below meth c H1 locs1 cells slots Q (F0 m (pc + 3) lm rest)) : W p l e R s m args below meth c H locs cells slots Q (F0 m pc lm (.int n :: .int dp :: .ref (B + a1) :: .int sp :: .ref (B + a0) :: rest)) := by
  have nn : ∀ z : Int32, ¬ z < 0 → z.toInt = (z.toNatClampNeg : Int) := by
    intro z hz
    have hz0 : (0 : Int) ≤ z.toInt := by
      have := Int32.not_lt.mp hz
      simpa using Int32.le_iff_toInt_le.mp this
    show z.toInt = ((z.toInt.toNat : Nat) : Int)
    omega
  intro T hT X
  have hc0 := hP.arr ha0 (by decide)
  have hc1 := hP.arr ha1 (by decide)
  obtain ⟨-, k0, hk0, cm0, hkk0⟩ := (hK.arr (k := 100) (Or.inl rfl)).1 vs0.length (fun j => mjTr B xa (vs0.getD j .null))
  obtain ⟨-, k1, hk1, cm1, hkk1⟩ := (hK.arr (k := 100) (Or.inl rfl)).1 vs1.length (fun j => mjTr B xa (vs1.getD j .null))
  obtain ⟨vm', X', step⟩ := X.arraycopy hx hown hlink hnat hstat hini (src := B + a0) (dst := B + a1) (cs := arrV (cT 100) vs0.length (fun j => mjTr B xa (vs0.getD j .null))) (cd := arrV (cT 100) vs1.length (fun j => mjTr B xa (vs1.getD j .null))) (srcPos := sp) (destPos := dp) (n := n) (by rw [hT]; exact hc0) (by rw [hT]; exact hc1)
    (fun _ h => by cases h) (fun _ h => by cases h) (fun h => by cases h) (fun h => by cases h) hk0 hk1 hkk0 hkk1 (by simp [mjAT, refKind]) h1 h2 h3
    (by rw [nn sp h1, nn n h3, arrV_size]; omega)
    (by rw [nn dp h2, nn n h3, arrV_size]; omega)
    (fun vm₁ _ i hi => by
      have hlt : sp.toNatClampNeg + i < vs0.length := by omega
      have hm : mjIsI (vs0.getD (sp.toNatClampNeg + i) .null) = true := by
        rw [List.getD_eq_getElem?_getD, List.getElem?_eq_getElem hlt]
        exact List.all_eq_true.mp hI _ (List.getElem_mem hlt)
      have e : ∃ z, (arrV (cT 100) vs0.length (fun j => mjTr B xa (vs0.getD j .null))).slots.getD (sp.toNatClampNeg + i) .null = .int z := by
        rw [Array.getD_eq_getD_getElem?, arrV_read _ _ hlt]
        cases hv : vs0.getD (sp.toNatClampNeg + i) .null with
        | int z => exact ⟨z, by rw [Option.getD_some]; rfl⟩
        | _ => rw [hv] at hm; cases hm
      obtain ⟨z, e⟩ := e
      rw [e]
      exact ⟨rfl, trivial⟩)
    (g := F0 m pc lm (.int n :: .int dp :: .ref (B + a1) :: .int sp :: .ref (B + a0) :: rest)) rfl (by rw [hml]) (rest := rest) rfl (by rw [hb]; exact hd) hframes (by show 2 * 0 + _ + _ ≤ _; omega)
  have e1 : copied (arrV (cT 100) vs0.length (fun j => mjTr B xa (vs0.getD j .null))) (arrV (cT 100) vs1.length (fun j => mjTr B xa (vs1.getD j .null))) sp dp n = arrV (cT 100) vs1.length (va_cpy (fun j => mjTr B xa (vs0.getD j .null)) (fun j => mjTr B xa (vs1.getD j .null)) sp.toNatClampNeg dp.toNatClampNeg n.toNatClampNeg) := va_copied (fun z => z) (cT 100) (cT 100) _ _ h4
  rw [e1] at X' step
  have hl : B + a1 < H.size := (Array.getElem?_eq_some_iff.mp hc1).1
  have hheap : ((T.setVm vm').setCell (B + a1) (arrV (cT 100) vs1.length (va_cpy (fun j => mjTr B xa (vs0.getD j .null)) (fun j => mjTr B xa (vs1.getD j .null)) sp.toNatClampNeg dp.toNatClampNeg n.toNatClampNeg))).heap = H.setIfInBounds (B + a1) (arrV (cT 100) vs1.length (va_cpy (fun j => mjTr B xa (vs0.getD j .null)) (fun j => mjTr B xa (vs1.getD j .null)) sp.toNatClampNeg dp.toNatClampNeg n.toNatClampNeg)) := by rw [← hT]; rfl
  obtain ⟨t, b1, b2⟩ := kk _ (hP.set ha1 (H1 := H.setIfInBounds (B + a1) (arrV (cT 100) vs1.length (va_cpy (fun j => mjTr B xa (vs0.getD j .null)) (fun j => mjTr B xa (vs1.getD j .null)) sp.toNatClampNeg dp.toNatClampNeg n.toNatClampNeg))) (by
      unfold mjAt
      rw [if_neg (show ¬ 100 < 100 by decide)]
      show _ = some (arrV (cT 100) (mjCpy vs0 vs1 sp.toNatClampNeg dp.toNatClampNeg n.toNatClampNeg).length (fun j => mjTr B xa ((mjCpy vs0 vs1 sp.toNatClampNeg dp.toNatClampNeg n.toNatClampNeg).getD j .null)))
      rw [mjCpy_get h4 h5, mjCpy_len h4 h5]
      simp [Array.getElem?_setIfInBounds, hl]) (by simp) (fun q hq => by simp [Array.getElem?_setIfInBounds, Ne.symm hq])) _ (fun q hq => by
      rcases List.mem_append.mp hq with h | h
      · exact Or.inl h
      · obtain ⟨z, -, hz⟩ := List.mem_map.mp h
        rw [← hz]
        exact Or.inr (Nat.le_add_right B a1)) _ hheap X'
  exact ⟨t, step t b1, b2⟩
theorem mjNfw : nativeFrameWords "java/lang/System" "arraycopy" 5 = 7 := by decide +kernel
set_option maxHeartbeats 2000000 in
theorem mj_simPr (hx : p.tables.exec = Jvm.exec) (hb : c.code = cc) {own : String} {ins : Instr} {inf : List Nat} {st st1 : List Value} {w1 : MjW} (h : mjPr ins inf st w = some (st1, w1)) (ho : mjOkPr own ins inf = true) (hts : ∀ w ∈ mjAll, w.before args s = true) (hown : s.vm.findClass own = some m.cls) (hml : c.maxLocals = lm.size) (hK : mjK D cT s) (hP : mjP D cT B xa H0 w H)
    (hframes : 1 ≤ R.frames) (hlocals : 64 ≤ R.locals) (hcells : cells ≤ R.cells) (hslots : slots ≤ R.slots) (hd : decode cc pc = .ok (ins, 3))
    (kk : ∀ (H1 : Heap), mjP D cT B xa H0 w1 H1 → ∀ locs1 : List Loc, (∀ q ∈ locs1, q ∈ locs ∨ B ≤ q.base) → W p l e R s m args below meth c H1 locs1 cells slots Q (F0 m (pc + 3) lm (st1.map (mjTr B xa)))) : W p l e R s m args below meth c H locs cells slots Q (F0 m pc lm (st.map (mjTr B xa))) := by
  have hself := fun (hP : mjP D cT B xa H0 w H) => kk
  unfold mjPr at h
  split at h
  · rename_i idx
    split at h
    · split at h
      · rename_i a r
        split at h
        · rename_i hr
          cases h
          unfold mjOkPr at ho; simp only at ho
          split at ho
          · simp only [Bool.and_eq_true] at ho
            have hcr := mjCat_tr B xa st1
            refine W.objInit hx hb hown (hts _ (mjHas_in ho.1)) (hts _ (mjHas_in ho.2.1)) (hts _ (mjHas_in ho.2.2)) rfl hml.symm rfl hd hframes ?_ (kk H hP locs (fun q hq => Or.inl hq))
            show 2 * 0 + _ + 12 ≤ R.locals
            omega
          · cases ho
        · cases h
      · cases h
    · cases h
  · rename_i idx
    split at h
    · split at h
      · rename_i y x r
        split at h
        · rename_i hr
          cases h
          unfold mjOkPr at ho; simp only at ho
          split at ho
          · simp only [Bool.and_eq_true] at ho
            have hcr := mjCat_tr B xa r
            exact va_mmax hx hb hml hown (hts _ (mjHas_in ho.1)) (hts _ (mjHas_in ho.2.1)) (hts _ (mjHas_in ho.2.2.1)) (hts _ (mjHas_in ho.2.2.2)) hframes (by rw [hcr]; omega) hcells hslots hd (kk H hP locs (fun q hq => Or.inl hq))
          · rename_i heq; cases heq
          · rename_i heq; cases heq
          · cases ho
        · cases h
      · cases h
    · split at h
      · rename_i y x r
        split at h
        · rename_i hr
          cases h
          unfold mjOkPr at ho; simp only at ho
          split at ho
          · rename_i heq; cases heq
          · simp only [Bool.and_eq_true] at ho
            have hcr := mjCat_tr B xa r
            exact va_mmin hx hb hml hown (hts _ (mjHas_in ho.1)) (hts _ (mjHas_in ho.2.1)) (hts _ (mjHas_in ho.2.2.1)) (hts _ (mjHas_in ho.2.2.2)) hframes (by rw [hcr]; omega) hcells hslots hd (kk H hP locs (fun q hq => Or.inl hq))
          · rename_i heq; cases heq
          · cases ho
        · cases h
      · cases h
    · split at h
      · rename_i n dp a1 sp a0 r
        split at h
        · rename_i k0 vs0 k1 vs1 hw0 hw1
          split at h
          · rename_i hc
            obtain ⟨rfl, rfl, c1, c2, c3, c4, c5, c6, c7⟩ := hc
            cases h
            unfold mjOkPr at ho; simp only at ho
            split at ho
            · rename_i heq; cases heq
            · rename_i heq; cases heq
            · simp only [Bool.and_eq_true] at ho
              have hcr := mjCat_tr B xa st1
              exact mj_copy hx hb hml hown (hts _ (mjHas_in ho.1)) (hts _ (mjHas_in ho.2.2.2)) (hts _ (mjHas_in ho.2.1)) (hts _ (mjHas_in ho.2.2.1)) hK hP hw0 hw1 c1 c2 c3 c4 c5 c6 hframes (by rw [hcr, mjNfw]; omega) hd kk
            · cases ho
          · cases h
        · cases h
      · cases h
    · cases h
  · cases h
theorem mj_call {mc ms : Nat} {st0 : List Value} {Qa : State → Outcome → State → Prop} {free : Addr → Prop} (hr : va_Run p l e R s m args below meth c H locs cells slots mc ms (F0 m pc lm st0) rest Qa free)
    (kk : ∀ (v : Option Value) (t0 t : State) (H1 : Heap) (L : List Loc), t0.heap = H → t.heap = H1 → Qa t0 (.returned v) t → (∀ q ∈ L, free q.base) → W p l e R s m args below meth c H1 (locs ++ L) (cells + mc) (slots + ms) Q (F0 m (pc + 3) lm (v.toList ++ rest))) : W p l e R s m args below meth c H locs cells slots Q (F0 m pc lm st0) := by
  intro T hT X
  obtain ⟨v, st₀, t, T', L, h0, X', hL, e1, e2, hq, st⟩ := hr T hT X
  obtain ⟨t2, a1, b1⟩ := kk v st₀ t T'.heap L h0 e1.symm hq hL T' rfl X'
  exact ⟨t2, st t2 a1, b1⟩
def mjWs (M : MjM) : List Cond := Cond.code M.1 M.2.1 M.2.2.1 M.2.2.2.1 :: mjAll
theorem mjGood : GoodIn mjAll mjAll := fun w hw => ⟨hw, good_of_word (List.mem_filter.mp hw).2⟩
theorem mjGoodWs {M : MjM} (h : Cond.code M.1 M.2.1 M.2.2.1 M.2.2.2.1 ∈ mjAll) : GoodIn mjAll (mjWs M) := fun w hw => (List.mem_cons.mp hw).elim (fun e => by rw [e]; exact mjGood _ h) (fun h2 => mjGood _ h2)
def mjRm (d mc ms : Nat) : Room := { frames := d, cells := mc, slots := ms, locals := 64 * d }
def mjPc (D : va_G) (cT : Nat → ClassId) (B : Nat) (xa : Nat → Option Nat) (sc : List Int32) (H0 : Heap) (w : MjW) (as : List Value) : Array Value → State → Prop := va_Pc (as.map (mjTr B xa)) (fun U => mjP D cT B xa H0 w U.heap ∧ mjK D cT U ∧ mjE B xa sc H0 U)
def mjQc (D : va_G) (cT : Nat → ClassId) (B : Nat) (xa : Nat → Option Nat) (H0 : Heap) (r : Option Value) (w : MjW) : Array Value → State → Outcome → State → Prop := fun _ _ oc t => oc = .returned (r.map (mjTr B xa)) ∧ mjP D cT B xa H0 w t.heap
theorem mjPc_blind {D : va_G} {cT : Nat → ClassId} {B : Nat} {xa : Nat → Option Nat} {sc : List Int32} {H0 : Heap} {w : MjW} {as : List Value} : FrameBlind (mjPc D cT B xa sc H0 w as) := by
  intro a U g mk h
  obtain ⟨h1, h2, h3, h4⟩ := h
  exact ⟨h1, h2, mjK.same (s := U) (U := U.calling g mk a) rfl h3, mjE.same (s := U) (U := U.calling g mk a) rfl h4⟩
end MjC
