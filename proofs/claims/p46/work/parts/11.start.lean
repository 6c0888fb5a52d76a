/-! THE CLAIM OUT OF ONE WALK OF THE LAW'S BODY. Your part is whole_start (and what it stands on); all else here is the same for every law, but numbers. -/
def R_law : String := "AvalancheInnLaw"
def lw_P (b : Addr) (xs : List Int32) (args : Array Value) (s : State) : Prop := args = #[.ref b] ∧ s.IntsAt b xs ∧ xs.length ≤ 3072 ∧ (Jvm.Cond.and given_1 narrow_1).before args s = true
def lw_Q (_ : Array Value) (s : State) (o : Outcome) (t : State) : Prop := o = .returned (some (.int 1)) ∧ Framed s o t [] 600000 7302250
def lw_Z (below : List Frame) (a : Array Value) (s : State) : State → Prop := fun t => ∃ o, t.status = .running ∧ Ended t below o ∧ lw_Q a s o t
/-- the law's own end, with 1 on the stack, nothing written that was there before, its room as the claim has it -/
theorem lw_ret {p : Program} {l : Launch} {e : Env} {s : State} {m : MethodId} {below : List Frame} {meth : Method} {c : Code} {b : Nat} (hx : p.tables.exec = Jvm.exec) (hb : c.code = code) (hr : meth.sig.returnType = ret) (hlocks : meth.locks = false) {pc : Nat} {H : Heap} {ls : Array Slot} (hdg : decode code pc = .ok (.ireturn, 1)) : W p l e room_1 s m #[Value.ref b] below meth c H [] 600000 7302250 (lw_Z below #[Value.ref b] s) (F0 m pc ls [.int 1]) := by
  intro T hT X
  obtain ⟨fs, hret, hrun, hended, hW, hframe⟩ := X.leave (v := some (.int 1)) (hlocks := hlocks) (fun h => by rw [hr] at h; cases h)
  have hmeth' : T.vm.method? m = some meth := X.method'
  refine ⟨T.setFrames fs, ?_, .returned (some (.int 1)), hrun, hended, rfl, ⟨_, rfl⟩, hW, hframe⟩
  jvm_step X.here [X.here.top, hx, hb, hdg, hmeth', hr, ret, narrow_b1]
  (try refine ⟨rfl, ?_⟩); (try refine ⟨rfl, ?_⟩)
  first | (intro acts; rw [hret _ acts rfl rfl rfl]) | rw [hret _ _ rfl rfl rfl]
  exact Steps.refl _
/-- what holds at the law's entry: the machine, the code, the tables' words (any of lw_tbl by 'hts w (by decide +kernel)'), the script of L ints xs at the cell b, what the Statement gives of the start (any of its parts by flat_of_before) -/
def lw_At (p : Program) (s : State) (m : MethodId) (meth : Method) (c : Code) (b L : Nat) (xs : Nat → Int32) : Prop :=
  p.tables.exec = Jvm.exec ∧ c.code = code ∧ meth.sig.returnType = ret ∧ c.maxLocals = 4 ∧ s.vm.findClass R_law = some m.cls ∧ (∀ w ∈ lw_tbl, w.before #[Value.ref b] s = true) ∧ va_X b L xs s s.heap ∧ b < s.heap.size ∧ meth.locks = false ∧ (Jvm.Cond.and given_1 narrow_1).before #[Value.ref b] s = true
theorem va_tabsA {ty : FieldType} {args : Array Value} {s : State} (h : (Cond.arrayClass ty).before args s = true) : (Cond.arrayClass ty).before #[] s = true := by
  first
    | exact va_tabs rfl rfl h
    | exact h
/-- the whole run of the law on the small machine: what is left to be shown -/
def MjWhole : Prop := ∀ sc : List Int32, sc.length ≤ 3072 → ∃ (n : Nat) (w1 : MjW), mjEx mjTb mjMt sc n 100 0 0 [some (.retAddr 9), none, none, none] [] [] = some (some (.int 1), w1) ∧ w1.length ≤ 600000 ∧ mjSz w1 ≤ 7302250
theorem mj_arrs {s : State} {ty : FieldType} (h : (Cond.arrayClass ty).before #[] s = true) (hp : ∀ C, ty ≠ .object C) : ∃ cA : ClassId, ArrOfT s cA ty ∧ va_RA s cA ty := by
  obtain ⟨cA, kA, comp, h1, h2, h3⟩ := Cond.arrayClass_spec h
  refine ⟨cA, fun n z => ⟨fun k h => (by cases h), kA, h2, comp, h3⟩, ?_⟩
  unfold va_RA
  split
  · rename_i C; exact absurd rfl (hp C)
  · exact h1
theorem mj_arrO {s : State} {C : String} (h : va_AO C s) : ∃ cA : ClassId, ArrOfT s cA (.object C) ∧ va_RA s cA (.object C) := by
  obtain ⟨comp, cA, kA, h1, h2, h3, h4, h5⟩ := Cond.arrayOver_spec h
  exact ⟨cA, fun n z => ⟨fun k h => (by cases h), kA, h3, comp, h4⟩, kA, comp, h3, h4, h1, h5⟩
def mjTm (i : Nat) : Term := Term.string "AvalancheInn$Lexer" (mjSIdx.getD i 0)
def mjStrF : List Cond := flatC (Jvm.Cond.and given_1 narrow_1)
def mjStrE (i j : Nat) : Bool := mjStrF.contains (Cond.eq (.elem (.field (mjTm i) "java/lang/String" "value" "[B") (.int (Int32.ofNat j))) (.int ((mjSByt.getD i []).getD j 0)))
def mjStrH (i : Nat) : Bool := mjStrF.contains (Cond.exactly (mjTm i) "java/lang/String") && (mjStrF.contains (Cond.eq (.field (mjTm i) "java/lang/String" "coder" "B") (.int 0)) && (mjStrF.contains (Cond.arrayOf (.field (mjTm i) "java/lang/String" "value" "[B") .byte) && mjStrF.contains (Cond.eq (.length (.field (mjTm i) "java/lang/String" "value" "[B")) (.int (Int32.ofNat (mjSLen.getD i 0))))))
set_option maxRecDepth 100000 in
theorem mjStr_0_0 : (List.range 14).all (fun j => mjStrE 0 (0 + j)) = true := by decide +kernel
set_option maxRecDepth 100000 in
theorem mjStr_0_14 : (List.range 14).all (fun j => mjStrE 0 (14 + j)) = true := by decide +kernel
set_option maxRecDepth 100000 in
theorem mjStr_0_28 : (List.range 14).all (fun j => mjStrE 0 (28 + j)) = true := by decide +kernel
set_option maxRecDepth 100000 in
theorem mjStr_0_42 : (List.range 14).all (fun j => mjStrE 0 (42 + j)) = true := by decide +kernel
set_option maxRecDepth 100000 in
theorem mjStr_0_56 : (List.range 14).all (fun j => mjStrE 0 (56 + j)) = true := by decide +kernel
set_option maxRecDepth 100000 in
theorem mjStr_0_70 : (List.range 14).all (fun j => mjStrE 0 (70 + j)) = true := by decide +kernel
set_option maxRecDepth 100000 in
theorem mjStr_0_84 : (List.range 14).all (fun j => mjStrE 0 (84 + j)) = true := by decide +kernel
set_option maxRecDepth 100000 in
theorem mjStr_0_98 : (List.range 14).all (fun j => mjStrE 0 (98 + j)) = true := by decide +kernel
set_option maxRecDepth 100000 in
theorem mjStr_0_112 : (List.range 14).all (fun j => mjStrE 0 (112 + j)) = true := by decide +kernel
set_option maxRecDepth 100000 in
theorem mjStr_0_126 : (List.range 11).all (fun j => mjStrE 0 (126 + j)) = true := by decide +kernel
set_option maxRecDepth 100000 in
theorem mjStr_1_0 : (List.range 11).all (fun j => mjStrE 1 (0 + j)) = true := by decide +kernel
set_option maxRecDepth 100000 in
theorem mjStr_h0 : mjStrH 0 = true := by decide +kernel
set_option maxRecDepth 100000 in
theorem mjStr_h1 : mjStrH 1 = true := by decide +kernel
set_option maxRecDepth 100000 in
theorem mjStr_a : mjStrF.contains (Cond.eq (.static "java/lang/String" "COMPACT_STRINGS" "Z") (.int 1)) = true := by decide +kernel
set_option maxRecDepth 100000 in
theorem mjStr_b : mjStrF.contains (Cond.isRef (.static "jdk/internal/util/Preconditions" "SIOOBE_FORMATTER" "Ljava/util/function/BiFunction;")) = true := by decide +kernel
set_option maxRecDepth 100000 in
theorem mjStr_c : (mjStrF.contains (Cond.not (Cond.eq (mjTm 0) (mjTm 1))) || mjStrF.contains (Cond.not (Cond.eq (mjTm 1) (mjTm 0)))) = true := by decide +kernel
theorem mjStr_ch {f : Nat → Bool} {a n j : Nat} (h : (List.range n).all (fun j => f (a + j)) = true) (h1 : a ≤ j) (h2 : j < a + n) : f j = true := by
  have := List.all_eq_true.mp h (j - a) (List.mem_range.mpr (by omega))
  rw [show a + (j - a) = j by omega] at this
  exact this
theorem mjStr_e0 : (List.range 137).all (mjStrE 0) = true := by
  refine List.all_eq_true.mpr (fun j hj => ?_)
  have hj := List.mem_range.mp hj
  by_cases h14 : j < 14
  · exact mjStr_ch (f := mjStrE 0) mjStr_0_0 (by omega) (by omega)
  by_cases h28 : j < 28
  · exact mjStr_ch (f := mjStrE 0) mjStr_0_14 (by omega) (by omega)
  by_cases h42 : j < 42
  · exact mjStr_ch (f := mjStrE 0) mjStr_0_28 (by omega) (by omega)
  by_cases h56 : j < 56
  · exact mjStr_ch (f := mjStrE 0) mjStr_0_42 (by omega) (by omega)
  by_cases h70 : j < 70
  · exact mjStr_ch (f := mjStrE 0) mjStr_0_56 (by omega) (by omega)
  by_cases h84 : j < 84
  · exact mjStr_ch (f := mjStrE 0) mjStr_0_70 (by omega) (by omega)
  by_cases h98 : j < 98
  · exact mjStr_ch (f := mjStrE 0) mjStr_0_84 (by omega) (by omega)
  by_cases h112 : j < 112
  · exact mjStr_ch (f := mjStrE 0) mjStr_0_98 (by omega) (by omega)
  by_cases h126 : j < 126
  · exact mjStr_ch (f := mjStrE 0) mjStr_0_112 (by omega) (by omega)
  exact mjStr_ch (f := mjStrE 0) mjStr_0_126 (by omega) (by omega)
theorem mjStr_e1 : (List.range 11).all (mjStrE 1) = true := by
  refine List.all_eq_true.mpr (fun j hj => ?_)
  have hj := List.mem_range.mp hj
  exact mjStr_ch (f := mjStrE 1) mjStr_1_0 (by omega) (by omega)
theorem mjStr_i {i : Nat} (h : mjStrH i = true) (he : (List.range (mjSLen.getD i 0)).all (mjStrE i) = true) : (mjStrF.contains (Cond.exactly (mjTm i) "java/lang/String") && (mjStrF.contains (Cond.eq (.field (mjTm i) "java/lang/String" "coder" "B") (.int 0)) && (mjStrF.contains (Cond.arrayOf (.field (mjTm i) "java/lang/String" "value" "[B") .byte) && (mjStrF.contains (Cond.eq (.length (.field (mjTm i) "java/lang/String" "value" "[B")) (.int (Int32.ofNat (mjSLen.getD i 0)))) && (List.range (mjSLen.getD i 0)).all (mjStrE i))))) = true := by
  unfold mjStrH at h
  simp only [Bool.and_eq_true] at h ⊢
  exact ⟨h.1, h.2.1, h.2.2.1, h.2.2.2, he⟩
theorem mjStr_in : (flatC (Jvm.Cond.and given_1 narrow_1)).contains (Cond.eq (.static "java/lang/String" "COMPACT_STRINGS" "Z") (.int 1)) = true ∧ (flatC (Jvm.Cond.and given_1 narrow_1)).contains (Cond.isRef (.static "jdk/internal/util/Preconditions" "SIOOBE_FORMATTER" "Ljava/util/function/BiFunction;")) = true ∧ (List.range 2).all (fun i => (flatC (Jvm.Cond.and given_1 narrow_1)).contains (Cond.exactly (mjTm i) "java/lang/String") && ((flatC (Jvm.Cond.and given_1 narrow_1)).contains (Cond.eq (.field (mjTm i) "java/lang/String" "coder" "B") (.int 0)) && ((flatC (Jvm.Cond.and given_1 narrow_1)).contains (Cond.arrayOf (.field (mjTm i) "java/lang/String" "value" "[B") .byte) && ((flatC (Jvm.Cond.and given_1 narrow_1)).contains (Cond.eq (.length (.field (mjTm i) "java/lang/String" "value" "[B")) (.int (Int32.ofNat (mjSLen.getD i 0)))) && (List.range (mjSLen.getD i 0)).all (fun j => (flatC (Jvm.Cond.and given_1 narrow_1)).contains (Cond.eq (.elem (.field (mjTm i) "java/lang/String" "value" "[B") (.int (Int32.ofNat j))) (.int ((mjSByt.getD i []).getD j 0)))))))) = true ∧ ((flatC (Jvm.Cond.and given_1 narrow_1)).contains (Cond.not (Cond.eq (mjTm 0) (mjTm 1))) || (flatC (Jvm.Cond.and given_1 narrow_1)).contains (Cond.not (Cond.eq (mjTm 1) (mjTm 0)))) = true := by
  refine ⟨mjStr_a, mjStr_b, List.all_eq_true.mpr (fun i hi => ?_), mjStr_c⟩
  have hi := List.mem_range.mp hi
  have : i = 0 ∨ i = 1 := by omega
  rcases this with rfl | rfl
  · exact mjStr_i mjStr_h0 mjStr_e0
  · exact mjStr_i mjStr_h1 mjStr_e1
theorem mj_start {p : Program} {e : Env} {s : State} {m : MethodId} {below : List Frame} {meth : Method} {c : Code} (whole : MjWhole) (l : Launch) {b L : Nat} {xs : Nat → Int32} (hL : L ≤ 3072) (C0 : lw_At p s m meth c b L xs) : W p l e room_1 s m #[Value.ref b] below meth c s.heap [] 0 0 (lw_Z below #[Value.ref b] s) (entryFrame m ([Value.ref b] : List Value).toArray 4) := by
  obtain ⟨hx, hb, hr, hml, hown, hts, hX, hbl, hlocks, hgv⟩ := id C0
  obtain ⟨c0, iS0, hKn0⟩ := u_known (C := RX0) (T := TX0) (N := 7) (n := 7) hts (fun w hw => (List.mem_filter.mp ((mjCls 0 _ _ _ rfl).1 w hw)).1) (hts _ (List.mem_of_getElem? (i := 162) (by decide +kernel)))
  obtain ⟨c1, iS1, hKn1⟩ := u_known (C := RX1) (T := TX1) (N := 10) (n := 10) hts (fun w hw => (List.mem_filter.mp ((mjCls 1 _ _ _ rfl).1 w hw)).1) (hts _ (List.mem_of_getElem? (i := 449) (by decide +kernel)))
  obtain ⟨c2, iS2, hKn2⟩ := u_known (C := RX2) (T := TX2) (N := 4) (n := 4) hts (fun w hw => (List.mem_filter.mp ((mjCls 2 _ _ _ rfl).1 w hw)).1) (hts _ (List.mem_of_getElem? (i := 375) (by decide +kernel)))
  obtain ⟨c3, iS3, hKn3⟩ := u_known (C := RX3) (T := TX3) (N := 8) (n := 8) hts (fun w hw => (List.mem_filter.mp ((mjCls 3 _ _ _ rfl).1 w hw)).1) (hts _ (List.mem_of_getElem? (i := 503) (by decide +kernel)))
  obtain ⟨c4, iS4, hKn4⟩ := u_known (C := RX4) (T := TX4) (N := 12) (n := 12) hts (fun w hw => (List.mem_filter.mp ((mjCls 4 _ _ _ rfl).1 w hw)).1) (hts _ (List.mem_of_getElem? (i := 400) (by decide +kernel)))
  obtain ⟨c5, iS5, hKn5⟩ := u_known (C := RX5) (T := TX5) (N := 11) (n := 11) hts (fun w hw => (List.mem_filter.mp ((mjCls 5 _ _ _ rfl).1 w hw)).1) (hts _ (List.mem_of_getElem? (i := 497) (by decide +kernel)))
  obtain ⟨c6, iS6, hKn6⟩ := u_known (C := RX6) (T := TX6) (N := 15) (n := 15) hts (fun w hw => (List.mem_filter.mp ((mjCls 6 _ _ _ rfl).1 w hw)).1) (hts _ (List.mem_of_getElem? (i := 156) (by decide +kernel)))
  obtain ⟨c7, iS7, hKn7⟩ := u_known (C := RX7) (T := TX7) (N := 11) (n := 11) hts (fun w hw => (List.mem_filter.mp ((mjCls 7 _ _ _ rfl).1 w hw)).1) (hts _ (List.mem_of_getElem? (i := 625) (by decide +kernel)))
  obtain ⟨c8, iS8, hKn8⟩ := u_known (C := RX8) (T := TX8) (N := 8) (n := 8) hts (fun w hw => (List.mem_filter.mp ((mjCls 8 _ _ _ rfl).1 w hw)).1) (hts _ (List.mem_of_getElem? (i := 195) (by decide +kernel)))
  obtain ⟨c9, iS9, hKn9⟩ := u_known (C := RX9) (T := TX9) (N := 13) (n := 13) hts (fun w hw => (List.mem_filter.mp ((mjCls 9 _ _ _ rfl).1 w hw)).1) (hts _ (List.mem_of_getElem? (i := 148) (by decide +kernel)))
  obtain ⟨c10, iS10, hKn10⟩ := u_known (C := RX10) (T := TX10) (N := 77) (n := 77) hts (fun w hw => (List.mem_filter.mp ((mjCls 10 _ _ _ rfl).1 w hw)).1) (hts _ (List.mem_of_getElem? (i := 1394) (by decide +kernel)))
  obtain ⟨dC, dI, hKc⟩ : ∃ (dC : Nat → ClassId) (dI : Nat → Nat → Nat), ∀ (k : Nat) (q : vw_C), vwCl[k]? = some q → u_Kn s q.1 q.2.1 q.2.2 (dC k) (dI k) := by
    refine ⟨fun k => if k = 0 then c0 else if k = 1 then c1 else if k = 2 then c2 else if k = 3 then c3 else if k = 4 then c4 else if k = 5 then c5 else if k = 6 then c6 else if k = 7 then c7 else if k = 8 then c8 else if k = 9 then c9 else c10, fun k => if k = 0 then iS0 else if k = 1 then iS1 else if k = 2 then iS2 else if k = 3 then iS3 else if k = 4 then iS4 else if k = 5 then iS5 else if k = 6 then iS6 else if k = 7 then iS7 else if k = 8 then iS8 else if k = 9 then iS9 else iS10, ?_⟩
    intro k q hq
    match k, hq with
    | 0, hq => cases hq; exact hKn0
    | 1, hq => cases hq; exact hKn1
    | 2, hq => cases hq; exact hKn2
    | 3, hq => cases hq; exact hKn3
    | 4, hq => cases hq; exact hKn4
    | 5, hq => cases hq; exact hKn5
    | 6, hq => cases hq; exact hKn6
    | 7, hq => cases hq; exact hKn7
    | 8, hq => cases hq; exact hKn8
    | 9, hq => cases hq; exact hKn9
    | 10, hq => cases hq; exact hKn10
    | k + 11, hq => cases hq
  obtain ⟨a_int, ha_int⟩ := mj_arrs (s := s) (ty := .int) (va_tabsA (hts _ (List.mem_of_getElem? (i := 193) (by decide +kernel)))) (fun C h => by cases h)
  obtain ⟨a_byte, ha_byte⟩ := mj_arrs (s := s) (ty := .byte) (va_tabsA (hts _ (List.mem_of_getElem? (i := 192) (by decide +kernel)))) (fun C h => by cases h)
  obtain ⟨a_boolean, ha_boolean⟩ := mj_arrs (s := s) (ty := .boolean) (va_tabsA (hts _ (List.mem_of_getElem? (i := 447) (by decide +kernel)))) (fun C h => by cases h)
  obtain ⟨a_long, ha_long⟩ := mj_arrs (s := s) (ty := .long) (va_tabsA (hts _ (List.mem_of_getElem? (i := 587) (by decide +kernel)))) (fun C h => by cases h)
  have hAO : va_AO "AvalancheInn$State" s := va_AO.of (hts _ (List.mem_of_getElem? (i := 381) (by decide +kernel)))
  obtain ⟨a_ref, ha_ref⟩ := mj_arrO hAO
  obtain ⟨cT, e0, e1, e2, e3, e4⟩ : ∃ cT : Nat → ClassId, cT 100 = a_int ∧ cT 101 = a_byte ∧ cT 102 = a_boolean ∧ cT 103 = a_long ∧ cT 104 = a_ref := ⟨fun k => if k = 100 then a_int else if k = 101 then a_byte else if k = 102 then a_boolean else if k = 103 then a_long else a_ref, rfl, rfl, rfl, rfl, rfl⟩
  have hK : mjK (dC, dI) cT s := by
    refine ⟨⟨hKc, fun k q hq => ?_⟩, fun w hw => ?_, hAO⟩
    · match k, hq with
      | 0, hq => cases hq; show ArrOfT s (cT 100) _ ∧ va_RA s (cT 100) _; rw [e0]; exact ha_int
      | 1, hq => cases hq; show ArrOfT s (cT 101) _ ∧ va_RA s (cT 101) _; rw [e1]; exact ha_byte
      | 2, hq => cases hq; show ArrOfT s (cT 102) _ ∧ va_RA s (cT 102) _; rw [e2]; exact ha_boolean
      | 3, hq => cases hq; show ArrOfT s (cT 103) _ ∧ va_RA s (cT 103) _; rw [e3]; exact ha_long
      | 4, hq => cases hq; show ArrOfT s (cT 104) _ ∧ va_RA s (cT 104) _; rw [e4]; exact ha_ref
      | k + 5, hq => cases hq
    · obtain ⟨a, i, x, o, rfl⟩ := mjNest_is hw
      exact va_Nw.of rfl (hts _ (List.mem_filter.mp hw).1)
  have hs := flat_of_before _ hgv
  have hin : ∀ w, (flatC (Jvm.Cond.and given_1 narrow_1)).contains w = true → w.before #[Value.ref b] s = true := fun w hw => hs w (List.contains_iff_mem.mp hw)
  obtain ⟨i1, i2, i3, i4⟩ := mjStr_in
  have hA : ∀ a : Nat, a < s.heap.size → ¬ (mjEA s.heap.size) a := fun a ha h => absurd ha (Nat.not_lt.mpr h)
  have i3' : ∀ i, i < 2 → _ := fun i hi => List.all_eq_true.mp i3 i (List.mem_range.mpr hi)
  simp only [Bool.and_eq_true] at i3'
  obtain ⟨adK, adV, hsk, hadK⟩ := vk_Sof (args := #[Value.ref b]) (s := s) (N := 2) (tm := mjTm) (len := mjSLen) (byt := mjSByt) (A := mjEA s.heap.size) (by decide) (fun i hi => hin _ (i3' i hi).1) (fun i hi => hin _ (i3' i hi).2.1) (fun i hi => hin _ (i3' i hi).2.2.1) (fun i hi => hin _ (i3' i hi).2.2.2.1) (fun i hi j hj => hin _ (List.all_eq_true.mp (i3' i hi).2.2.2.2 j (List.mem_range.mpr hj))) (fun i j hi hj hij => by
    rw [Bool.or_eq_true] at i4
    have : (i = 0 ∧ j = 1) ∨ (i = 1 ∧ j = 0) := by omega
    rcases this with ⟨rfl, rfl⟩ | ⟨rfl, rfl⟩
    · exact i4.imp (hin _) (hin _)
    · exact (i4.imp (hin _) (hin _)).symm) hA
  have z1 : va_Z "java/lang/String" "COMPACT_STRINGS" "Z" (.int 1) (mjEA s.heap.size) s s.heap := va_Zof (hts _ (List.mem_of_getElem? (i := 518) (by decide +kernel))) (hts _ (List.mem_of_getElem? (i := 137) (by decide +kernel))) (va_eqi (hin _ i1)) hA
  have z2 : va_Zq "jdk/internal/util/Preconditions" "SIOOBE_FORMATTER" "Ljava/util/function/BiFunction;" (mjEA s.heap.size) s s.heap := va_Zqof (hts _ (List.mem_of_getElem? (i := 534) (by decide +kernel))) (hts _ (List.mem_of_getElem? (i := 139) (by decide +kernel))) (hin _ i2) hA
  obtain ⟨fm, z3⟩ : ∃ fm : Option Nat, va_Z "jdk/internal/util/Preconditions" "SIOOBE_FORMATTER" "Ljava/util/function/BiFunction;" (va_rf fm) (mjEA s.heap.size) s s.heap := by
    rcases z2 with z2 | ⟨t, z2⟩
    · exact ⟨none, z2⟩
    · exact ⟨some t, z2⟩
  have hR : ∀ i, i < 2 → vk_R "AvalancheInn$Lexer" (mjSIdx.getD i 0) (mjSTxt.getD i "") (adK i) s := by
    intro i hi
    refine vk_R.of (A := #[Value.ref b]) ?_ (hadK i hi)
    have : i = 0 ∨ i = 1 := by omega
    rcases this with rfl | rfl
    · exact hts _ (List.mem_of_getElem? (i := 508) (by decide +kernel))
    · exact hts _ (List.mem_of_getElem? (i := 755) (by decide +kernel))
  obtain ⟨sc, hsc⟩ : ∃ sc : List Int32, sc = (List.range L).map xs := ⟨_, rfl⟩
  have hlen : sc.length = L := by rw [hsc, List.length_map, List.length_range]
  have hE : mjE s.heap.size (fun k => if k = 0 then some (adK 0) else if k = 1 then some (adK 1) else if k = 2 then some (adV 0) else if k = 3 then some (adV 1) else if k = 4 then fm else if k = 9 then some b else some 0) sc s.heap s := by
    refine ⟨rfl, fun k hk => ?_, z1, z3, ⟨adK, adV, hsk, rfl, rfl, rfl, rfl, hR⟩, b, rfl, ?_, hbl⟩
    · dsimp only
      repeat' split
      all_goals first | exact ⟨_, rfl⟩ | exact absurd ‹k = 4› hk
    · rw [hlen]
      obtain ⟨scr, x1, x2, x3, x4, x5⟩ := hX
      refine ⟨scr, x1, x2, x3, x4, fun j hj => ?_⟩
      rw [x5 j hj, hsc]
      dsimp only
      rw [List.getD_eq_getElem?_getD, List.getElem?_map, List.getElem?_range hj]
      rfl
  obtain ⟨n, w1, hw, hc1, hc2⟩ := whole sc (by rw [hlen]; exact hL)
  rw [lg_entry_eq]
  have hz : mjSz [] = 0 := rfl
  refine mj_sim (l := l) (D := (dC, dI)) (cT := cT) mjOkM mjOkT n 100 0 0 _ [] [] (some (.int 1)) w1 hw mjM_0 rfl p e room_1 s m #[Value.ref b] below meth c s.heap [] 0 0 _ _ hx hb hml hown (fun w hw => hts w (List.mem_filter.mp hw).1) (fun h => by cases h) (by decide) (by decide) ?_ ?_ hK hE ⟨Nat.le_refl _, fun q _ => rfl, fun q _ => rfl, fun q hq => by cases hq⟩ ⟨rfl, fun q _ => rfl, fun i q hq => by cases hq⟩ (mjEntry_lr (as := [.retAddr 9]) (by decide)) ?_
  · rw [Nat.zero_add]; exact Nat.le_trans (Nat.sub_le _ _) hc1
  · rw [Nat.zero_add]; exact Nat.le_trans (Nat.sub_le _ _) hc2
  · intro H1 locs1 lm1 pc1 ins1 st1 hP1 hl1 hd1 hrt
    refine va_forget (fun q hq => hl1 q hq) ?_
    refine W.widen (k := 600000) (n := 7302250) (by rw [Nat.zero_add]; exact Nat.le_trans (Nat.sub_le _ _) hc1) (by rw [Nat.zero_add]; exact Nat.le_trans (Nat.sub_le _ _) hc2) ?_
    unfold mjRt at hrt
    split at hrt
    · split at hrt
      · split at hrt
        · split at hrt
          · cases hrt
            exact lw_ret hx hb hr hlocks hd1
          · cases hrt
        · cases hrt
      · cases hrt
    · split at hrt
      · split at hrt <;> cases hrt
      · cases hrt
    · split at hrt
      · split at hrt <;> cases hrt
      · cases hrt
    · split at hrt
      · split at hrt <;> cases hrt
      · cases hrt
    · cases hrt
