section MjH
variable {p : Program} {l : Launch} {e : Env} {R : Room} {s : State} {m : MethodId} {args : Array Value} {below : List Frame} {meth : Method} {c : Code} {H H0 : Heap} {locs : List Loc} {cells slots : Nat} {Q : State → Prop}
variable {cc : ByteArray} {pc : Nat} {lm : Array Slot} {B : Nat} {xa : Nat → Option Nat} {D : va_G} {cT : Nat → ClassId} {w : MjW} {rest : List Value}
theorem mjP.obj {a ci : Nat} {fs : List Value} (h : mjP D cT B xa H0 w H) (ha : w[a]? = some (ci, fs)) (hk : ci < 100) : ∃ r : vw_C, vwCl[ci]? = some r ∧ fs.length = r.2.2 ∧ t_OB (B + a) (D.1 ci) r.2.2 (D.2 ci) H (vp_V (fs.map (mjTr B xa))) := by
  have h1 := h.2.2 a _ ha
  unfold mjAt at h1
  rw [if_pos hk] at h1
  exact h1
theorem mjP.one {a ci : Nat} {fs : List Value} (h : mjP D cT B xa H0 w H) (ha : w[a]? = some (ci, fs)) (hk : ci < 100) : va_P D vwCl [(B + a, .inr (ci, fs.map (mjTr B xa)))] H := by
  obtain ⟨r, h1, -, h2⟩ := h.obj ha hk
  intro k q hq
  have hz : k < 1 := (List.getElem?_eq_some_iff.mp hq).1
  rw [show k = 0 by omega] at hq
  cases hq
  exact ⟨r, h1, h2⟩
theorem mjFit_ok {ty : FieldType} {v : Value} (h : mjFit ty v = true) : narrow ty (mjTr B xa v) = mjTr B xa v ∧ fits ty (mjTr B xa v) = true := by
  cases v with
  | retAddr k => cases h
  | ref a => cases ty <;> first | exact ⟨rfl, rfl⟩ | cases h
  | null => cases ty <;> first | exact ⟨rfl, rfl⟩ | cases h
  | int x => simp only [mjFit, Bool.and_eq_true, decide_eq_true_eq] at h; exact h
  | long x => simp only [mjFit, Bool.and_eq_true, decide_eq_true_eq] at h; exact h
  | float x => simp only [mjFit, Bool.and_eq_true, decide_eq_true_eq] at h; exact h
  | double x => simp only [mjFit, Bool.and_eq_true, decide_eq_true_eq] at h; exact h
theorem mj_get (hx : p.tables.exec = Jvm.exec) (hb : c.code = cc) {own C : String} {T : u_T} {N ci k a index : Nat} {fs : List Value} {v : Value} (hts : ∀ w ∈ mjAll, w.before args s = true) (hown : s.vm.findClass own = some m.cls) (hK : mjK D cT s) (hP : mjP D cT B xa H0 w H) (hw : w[a]? = some (ci, fs)) (hci : ci < 100) (hc : vwCl[ci]? = some (C, T, N)) (hk : k < N) (hv : fs[k]? = some v) (hl : Cond.fieldLink own index (T k).1 (T k).2.1 (T k).2.2.1 ∈ mjAll) (hd : decode cc pc = .ok (.getfield index, 3))
    (kk : W p l e R s m args below meth c H locs cells slots Q (F0 m (pc + 3) lm (mjTr B xa v :: rest))) : W p l e R s m args below meth c H locs cells slots Q (F0 m pc lm (.ref (B + a) :: rest)) :=
  va_get (D := D) (ci := ci) (C := C) (T := T) (N := N) (v := mjTr B xa v) hx hb hts (mjCls ci C T N hc).1 hown hK.1 (hP.one hw hci) 0 rfl hc k hk (hts _ hl) (fun _ h9 => h9) (by rw [List.getElem?_map, hv]; rfl) hd kk
theorem mj_setOB {a ci k : Nat} {fs : List Value} {v : Value} {N : Nat} {cell : Cell} {H1 : Heap} (hlen : k < fs.length) (hk : k < N) (q2 : cell.cls = D.1 ci) (q3 : cell.vm = .none) (q4 : ∀ k, k < N → cell.slots[D.2 ci k]? = some (vp_V (fs.map (mjTr B xa)) k)) (hap : ∀ x y, x < N → y < N → x ≠ y → (D.2 ci) x ≠ (D.2 ci) y) (e1 : H1[B + a]? = some (cell.setSlot (D.2 ci k) (mjTr B xa v))) : t_OB (B + a) (D.1 ci) N (D.2 ci) H1 (vp_V ((fs.set k v).map (mjTr B xa))) := by
  rw [List.map_set]
  exact t_OB.to (V := updV (vp_V (fs.map (mjTr B xa))) k (mjTr B xa v)) ⟨_, e1, q2, q3, t_set q4 hap hk _⟩ (fun j _ => vp_updV_set (by rw [List.length_map]; exact hlen) _ j)
set_option maxHeartbeats 1000000 in
theorem mj_put (hx : p.tables.exec = Jvm.exec) (hb : c.code = cc) {own C : String} {T : u_T} {N ci k a index : Nat} {fs : List Value} {v : Value} (hts : ∀ w ∈ mjAll, w.before args s = true) (hown : s.vm.findClass own = some m.cls) (hK : mjK D cT s) (hP : mjP D cT B xa H0 w H) (hw : w[a]? = some (ci, fs)) (hci : ci < 100) (hc : vwCl[ci]? = some (C, T, N)) (hk : k < N) (hlen : k < fs.length) (hfin : (T k).2.2.2 = false ∨ (meth.name = "<init>" ∧ (T k).1 = own)) (hfit : mjFit (mjTyp ci k) v = true) (hl : Cond.fieldLink own index (T k).1 (T k).2.1 (T k).2.2.1 ∈ mjAll) (hd : decode cc pc = .ok (.putfield index, 3))
    (kk : ∀ (H1 : Heap), mjP D cT B xa H0 (w.set a (ci, fs.set k v)) H1 → ∀ locs1 : List Loc, (∀ q ∈ locs1, q ∈ locs ∨ B ≤ q.base) → W p l e R s m args below meth c H1 locs1 cells slots Q (F0 m (pc + 3) lm rest)) : W p l e R s m args below meth c H locs cells slots Q (F0 m pc lm (mjTr B xa v :: .ref (B + a) :: rest)) := by
  obtain ⟨hin, hty, hnm, -⟩ := mjCls ci C T N hc
  have hap := va_apart (own := own) hts hin (mjTyp ci) hty hnm hK.1 hc
  obtain ⟨r, h1, h2, cell, q1, q2, q3, q4⟩ := hP.obj hw hci
  have hr : r = (C, T, N) := Option.some.inj (h1.symm.trans hc)
  subst hr
  obtain ⟨hS, hfc, kC, hkC, hkind⟩ := hK.1.1 ci _ hc
  obtain ⟨cf, kf, fi, f, hi, hsl⟩ := hS k hk
  have hlay := hts _ (hin _ (u_in_lay hk))
  unfold u_lay at hlay
  obtain ⟨hn, hf⟩ := mjFit_ok (B := B) (xa := xa) hfit
  have hst := (u_facts hfc hkC (u_lays hts hin hk) hi).1
  have fin : ∀ (H1 : Heap), H1[B + a]? = some (cell.setSlot (D.2 ci k) (mjTr B xa v)) → H1.size = H.size → (∀ q, q ≠ B + a → H1[q]? = H[q]?) → mjP D cT B xa H0 (w.set a (ci, fs.set k v)) H1 := by
    intro H1 e1 e2 e3
    refine hP.set hw ?_ e2 e3
    unfold mjAt
    rw [if_pos hci]
    exact ⟨_, hc, by rw [List.length_set]; exact h2, mj_setOB hlen hk q2 q3 q4 hap e1⟩
  have lo : ∀ q ∈ locs ++ [(⟨B + a, D.2 ci k⟩ : Loc)], q ∈ locs ∨ B ≤ q.base := by
    intro q hq
    rcases List.mem_append.mp hq with h | h
    · exact Or.inl h
    · rw [List.mem_singleton.mp h]; exact Or.inr (Nat.le_add_right B a)
  by_cases hfb : (T k).2.2.2 = true
  · rw [if_pos hfb] at hlay
    obtain ⟨hin2, hdecl⟩ : meth.name = "<init>" ∧ (T k).1 = own := by
      rcases hfin with h | h
      · rw [h] at hfb; cases hfb
      · exact h
    have hcf : m.cls = cf := by
      obtain ⟨_, _, c', _, _, _, -, -, hf', -, -, -, hown2, -⟩ := Cond.laysFinal_spec hlay
      have e1 : c' = cf := by have := hi.symm.trans hf'; simp at this; exact this.1.symm
      rw [hdecl] at hown2
      rw [← e1]; exact Option.some.inj (hown.symm.trans hown2)
    have h6 := u_fits hfc hkC hkind (Or.inr hlay) hi (hty k hk) hn hf
    refine W.putFinK hx hb hown (hts _ hl) hi hst hcf hin2 (by rw [q2]; exact h6) q1 q3 (by rw [hsl]; exact k2_hasslot (q4 k hk)) rfl rfl hd fun H' e1 e2 e3 => ?_
    rw [hsl] at e1 ⊢
    exact kk H' (fin H' e1 e2 e3) _ lo
  · rw [if_neg hfb] at hlay
    have h6 := u_store hfc hkC hkind hlay hi (hty k hk) hn hf
    refine W.putK hx hb (f := f) ⟨hown, hts _ hl, ⟨_, _, _, hi⟩, hst⟩ (by rw [q2]; exact h6) q1 q3 (by rw [hsl]; exact k2_hasslot (q4 k hk)) rfl rfl hd fun H' e1 e2 e3 => ?_
    rw [hsl] at e1 ⊢
    exact kk H' (fin H' e1 e2 e3) _ lo
theorem mjRd_ok {vs : List Value} {i : Int32} {v : Value} (h : mjRd vs i = some v) : ¬ i < 0 ∧ i.toNatClampNeg < vs.length ∧ vs[i.toNatClampNeg]? = some v := by
  unfold mjRd at h
  split at h
  · cases h
  · rename_i h0
    exact ⟨h0, (List.getElem?_eq_some_iff.mp h).1, h⟩
theorem mjWr_ok {vs vs1 : List Value} {i : Int32} {v : Value} (h : mjWr vs i v = some vs1) : ¬ i < 0 ∧ i.toNatClampNeg < vs.length ∧ vs1 = vs.set i.toNatClampNeg v := by
  unfold mjWr at h
  split at h
  · cases h
  · rename_i h0
    split at h
    · rename_i h1
      cases h
      exact ⟨h0, h1, rfl⟩
    · cases h
theorem mj_arrIn {vs : List Value} {i : Int32} {cA : ClassId} {f : Nat → Value} (h0 : ¬ i < 0) (h1 : i.toNatClampNeg < vs.length) : ¬ (i < 0 ∨ (arrV cA vs.length f).slots.size ≤ i.toNatClampNeg) := by
  rw [arrV_size]
  intro q
  rcases q with q | q
  · exact h0 q
  · omega
theorem mj_arrRd {vs : List Value} {j : Nat} {v : Value} {cA : ClassId} (h : vs[j]? = some v) : (arrV cA vs.length (fun j => mjTr B xa (vs.getD j .null))).slots[j]? = some (mjTr B xa v) := by
  rw [arrV_read _ _ (List.getElem?_eq_some_iff.mp h).1]
  simp [List.getD_eq_getElem?_getD, h]
theorem mj_locs {a j : Nat} : ∀ q ∈ locs ++ [(⟨B + a, j⟩ : Loc)], q ∈ locs ∨ B ≤ q.base := by
  intro q hq
  rcases List.mem_append.mp hq with h | h
  · exact Or.inl h
  · rw [List.mem_singleton.mp h]; exact Or.inr (Nat.le_add_right B a)
set_option maxHeartbeats 4000000 in
theorem mj_simH (hx : p.tables.exec = Jvm.exec) (hb : c.code = cc) {own : String} {isInit : Bool} {ins : Instr} {len len1 : Nat} {inf : List Nat} {st st1 : List Value} {w1 : MjW} (h : mjH ins inf st w = some (st1, w1, len1)) (ho : mjOkH own isInit ins len inf = true) (hin : isInit = true → meth.name = "<init>") (hle : len = len1) (hd : decode cc pc = .ok (ins, len))
    (hts : ∀ w ∈ mjAll, w.before args s = true) (hown : s.vm.findClass own = some m.cls) (hK : mjK D cT s) (hP : mjP D cT B xa H0 w H)
    (hcells : cells + (w1.length - w.length) ≤ R.cells) (hslots : slots + ((w1.map (fun q : Nat × List Value => q.2.length)).sum - (w.map (fun q : Nat × List Value => q.2.length)).sum) ≤ R.slots)
    (kk : ∀ (H1 : Heap), mjP D cT B xa H0 w1 H1 → ∀ locs1 : List Loc, (∀ q ∈ locs1, q ∈ locs ∨ B ≤ q.base) → W p l e R s m args below meth c H1 locs1 (cells + (w1.length - w.length)) (slots + ((w1.map (fun q : Nat × List Value => q.2.length)).sum - (w.map (fun q : Nat × List Value => q.2.length)).sum)) Q (F0 m (pc + len1) lm (st1.map (mjTr B xa)))) : W p l e R s m args below meth c H locs cells slots Q (F0 m pc lm (st.map (mjTr B xa))) := by
  subst hle
  have len0 : ∀ {a : Nat} {q : Nat × List Value} {k : Nat} {vs : List Value}, w[a]? = some (k, vs) → q.2.length = vs.length → ((w.set a q).length - w.length = 0 ∧ ((w.set a q).map (fun q : Nat × List Value => q.2.length)).sum - (w.map (fun q : Nat × List Value => q.2.length)).sum = 0) := by
    intro a q k vs ha hq
    refine ⟨by rw [List.length_set]; omega, ?_⟩
    have e : (w.set a q).map (fun q : Nat × List Value => q.2.length) = w.map (fun q : Nat × List Value => q.2.length) := by
      apply List.ext_getElem?
      intro i
      rw [List.getElem?_map, List.getElem?_map, List.getElem?_set]
      by_cases h9 : a = i
      · subst h9
        rw [if_pos rfl, if_pos (List.getElem?_eq_some_iff.mp ha).1, ha]
        exact congrArg some hq
      · rw [if_neg h9]
    rw [e]; omega
  have all0 : w.length - w.length = 0 ∧ (w.map (fun q : Nat × List Value => q.2.length)).sum - (w.map (fun q : Nat × List Value => q.2.length)).sum = 0 := ⟨by omega, by omega⟩
  unfold mjH at h
  split at h
  · -- getfield
    rename_i idx
    split at h
    · rename_i a r
      split at h
      · rename_i ci k tl
        split at h
        · rename_i cj fs hw
          split at h
          · rename_i e1; subst e1
            split at h
            · rename_i v hv
              cases h
              unfold mjOkH at ho; simp only at ho
              split at ho
              · rename_i ci2 k2 pl tl2 heq
                cases heq
                split at ho
                · rename_i C T N hc
                  simp only [Bool.and_eq_true, decide_eq_true_eq] at ho
                  refine mj_get hx hb hts hown hK hP hw ho.1.1 hc ho.1.2 hv (mjHas_in ho.2) hd ?_
                  have k9 := kk H hP locs (fun q hq => Or.inl hq)
                  rw [all0.1, all0.2] at k9
                  exact k9
                · cases ho
              · cases ho
            · cases h
          · cases h
        · cases h
      · cases h
    · cases h
  · -- putfield
    rename_i idx
    split at h
    · rename_i v a r
      split at h
      · rename_i ci k tl
        split at h
        · rename_i cj fs hw
          split at h
          · rename_i e1
            obtain ⟨e1, e2, e3⟩ := e1
            subst e1
            cases h
            unfold mjOkH at ho; simp only at ho
            split at ho
            · rename_i ci2 k2 pl tl2 heq
              cases heq
              split at ho
              · rename_i C T N hc
                simp only [Bool.and_eq_true, decide_eq_true_eq, Bool.or_eq_true, Bool.not_eq_true'] at ho
                refine mj_put hx hb hts hown hK hP hw ho.1.1.1 hc ho.1.1.2 e2 (ho.2.imp id (fun q => ⟨hin q.1, q.2⟩)) e3 (mjHas_in ho.1.2) hd (fun H1 hP1 locs1 hl1 => ?_)
                have k9 := kk H1 hP1 locs1 hl1
                obtain ⟨z1, z2⟩ := len0 (q := (cj, fs.set k v)) hw (by rw [List.length_set])
                rw [z1, z2] at k9
                exact k9
              · cases ho
            · cases ho
          · cases h
        · cases h
      · cases h
    · cases h
  · -- iaload
    split at h
    · rename_i i a r
      split at h
      · rename_i k vs hw
        split at h
        · rename_i e1; subst e1
          split at h
          · rename_i v hv
            cases h
            obtain ⟨g0, g1, g2⟩ := mjRd_ok hv
            have k9 := kk H hP locs (fun q hq => Or.inl hq)
            rw [all0.1, all0.2] at k9
            exact W.iald hx hb (hP.arr hw (by decide)) ((hK.arr (Or.inl rfl)).1 _ _) (fun h => by cases h) (mj_arrIn g0 g1) (mj_arrRd g2) rfl rfl hd k9
          · cases h
        · cases h
      · cases h
    · cases h
  · -- baload
    split at h
    · rename_i i a r
      split at h
      · rename_i k vs hw
        split at h
        · rename_i e1
          split at h
          · rename_i v hv
            cases h
            obtain ⟨g0, g1, g2⟩ := mjRd_ok hv
            have k9 := kk H hP locs (fun q hq => Or.inl hq)
            rw [all0.1, all0.2] at k9
            rcases e1 with e1 | e1
            · subst e1
              exact W.bald hx hb (hP.arr hw (by decide)) ((hK.arr (Or.inr (Or.inl rfl))).1 _ _) (fun h => by cases h) (mj_arrIn g0 g1) (mj_arrRd g2) rfl rfl hd k9
            · subst e1
              exact W.zald hx hb (hP.arr hw (by decide)) ((hK.arr (Or.inr (Or.inr (Or.inl rfl)))).1 _ _) (fun h => by cases h) (mj_arrIn g0 g1) (mj_arrRd g2) rfl rfl hd k9
          · cases h
        · cases h
      · cases h
    · cases h
  · -- laload
    split at h
    · rename_i i a r
      split at h
      · rename_i k vs hw
        split at h
        · rename_i e1; subst e1
          split at h
          · rename_i v hv
            cases h
            obtain ⟨g0, g1, g2⟩ := mjRd_ok hv
            have k9 := kk H hP locs (fun q hq => Or.inl hq)
            rw [all0.1, all0.2] at k9
            exact W.lald hx hb (hP.arr hw (by decide)) ((hK.arr (Or.inr (Or.inr (Or.inr (Or.inl rfl))))).1 _ _) (fun h => by cases h) (mj_arrIn g0 g1) (mj_arrRd g2) rfl rfl hd k9
          · cases h
        · cases h
      · cases h
    · cases h
  · -- aaload
    split at h
    · rename_i i a r
      split at h
      · rename_i k vs hw
        split at h
        · rename_i e1; subst e1
          split at h
          · rename_i v hv
            cases h
            obtain ⟨g0, g1, g2⟩ := mjRd_ok hv
            have k9 := kk H hP locs (fun q hq => Or.inl hq)
            rw [all0.1, all0.2] at k9
            exact W.aald hx hb (hP.arr hw (by decide)) ((hK.arr (Or.inr (Or.inr (Or.inr (Or.inr rfl))))).1 _ _) rfl (fun h => by cases h) (mj_arrIn g0 g1) (mj_arrRd g2) rfl rfl hd k9
          · cases h
        · cases h
      · cases h
    · cases h
  · -- iastore
    split at h
    · rename_i x i a r
      split at h
      · rename_i k vs hw
        split at h
        · rename_i e1; subst e1
          split at h
          · rename_i vs1 hv
            cases h
            obtain ⟨g0, g1, rfl⟩ := mjWr_ok hv
            refine W.iast hx hb (hP.arr hw (by decide)) ((hK.arr (Or.inl rfl)).1 _ _) (fun h => by cases h) (mj_arrIn g0 g1) rfl rfl hd (fun H1 z1 z2 z3 => ?_)
            have k9 := kk H1 (hP.set hw (mjAt.arr (by decide) g1 rfl z1) z2 z3) _ (mj_locs (locs := locs) (B := B) (a := a) (j := i.toNatClampNeg))
            obtain ⟨y1, y2⟩ := len0 (q := (100, vs.set i.toNatClampNeg (.int x))) hw (by rw [List.length_set])
            rw [y1, y2] at k9
            exact k9
          · cases h
        · cases h
      · cases h
    · cases h
  · -- bastore
    split at h
    · rename_i x i a r
      split at h
      · rename_i k vs hw
        split at h
        · rename_i e1; subst e1
          split at h
          · rename_i vs1 hv
            cases h
            obtain ⟨g0, g1, rfl⟩ := mjWr_ok hv
            refine W.bast hx hb (hP.arr hw (by decide)) ((hK.arr (Or.inr (Or.inl rfl))).1 _ _) (fun h => by cases h) (mj_arrIn g0 g1) rfl rfl hd (fun H1 z1 z2 z3 => ?_)
            have k9 := kk H1 (hP.set hw (mjAt.arr (by decide) g1 rfl z1) z2 z3) _ (mj_locs (locs := locs) (B := B) (a := a) (j := i.toNatClampNeg))
            obtain ⟨y1, y2⟩ := len0 (q := (101, vs.set i.toNatClampNeg (narrow .byte (.int x)))) hw (by rw [List.length_set])
            rw [y1, y2] at k9
            exact k9
          · cases h
        · split at h
          · rename_i e1; subst e1
            split at h
            · rename_i vs1 hv
              cases h
              obtain ⟨g0, g1, rfl⟩ := mjWr_ok hv
              refine W.zast hx hb (hP.arr hw (by decide)) ((hK.arr (Or.inr (Or.inr (Or.inl rfl)))).1 _ _) (fun h => by cases h) (mj_arrIn g0 g1) rfl rfl hd (fun H1 z1 z2 z3 => ?_)
              have k9 := kk H1 (hP.set hw (mjAt.arr (by decide) g1 rfl z1) z2 z3) _ (mj_locs (locs := locs) (B := B) (a := a) (j := i.toNatClampNeg))
              obtain ⟨y1, y2⟩ := len0 (q := (102, vs.set i.toNatClampNeg (narrow .boolean (.int x)))) hw (by rw [List.length_set])
              rw [y1, y2] at k9
              exact k9
            · cases h
          · cases h
      · cases h
    · cases h
  · -- lastore
    split at h
    · rename_i x i a r
      split at h
      · rename_i k vs hw
        split at h
        · rename_i e1; subst e1
          split at h
          · rename_i vs1 hv
            cases h
            obtain ⟨g0, g1, rfl⟩ := mjWr_ok hv
            refine W.last hx hb (hP.arr hw (by decide)) ((hK.arr (Or.inr (Or.inr (Or.inr (Or.inl rfl))))).1 _ _) (fun h => by cases h) (mj_arrIn g0 g1) rfl rfl hd (fun H1 z1 z2 z3 => ?_)
            have k9 := kk H1 (hP.set hw (mjAt.arr (by decide) g1 rfl z1) z2 z3) _ (mj_locs (locs := locs) (B := B) (a := a) (j := i.toNatClampNeg))
            obtain ⟨y1, y2⟩ := len0 (q := (103, vs.set i.toNatClampNeg (.long x))) hw (by rw [List.length_set])
            rw [y1, y2] at k9
            exact k9
          · cases h
        · cases h
      · cases h
    · cases h
  · -- aastore
    split at h
    · rename_i x i a r
      split at h
      · rename_i k vs k2 fs2 hw hw2
        split at h
        · rename_i e1
          obtain ⟨e1, e2⟩ := e1
          subst e1; subst e2
          split at h
          · rename_i vs1 hv
            cases h
            obtain ⟨g0, g1, rfl⟩ := mjWr_ok hv
            obtain ⟨rr, hr1, hr2, cellV, q1, q2, q3, q4⟩ := hP.obj hw2 (by decide)
            have hcls := (hK.1.1 8 _ rfl).2
            obtain ⟨kA, comp, k1, k2, k3, -⟩ := (hK.arr (k := 104) (Or.inr (Or.inr (Or.inr (Or.inr rfl))))).2
            have hcomp : comp = D.1 8 := Option.some.inj (k3.symm.trans hcls.1)
            subst hcomp
            obtain ⟨kC, hkC, -⟩ := hcls.2
            refine W.aast hx hb (hP.arr hw (by decide)) (fun q h => by cases h) (fun h => by cases h) k1 k2 rfl hkC ⟨g0, by rw [arrV_size]; exact g1⟩ q1 (fun q h => by rw [q3] at h; cases h) (by rw [q2]; exact hkC) (by rw [q2]; exact va_assign hcls) rfl rfl hd (fun H1 z1 z2 z3 => ?_)
            have k9 := kk H1 (hP.set hw (mjAt.arr (by decide) g1 (v := .ref x) rfl z1) z2 z3) _ (mj_locs (locs := locs) (B := B) (a := a) (j := i.toNatClampNeg))
            obtain ⟨y1, y2⟩ := len0 (q := (104, vs.set i.toNatClampNeg (.ref x))) hw (by rw [List.length_set])
            rw [y1, y2] at k9
            exact k9
          · cases h
        · cases h
      · cases h
    · cases h
  · -- arraylength
    split at h
    · rename_i a r
      split at h
      · rename_i k vs hw
        split at h
        · rename_i e1
          cases h
          have k9 := kk H hP locs (fun q hq => Or.inl hq)
          rw [all0.1, all0.2] at k9
          exact W.alen hx hb (ty := mjAT k) (hP.arr hw (by omega)) ((hK.arr (by omega)).1 _ _) (by rw [arrV_size]) rfl rfl hd k9
        · cases h
      · cases h
    · cases h
  · -- new
    rename_i idx
    split at h
    · rename_i ci tl
      cases h
      unfold mjOkH at ho; simp only at ho
      split at ho
      · rename_i ci2 p1 p2 p3 tl2 heq
        cases heq
        split at ho
        · rename_i C T N hc
          simp only [Bool.and_eq_true, decide_eq_true_eq] at ho
          obtain ⟨⟨⟨o1, o2⟩, o3⟩, o4⟩ := ho
          obtain ⟨gin, gty, gnm, gN⟩ := mjCls ci C T N hc
          have hKn := hK.1.1 ci _ hc
          have hdl : (mjDef ci).length = N := by unfold mjDef; rw [List.length_map, List.length_range, gN]
          have c1 : (w ++ [(ci, mjDef ci)]).length - w.length = 1 := by rw [List.length_append]; show w.length + 1 - w.length = 1; omega
          have c2 : ((w ++ [(ci, mjDef ci)]).map (fun q : Nat × List Value => q.2.length)).sum - (w.map (fun q : Nat × List Value => q.2.length)).sum = N := by
            rw [List.map_append, List.sum_append]
            show _ + ((mjDef ci).length + 0) - _ = N
            rw [hdl]; omega
          rw [c1] at hcells kk
          rw [c2] at hslots kk
          refine W.newcK hx hb hown (hts _ (mjHas_in o2)) (hts _ (mjHas_in o3)) (hts _ (mjHas_in o4)) rfl hd hcells hslots hKn.2.1 rfl fun H1 kC hkC e1 z1 oo => ?_
          have hOB := (u_born (mjTyp ci) hts gin hKn hkC e1 gty).to (V' := vp_V ((mjDef ci).map (mjTr B xa))) (fun j hj => by
            have : (mjDef ci)[j]? = some (defaultValue (mjTyp ci j)) := by
              unfold mjDef
              rw [List.getElem?_map, List.getElem?_range (by rw [gN]; exact hj)]; rfl
            simp only [vp_V, List.getD_eq_getElem?_getD, List.getElem?_map, this, Option.map_some, Option.getD_some]
            cases mjTyp ci j <;> rfl)
          have k9 := kk H1 (hP.push (q1 := (ci, mjDef ci)) (by
            unfold mjAt
            rw [if_pos o1, ← hP.1]
            exact ⟨_, hc, hdl, hOB⟩) z1 oo) locs (fun q hq => Or.inl hq)
          rw [hP.1]
          exact k9
        · cases ho
      · cases ho
    · cases h
  · -- newarray
    rename_i t
    split at h
    · rename_i n r
      split at h
      · rename_i k tl
        split at h
        · rename_i hn
          cases h
          unfold mjOkH at ho; simp only at ho
          split at ho
          · rename_i k2 p1 tl2 heq
            cases heq
            simp only [Bool.and_eq_true, decide_eq_true_eq] at ho
            obtain ⟨⟨o1, o2⟩, o3⟩ := ho
            have hk5 : k = 100 ∨ k = 101 ∨ k = 102 ∨ k = 103 ∨ k = 104 := by omega
            have c1 : (w ++ [(k, List.replicate n.toNatClampNeg (defaultValue (mjAT k)))]).length - w.length = 1 := by rw [List.length_append]; show w.length + 1 - w.length = 1; omega
            have c2 : ((w ++ [(k, List.replicate n.toNatClampNeg (defaultValue (mjAT k)))]).map (fun q : Nat × List Value => q.2.length)).sum - (w.map (fun q : Nat × List Value => q.2.length)).sum = n.toNatClampNeg := by
              rw [List.map_append, List.sum_append]
              show _ + ((List.replicate n.toNatClampNeg (defaultValue (mjAT k))).length + 0) - _ = _
              rw [List.length_replicate]; omega
            rw [c1] at hcells kk
            rw [c2] at hslots kk
            have hbytes : n.toNatClampNeg * componentBytes (newarray.typeOf t) ≤ 536870912 := by
              rw [o2]
              have : componentBytes (mjAT k) ≤ 8 := by rcases o1 with rfl | rfl | rfl | rfl <;> decide
              exact Nat.le_trans (Nat.mul_le_mul hn.2 this) (by decide)
            refine W.newa hx hb (by rw [o2]; exact hts _ (mjHas_in o3)) rfl hd rfl hn.1 hbytes hcells hslots fun cA kA comp f1 f2 f3 => ?_
            have hcA : cA = cT k := by
              have hra := (hK.arr hk5).2
              rw [o2] at f1
              rcases o1 with rfl | rfl | rfl | rfl <;> exact Option.some.inj (f1.symm.trans hra)
            have k9 := kk (H.push { cls := cA, slots := Array.replicate n.toNatClampNeg (defaultValue (newarray.typeOf t)), vm := .none }) (hP.push (q1 := (k, List.replicate n.toNatClampNeg (defaultValue (mjAT k)))) (by
              unfold mjAt
              rw [if_neg (by omega), ← hP.1, arrV_new, hcA, o2]
              show _ = some (arrV (cT k) (List.replicate n.toNatClampNeg (defaultValue (mjAT k))).length _)
              rw [List.length_replicate]
              have hf : (fun j => mjTr B xa ((List.replicate n.toNatClampNeg (defaultValue (mjAT k))).getD j .null)) = (fun j => if j < n.toNatClampNeg then defaultValue (mjAT k) else .null) := by
                funext j
                rw [List.getD_eq_getElem?_getD, List.getElem?_replicate]
                split
                · rcases o1 with rfl | rfl | rfl | rfl <;> rfl
                · rfl
              rw [hf]
              simp only [Array.getElem?_push_size]
              congr 1
              unfold arrV
              congr 1
              apply Array.ext
              · simp
              · intro i h1 h2
                simp at h1
                simp [h1]) (by simp) (fun x hx => by rw [Array.getElem?_push, if_neg (Nat.ne_of_lt hx)])) locs (fun q hq => Or.inl hq)
            rw [hP.1]
            exact k9
          · cases ho
        · cases h
      · cases h
    · cases h
  · -- anewarray
    rename_i idx
    split at h
    · rename_i n r
      split at h
      · rename_i hn
        cases h
        unfold mjOkH at ho; simp only at ho
        split at ho
        · rename_i p1 tl2
          have c1 : (w ++ [(104, List.replicate n.toNatClampNeg Value.null)]).length - w.length = 1 := by rw [List.length_append]; show w.length + 1 - w.length = 1; omega
          have c2 : ((w ++ [(104, List.replicate n.toNatClampNeg Value.null)]).map (fun q : Nat × List Value => q.2.length)).sum - (w.map (fun q : Nat × List Value => q.2.length)).sum = n.toNatClampNeg := by
            rw [List.map_append, List.sum_append]
            show _ + ((List.replicate n.toNatClampNeg Value.null).length + 0) - _ = _
            rw [List.length_replicate]; omega
          rw [c1] at hcells kk
          rw [c2] at hslots kk
          refine W.anew hx hb hown (hts _ (mjHas_in ho)) hK.2.2.use rfl hd rfl hn.1 (by omega) hcells hslots fun cA kA comp f1 f2 f3 f4 => ?_
          have hcA : cA = cT 104 := by
            obtain ⟨kA2, comp2, -, -, -, hra⟩ := (hK.arr (k := 104) (Or.inr (Or.inr (Or.inr (Or.inr rfl))))).2
            exact Option.some.inj (f1.symm.trans hra)
          have k9 := kk (H.push { cls := cA, slots := Array.replicate n.toNatClampNeg .null, vm := .none }) (hP.push (q1 := (104, List.replicate n.toNatClampNeg .null)) (by
            unfold mjAt
            rw [if_neg (show ¬ 104 < 100 by decide), ← hP.1, arrV_new, hcA]
            show _ = some (arrV (cT 104) (List.replicate n.toNatClampNeg Value.null).length _)
            rw [List.length_replicate]
            have hf : (fun j => mjTr B xa ((List.replicate n.toNatClampNeg Value.null).getD j .null)) = (fun _ => .null) := by
              funext j
              rw [List.getD_eq_getElem?_getD, List.getElem?_replicate]
              split <;> rfl
            rw [hf]
            simp only [Array.getElem?_push_size]) (by simp) (fun x hx => by rw [Array.getElem?_push, if_neg (Nat.ne_of_lt hx)])) locs (fun q hq => Or.inl hq)
          rw [hP.1]
          exact k9
        · cases ho
      · cases h
    · cases h
  · cases h
end MjH
