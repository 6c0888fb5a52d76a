/-! ===== the machine does what the small machine does ===== -/
def mjIsInit (M : MjM) : Bool := decide (M.1.name = "<init>")
/-- a row of the table is the code's own, and the tables have its words -/
def mjOk (mt : Nat → Option MjM) (M : MjM) (q : MjI) (pc : Nat) : Bool := match q.2.2.1 with
  | 0 => Nat.beq q.2.1 1
  | 1 => Nat.beq q.2.1 (mjLen q.1)
  | 2 => Nat.beq q.2.1 (mjLen q.1)
  | 3 => mjOkB q.1 q.2.1 q.2.2.2 pc
  | 4 => Nat.beq q.2.1 (mjLen q.1) && mjOkH M.1.cls (mjIsInit M) q.1 q.2.1 q.2.2.2
  | 5 => Nat.beq q.2.1 (mjLen q.1) && mjOkPu M.1.cls q.1 q.2.2.2
  | 6 => Nat.beq q.2.1 3 && mjOkC mt M.1.cls q.1 q.2.2.2
  | 7 => Nat.beq q.2.1 3 && mjOkPr M.1.cls q.1 q.2.2.2
  | 8 => Nat.beq q.2.1 1
  | 9 => Nat.beq q.2.1 (mjLen q.1) && mjOkX M.1.cls q.1 q.2.2.2
  | _ => true
theorem mjEnc_sl (B : Nat) (xa : Nat → Option Nat) : ∀ (as : List Value), lg_sl (as.map (mjTr B xa)) = (mjEnc as).map (fun o => match o with | some v => Slot.val (mjTr B xa v) | none => Slot.second)
  | [] => rfl
  | v :: as => by
    have ih := mjEnc_sl B xa as
    unfold lg_sl mjEnc at ih ⊢
    rw [List.map_cons, List.flatMap_cons, List.flatMap_cons, ih, List.map_append, mjTr_cat]
    congr 1
    split <;> rfl
theorem mjEntry_lr {B : Nat} {xa : Nat → Option Nat} {mL : Nat} {as : List Value} (h : (mjEnc as).length ≤ mL) : mjLr B xa mL (mjEntry mL as) ((lg_sl (as.map (mjTr B xa)) ++ List.replicate (mL - (lg_sl (as.map (mjTr B xa))).length) Slot.unset).toArray) := by
  have e := mjEnc_sl B xa as
  have hl : (lg_sl (as.map (mjTr B xa))).length = (mjEnc as).length := by rw [e, List.length_map]
  have hh := lv_entry (as.map (mjTr B xa)) (n := mL) (by rw [hl]; exact h)
  refine ⟨hh.1, ?_, hh.2.1, fun i v hi => ?_⟩
  · unfold mjEntry
    rw [List.length_append, List.length_replicate]
    omega
  · unfold mjEntry at hi
    rw [List.getElem?_toArray]
    by_cases hlt : i < (mjEnc as).length
    · rw [List.getElem?_append_left hlt] at hi
      rw [List.getElem?_append_left (by rw [hl]; exact hlt), e, List.getElem?_map, hi]
      rfl
    · rw [List.getElem?_append_right (by omega), List.getElem?_replicate] at hi
      split at hi <;> cases hi
theorem mj_stack {B : Nat} {xa : Nat → Option Nat} {n : Nat} {st : List Value} : st.map (mjTr B xa) = ((st.take n).reverse.map (mjTr B xa)).reverse ++ (st.drop n).map (mjTr B xa) := by
  rw [List.map_reverse, List.reverse_reverse, ← List.map_append, List.take_append_drop]
section MjSim
variable {tb : Nat → Nat → Option MjI} {mt : Nat → Option MjM} {sc : List Int32} {l : Launch} {D : va_G} {cT : Nat → ClassId} {B : Nat} {xa : Nat → Option Nat} {H0 : Heap}
/-- what a run's end is, by its return -/
abbrev MjKret (p : Program) (l : Launch) (e : Env) (R : Room) (s : State) (m : MethodId) (args : Array Value) (below : List Frame) (meth : Method) (c : Code) (D : va_G) (cT : Nat → ClassId) (B : Nat) (xa : Nat → Option Nat) (H0 : Heap) (M : MjM) (r : Option Value) (w1 : MjW) (cells slots : Nat) (Q : State → Prop) : Prop :=
  ∀ (H1 : Heap) (locs1 : List Loc) (lm1 : Array Slot) (pc1 : Nat) (ins1 : Instr) (st1 : List Value), mjP D cT B xa H0 w1 H1 → (∀ q ∈ locs1, B ≤ q.base) → decode M.2.1 pc1 = .ok (ins1, 1) → mjRt ins1 M.2.2.2.1 st1 = some r → W p l e R s m args below meth c H1 locs1 cells slots Q (F0 m pc1 lm1 (st1.map (mjTr B xa)))
abbrev MjSimAt (tb : Nat → Nat → Option MjI) (mt : Nat → Option MjM) (sc : List Int32) (l : Launch) (D : va_G) (cT : Nat → ClassId) (B : Nat) (xa : Nat → Option Nat) (H0 : Heap) (n : Nat) : Prop :=
  ∀ (d y pc : Nat) (ls : MjL) (st : List Value) (w : MjW) (r : Option Value) (w1 : MjW), mjEx tb mt sc n d y pc ls st w = some (r, w1) → ∀ M : MjM, mt y = some M →
  ∀ (p : Program) (e : Env) (R : Room) (s : State) (m : MethodId) (args : Array Value) (below : List Frame) (meth : Method) (c : Code) (H : Heap) (locs : List Loc) (cells slots : Nat) (Q : State → Prop) (lm : Array Slot),
    p.tables.exec = Jvm.exec → c.code = M.2.1 → c.maxLocals = M.2.2.1 → s.vm.findClass M.1.cls = some m.cls → (∀ w ∈ mjAll, w.before args s = true) → (mjIsInit M = true → meth.name = "<init>") →
    d ≤ R.frames → 64 * d ≤ R.locals → cells + (w1.length - w.length) ≤ R.cells → slots + (mjSz w1 - mjSz w) ≤ R.slots →
    mjK D cT s → mjE B xa sc H0 s → mjS B H0 s H locs → mjP D cT B xa H0 w H → mjLr B xa M.2.2.1 ls lm →
    MjKret p l e R s m args below meth c D cT B xa H0 M r w1 (cells + (w1.length - w.length)) (slots + (mjSz w1 - mjSz w)) Q →
    W p l e R s m args below meth c H locs cells slots Q (F0 m pc lm (st.map (mjTr B xa)))
theorem mj_met {n : Nat} (ih : MjSimAt tb mt sc l D cT B xa H0 n) {d y : Nat} {M : MjM} (hM : mt y = some M) (okM : Cond.code M.1 M.2.1 M.2.2.1 M.2.2.2.1 ∈ mjAll ∧ plainName M.1.cls = true) {as : List Value} (hlen : (mjEnc as).length ≤ M.2.2.1) {w w1 : MjW} {r : Option Value} (h : mjEx tb mt sc n d y 0 (mjEntry M.2.2.1 as) [] w = some (r, w1)) :
    Met l M.1 (mjWs M) (mjRm d (w1.length - w.length) (mjSz w1 - mjSz w)) (mjPc D cT B xa sc H0 w as) (mjQc D cT B xa H0 r w1) (w1.length - w.length) (mjSz w1 - mjSz w) (fun q => B ≤ q) := by
  refine Met.ofW (cc := M.2.1) (maxL := M.2.2.1) (ret := M.2.2.2.1) okM.2 rfl ?_
  intro p e s m args below meth c s₁ Bd hml hv
  obtain ⟨rfl, hP, hK, hE⟩ := hv
  have hts := atoms_spec (ws := mjWs M) Bd.pre
  rw [lg_entry_eq]
  have hlocks := Bd.notSynchronized
  have hr := Bd.returns
  refine ih d y 0 _ [] w r w1 h M hM p e _ s m _ below meth c s.heap [] 0 0 _ _ Bd.exec Bd.bytes hml (findClass_of_methodNamed Bd.named) (fun q hq => hts q (List.mem_cons_of_mem _ hq)) (fun hi => ?_) (Nat.le_refl _) (Nat.le_refl _) (by rw [Nat.zero_add]; exact Nat.le_refl _) (by rw [Nat.zero_add]; exact Nat.le_refl _) hK hE ⟨Nat.le_refl _, hP.2.1, hP.2.1, fun q hq => by cases hq⟩ hP (mjEntry_lr hlen) ?_
  · have := (name_of_methodNamed Bd.named Bd.method).1
    rw [this]
    simpa [mjIsInit] using hi
  · intro H1 locs1 lm1 pc1 ins1 st1 hP1 hl1 hd1 hrt
    rw [Nat.zero_add, Nat.zero_add]
    unfold mjRt at hrt
    split at hrt
    · split at hrt
      · split at hrt
        · rename_i ty hty
          split at hrt
          · rename_i hn
            cases hrt
            exact W.zret Bd.exec Bd.bytes (hr.trans hty) hn (fun t ht hW => ⟨rfl, by rw [ht]; exact hP1⟩) hl1 hd1
          · cases hrt
        · cases hrt
      · cases hrt
    · split at hrt
      · split at hrt
        · rename_i hty
          cases hrt
          exact W.lret Bd.exec Bd.bytes (hr.trans hty) (fun t ht hW => ⟨rfl, by rw [ht]; exact hP1⟩) hl1 hd1
        · cases hrt
      · cases hrt
    · split at hrt
      · split at hrt
        · rename_i ty hty
          cases hrt
          exact W.aret Bd.exec Bd.bytes (hr.trans hty) (Or.inl ⟨_, rfl⟩) (Or.inr ⟨_, rfl⟩) (fun t ht hW => ⟨rfl, by rw [ht]; exact hP1⟩) hl1 hd1
        · cases hrt
      · cases hrt
    · split at hrt
      · split at hrt
        · rename_i hty
          cases hrt
          exact W.vret Bd.exec Bd.bytes (hr.trans hty) (fun t ht hW => ⟨rfl, by rw [ht]; exact hP1⟩) hl1 hd1
        · cases hrt
      · cases hrt
    · cases hrt
set_option maxHeartbeats 8000000 in
theorem mj_sim (okM : ∀ (y : Nat) (M : MjM), 0 < y → mt y = some M → Cond.code M.1 M.2.1 M.2.2.1 M.2.2.2.1 ∈ mjAll ∧ plainName M.1.cls = true ∧ M.2.2.1 ≤ 45)
    (okT : ∀ (y : Nat) (M : MjM) (pc : Nat) (q : MjI), mt y = some M → tb y pc = some q → decode M.2.1 pc = .ok (q.1, q.2.1) ∧ mjOk mt M q pc = true) : ∀ n, MjSimAt tb mt sc l D cT B xa H0 n := by
  intro n
  induction n with
  | zero => intro d y pc ls st w r w1 h; cases h
  | succ n ih =>
    intro d y pc ls st w r w1 h M hM p e R s m args below meth c H locs cells slots Q lm hx hb hml hown hts hin hfr hlo hce hsl hK hE hS hP hl kret
    rw [mjEx_succ] at h
    unfold mjExS at h
    rw [hM] at h
    simp only at h
    split at h
    · cases h
    · rename_i q hq
      obtain ⟨hd, ho⟩ := okT y M pc q hM hq
      have grow : ∀ (w2 : MjW) (H2 : Heap) (locs2 : List Loc), mjP D cT B xa H0 w2 H2 → w.length ≤ w2.length → (∀ q ∈ locs2, q ∈ locs ∨ B ≤ q.base) → mjS B H0 s H2 locs2 := by
        intro w2 H2 locs2 hP2 hle hl2
        refine ⟨?_, hS.2.1, hP2.2.1, fun z hz => (hl2 z hz).elim (fun h => hS.2.2.2 z h) id⟩
        have := hS.1
        rw [hP.1] at this
        rw [hP2.1]
        omega
      split at h
      · cases h
      · rename_i f hf
        have mono := mjEx_mono _ _ _ _ _ _ _ _ _ h
        unfold mjOne at hf
        unfold mjOk at ho
        split at hf
        · -- group 0
          rename_i hg
          rw [hg] at ho
          simp only [Nat.beq_eq] at ho
          split at hf
          · rename_i st1 hv
            cases hf
            rw [ho] at hd
            exact mj_simA hx hb hv hd (ih _ _ _ _ _ _ _ _ h M hM p e R s m args below meth c H locs cells slots Q lm hx hb hml hown hts hin hfr hlo hce hsl hK hE hS hP hl kret)
          · cases hf
        · -- group 1
          rename_i hg
          rw [hg] at ho
          simp only [Nat.beq_eq] at ho
          split at hf
          · rename_i v hv
            cases hf
            have hn := mjLd_len hv
            rw [ho, ← hn] at hd
            exact mj_simLd hE.2.1 hx hb hv hl hd (ih _ _ _ _ _ _ _ _ h M hM p e R s m args below meth c H locs cells slots Q lm hx hb hml hown hts hin hfr hlo hce hsl hK hE hS hP hl kret)
          · cases hf
        · -- group 2
          rename_i hg
          rw [hg] at ho
          simp only [Nat.beq_eq] at ho
          split at hf
          · rename_i v hv
            cases hf
            have hn := mjSo_len hv
            rw [ho, ← hn] at hd
            exact mj_simSo hE.2.1 hx hb hv hl hd (fun lm1 hl1 => ih _ _ _ _ _ _ _ _ h M hM p e R s m args below meth c H locs cells slots Q lm1 hx hb hml hown hts hin hfr hlo hce hsl hK hE hS hP hl1 kret)
          · cases hf
        · -- group 3
          rename_i hg
          rw [hg] at ho
          simp only at ho
          split at hf
          · rename_i v hv
            cases hf
            exact mj_simB hx hb hv ho hd (ih _ _ _ _ _ _ _ _ h M hM p e R s m args below meth c H locs cells slots Q lm hx hb hml hown hts hin hfr hlo hce hsl hK hE hS hP hl kret)
          · cases hf
        · -- group 4
          rename_i hg
          rw [hg] at ho
          simp only [Bool.and_eq_true, Nat.beq_eq] at ho
          split at hf
          · rename_i v hv
            obtain ⟨st2, w2, n2⟩ := v
            cases hf
            obtain ⟨hn, g1, g2⟩ := mjH_len hv
            simp only at mono hn g1 g2 h
            have c1 : cells + (w2.length - w.length) + (w1.length - w2.length) = cells + (w1.length - w.length) := by omega
            have c2 : slots + (mjSz w2 - mjSz w) + (mjSz w1 - mjSz w2) = slots + (mjSz w1 - mjSz w) := by omega
            have c3 : cells + (w2.length - w.length) ≤ R.cells := by omega
            have c4 : slots + (mjSz w2 - mjSz w) ≤ R.slots := by omega
            refine mj_simH hx hb hv ho.2 hin (ho.1.trans hn.symm) hd hts hown hK hP c3 c4 (fun H1 hP1 locs1 hl1 => ?_)
            refine ih _ _ _ _ _ _ _ _ h M hM p e R s m args below meth c H1 locs1 (cells + (w2.length - w.length)) (slots + (mjSz w2 - mjSz w)) Q lm hx hb hml hown hts hin hfr hlo (by rw [c1]; exact hce) (by rw [c2]; exact hsl) hK hE (grow _ H1 locs1 hP1 g1 hl1) hP1 hl ?_
            rw [c1, c2]; exact kret
          · cases hf
        · -- group 5
          rename_i hg
          rw [hg] at ho
          simp only [Bool.and_eq_true, Nat.beq_eq] at ho
          split at hf
          · rename_i v hv
            cases hf
            have hn := mjPu_len hv
            rw [ho.1, ← hn] at hd
            exact mj_simPu hx hb hv ho.2 hts hown hE hd (ih _ _ _ _ _ _ _ _ h M hM p e R s m args below meth c H locs cells slots Q lm hx hb hml hown hts hin hfr hlo hce hsl hK hE hS hP hl kret)
          · cases hf
        · -- group 6
          split at hf <;> cases hf
        · -- group 7
          rename_i hg
          rw [hg] at ho
          simp only [Bool.and_eq_true, Nat.beq_eq] at ho
          split at hf
          · cases hf
          · split at hf
            · rename_i v hv
              cases hf
              obtain ⟨-, g1, g2⟩ := mjPr_len hv
              rw [ho.1] at hd
              refine mj_simPr hx hb hv ho.2 hts hown (by rw [hml]; exact hl.1.symm) hK hP (by omega) (by omega) (by omega) (by omega) hd (fun H1 hP1 locs1 hl1 => ih _ _ _ _ _ _ _ _ h M hM p e R s m args below meth c H1 locs1 cells slots Q lm hx hb hml hown hts hin hfr hlo ?_ ?_ hK hE (grow _ H1 locs1 hP1 (Nat.le_of_eq g1) hl1) hP1 hl ?_)
              · rw [← g1]; exact hce
              · rw [← g2]; exact hsl
              · rw [← g1, ← g2]; exact kret
            · cases hf
        · -- group 8
          split at hf <;> cases hf
        · -- group 9
          rename_i hg
          rw [hg] at ho
          simp only [Bool.and_eq_true, Nat.beq_eq] at ho
          split at hf
          · rename_i v hv
            cases hf
            have hn := mjX_len hv
            rw [ho.1, ← hn] at hd
            exact mj_simX hx hb hv ho.2 hts hown hE hS hd (ih _ _ _ _ _ _ _ _ h M hM p e R s m args below meth c H locs cells slots Q lm hx hb hml hown hts hin hfr hlo hce hsl hK hE hS hP hl kret)
          · cases hf
        · cases hf
      · -- a return
        rename_i r0 hf
        unfold mjOne at hf
        unfold mjOk at ho
        split at hf <;> (try (split at hf <;> (try split at hf) <;> cases hf; done))
        · rename_i hg
          rw [hg] at ho
          simp only [Nat.beq_eq] at ho
          split at hf
          · rename_i v hv
            cases hf
            cases h
            have z1 : w.length - w.length = 0 := by omega
            have z2 : mjSz w - mjSz w = 0 := by omega
            have k9 := kret H locs lm pc q.1 st hP hS.2.2.2 (by rw [ho] at hd; exact hd) hv
            rw [z1, z2] at k9
            exact k9
          · cases hf
        · cases hf
      · -- a call
        rename_i g hf
        split at h
        · cases h
        · rename_i d1
          split at h
          · cases h
          · rename_i M1 hM1
            split at h
            · rename_i hlen
              obtain ⟨hlen, hpos⟩ := hlen
              split at h
              · cases h
              · rename_i r1 hr1
                obtain ⟨v1, w2⟩ := r1
                have mono1 := mjEx_mono _ _ _ _ _ _ _ _ _ hr1
                have mono2 := mjEx_mono _ _ _ _ _ _ _ _ _ h
                simp only at mono2 h
                obtain ⟨ok1, ok2, ok3⟩ := okM _ _ hpos hM1
                have met := mj_met ih hM1 ⟨ok1, ok2⟩ hlen hr1
                have hRoom : (mjRm d1 (w2.length - w.length) (mjSz w2 - mjSz w)).frames + 1 ≤ R.frames ∧ 8 + (M1.2.2.1 + 11) + (mjRm d1 (w2.length - w.length) (mjSz w2 - mjSz w)).locals ≤ R.locals := by
                  show d1 + 1 ≤ R.frames ∧ 8 + (M1.2.2.1 + 11) + 64 * d1 ≤ R.locals
                  omega
                have hf6 : cells + (w2.length - w.length) ≤ R.cells ∧ slots + (mjSz w2 - mjSz w) ≤ R.slots := by omega
                have c1 : cells + (w2.length - w.length) + (w1.length - w2.length) = cells + (w1.length - w.length) := by omega
                have c2 : slots + (mjSz w2 - mjSz w) + (mjSz w1 - mjSz w2) = slots + (mjSz w1 - mjSz w) := by omega
                have fin : ∀ (rest : List Value), g.2.2 = (pc + 3, ls, rest, w) → ∀ (as' : Array Value) (st0 : List Value), va_Run p l e R s m args below meth c H locs cells slots (w2.length - w.length) (mjSz w2 - mjSz w) (F0 m pc lm st0) (rest.map (mjTr B xa)) (mjQc D cT B xa H0 v1 w2 as') (fun q => B ≤ q) → W p l e R s m args below meth c H locs cells slots Q (F0 m pc lm st0) := by
                  intro rest hg as' st0 hrun
                  rw [hg] at h
                  refine mj_call hrun (fun v t0 t H1 L h0 h1 hq hL => ?_)
                  obtain ⟨hv, hP1⟩ := hq
                  cases hv
                  rw [h1] at hP1
                  have e9 : (v1.map (mjTr B xa)).toList ++ rest.map (mjTr B xa) = (v1.toList ++ rest).map (mjTr B xa) := by
                    rw [List.map_append]
                    cases v1 <;> rfl
                  rw [e9]
                  refine ih _ _ _ _ _ _ _ _ h M hM p e R s m args below meth c H1 (locs ++ L) _ _ Q lm hx hb hml hown hts hin hfr hlo (by rw [c1]; exact hce) (by rw [c2]; exact hsl) hK hE (grow _ H1 (locs ++ L) hP1 mono1.1 (fun z hz => (List.mem_append.mp hz).imp id (fun h => hL z h))) hP1 hl (by rw [c1, c2]; exact kret)
                unfold mjOne at hf
                unfold mjOk at ho
                split at hf <;> (try (split at hf <;> (try split at hf) <;> cases hf; done))
                · rename_i hg
                  rw [hg] at ho
                  simp only [Bool.and_eq_true, Nat.beq_eq] at ho
                  obtain ⟨ho3, ho⟩ := ho
                  rw [ho3] at hd
                  split at hf
                  · rename_i v hv
                    cases hf
                    unfold mjC at hv
                    split at hv
                    · -- virtual
                      rename_i idx hins
                      split at hv
                      · rename_i y1 n1 ci tl hinf
                        unfold mjOkC at ho
                        rw [hins, hinf] at ho
                        simp only at ho
                        rw [hins] at hd
                        split at ho
                        · rename_i y2 n2 ci2 p1 p2 p3 p4 tl2 heq
                          cases heq
                          split at hv
                          · rename_i b rr hdrop
                            split at hv
                            · rename_i cj fs hwb
                              split at hv
                              · rename_i hc
                                obtain ⟨rfl, hc1, hc2, hc3⟩ := hc
                                cases hv
                                simp only at hM1 hlen met fin
                                rw [hM1] at ho
                                simp only [Bool.and_eq_true, mjDesc, decide_eq_true_eq] at ho
                                obtain ⟨o1, o2, o3, o4, ⟨o5, o6, o7⟩, o8⟩ := ho
                                have hne : Nat.beq cj 200 = false := by
                                  cases hz : Nat.beq cj 200 with
                                  | false => rfl
                                  | true => rw [Nat.beq_eq] at hz; omega
                                rw [hne, cond_false, decide_eq_true_eq] at o8
                                obtain ⟨rc, hrc, hrc2⟩ := Option.map_eq_some_iff.mp o8
                                obtain ⟨rc', hrc', -, cell, q1, q2, q3, -⟩ := hP.obj hwb hc1
                                cases hrc.symm.trans hrc'
                                have hk := (hK.1.1 cj rc hrc).2.1
                                have cat := mjCat_tr B xa rr
                                rw [mj_stack (n := n1) (st := st), hdrop]
                                refine fin rr rfl _ _ (va_runV (As := (st.take n1).reverse.map (mjTr B xa)) (rest := rr.map (mjTr B xa)) (b := B + b) (C := M1.1.cls) ⟨hx, hb, hml, hown, hts⟩ met ⟨callB_of n1 hts (mjGoodWs ok1) rfl rfl rfl (hts _ (mjHas_in o4)) (hts _ (mjHas_in o1)) ⟨o5, o6, o7⟩ hRoom, hts _ (mjHas_in o2), hts _ (mjHas_in o3)⟩ ⟨mjPc_blind, ⟨cell, q1, by rw [q3]; rfl, by rw [← hrc2, q2]; exact hk⟩, fun U hU hW => ⟨rfl, by rw [hU]; exact hP, hK.warm hW, hE.warm hW⟩⟩ rfl (by rw [List.length_map, List.length_reverse, List.length_take]; omega) hl.1 rfl ?_ hd hf6)
                                show 2 * 0 + _ ≤ 8
                                rw [cat]; omega
                              · cases hv
                            · cases hv
                          · rename_i b rr hdrop
                            split at hv
                            · rename_i hc
                              obtain ⟨rfl, hc1, hc2, hc3⟩ := hc
                              cases hv
                              simp only at hM1 hlen met fin
                              rw [hM1] at ho
                              simp only [Bool.and_eq_true, mjDesc, decide_eq_true_eq] at ho
                              obtain ⟨o1, o2, o3, o4, ⟨o5, o6, o7⟩, o8⟩ := ho
                              have hne : Nat.beq 200 200 = true := rfl
                              rw [hne, cond_true, decide_eq_true_eq] at o8
                              obtain ⟨-, -, -, -, ⟨adK, adV, hsk, k2, k3, -, -, -⟩, -⟩ := id hE
                              have tK : mjTr B xa (.retAddr b) = .ref (adK b) := by
                                show va_rf (xa b) = _
                                have : b = 0 ∨ b = 1 := by omega
                                rcases this with rfl | rfl
                                · rw [k2]; rfl
                                · rw [k3]; rfl
                              have hrec := vk_recv (hsk.kept hS.kept) hc1 hS.va
                              have cat := mjCat_tr B xa rr
                              rw [mj_stack (n := n1) (st := st), hdrop, List.map_cons, tK]
                              refine fin rr rfl _ _ (va_runV (As := (st.take n1).reverse.map (mjTr B xa)) (rest := rr.map (mjTr B xa)) (b := adK b) (C := M1.1.cls) ⟨hx, hb, hml, hown, hts⟩ met ⟨callB_of n1 hts (mjGoodWs ok1) rfl rfl rfl (hts _ (mjHas_in o4)) (hts _ (mjHas_in o1)) ⟨o5, o6, o7⟩ hRoom, hts _ (mjHas_in o2), hts _ (mjHas_in o3)⟩ ⟨mjPc_blind, by rw [o8]; exact hrec, fun U hU hW => ⟨by rw [List.map_cons, tK], by rw [hU]; exact hP, hK.warm hW, hE.warm hW⟩⟩ rfl (by rw [List.length_map, List.length_reverse, List.length_take]; omega) hl.1 rfl ?_ hd hf6)
                              show 2 * 0 + _ ≤ 8
                              rw [cat]; omega
                            · cases hv
                          · cases hv
                        · cases ho
                      · cases hv
                    · -- static
                      rename_i idx hins
                      split at hv
                      · rename_i y1 n1 tl hinf
                        unfold mjOkC at ho
                        rw [hins, hinf] at ho
                        simp only at ho
                        rw [hins] at hd
                        split at ho
                        · rename_i y2 n2 k p1 p2 p3 tl2 heq
                          cases heq
                          split at hv
                          · rename_i hc
                            cases hv
                            simp only at hM1 hlen met fin
                            rw [hM1] at ho
                            simp only [Bool.and_eq_true, mjDesc, decide_eq_true_eq] at ho
                            obtain ⟨o1, o2, o3, o5, o6, o7⟩ := ho
                            have cat := mjCat_tr B xa (st.drop n1)
                            rw [mj_stack (n := n1) (st := st)]
                            have hWW : 2 * (F0 m pc lm (((st.take n1).reverse.map (mjTr B xa)).reverse ++ (st.drop n1).map (mjTr B xa))).monitorRoom + (((st.drop n1).map (mjTr B xa)).map fun v => v.category).sum ≤ 8 := by
                              show 2 * 0 + _ ≤ 8
                              rw [cat]; omega
                            cases hk : Nat.beq k 0 with
                            | true =>
                              rw [hk, cond_true] at o1
                              exact fin (st.drop n1) rfl _ _ (va_runS (As := (st.take n1).reverse.map (mjTr B xa)) (rest := (st.drop n1).map (mjTr B xa)) ⟨hx, hb, hml, hown, hts⟩ met ⟨callB_of n1 hts (mjGoodWs ok1) rfl rfl rfl (hts _ (mjHas_in o3)) (hts _ (mjHas_in o1)) ⟨o5, o6, o7⟩ hRoom, hts _ (mjHas_in o2)⟩ ⟨mjPc_blind, fun U hU hW => ⟨rfl, by rw [hU]; exact hP, hK.warm hW, hE.warm hW⟩⟩ rfl (by rw [List.length_map, List.length_reverse, List.length_take]; omega) hl.1 rfl hWW hd hf6)
                            | false =>
                              rw [hk, cond_false] at o1
                              exact fin (st.drop n1) rfl _ _ (va_runSN (As := (st.take n1).reverse.map (mjTr B xa)) (rest := (st.drop n1).map (mjTr B xa)) ⟨hx, hb, hml, hown, hts⟩ met ⟨va_cnB n1 hts (mjGoodWs ok1) rfl rfl rfl (hK.2.1 _ (mjNestHas_in o1)) (hts _ (mjHas_in o3)) ⟨o5, o6, o7⟩ hRoom, hts _ (mjHas_in o2), trivial⟩ ⟨mjPc_blind, fun U hU hW => ⟨rfl, by rw [hU]; exact hP, hK.warm hW, hE.warm hW⟩⟩ rfl (by rw [List.length_map, List.length_reverse, List.length_take]; omega) hl.1 rfl hWW hd hf6)
                          · cases hv
                        · cases ho
                      · cases hv
                    · -- special
                      rename_i idx hins
                      split at hv
                      · rename_i y1 n1 tl hinf
                        unfold mjOkC at ho
                        rw [hins, hinf] at ho
                        simp only at ho
                        rw [hins] at hd
                        split at ho
                        · rename_i y2 n2 k p1 p2 p3 tl2 heq
                          cases heq
                          split at hv
                          · rename_i b rr hdrop
                            split at hv
                            · rename_i hc
                              cases hv
                              simp only at hM1 hlen met fin
                              obtain ⟨nm, bs, mL, rt, pl⟩ := M1
                              rw [hM1] at ho
                              simp only [Bool.and_eq_true, mjDesc, decide_eq_true_eq] at ho
                              obtain ⟨o1, o2, o3, ⟨o5, o6, o7⟩, o8, rfl⟩ := ho
                              have cat := mjCat_tr B xa rr
                              rw [mj_stack (n := n1) (st := st), hdrop]
                              have hWW : 2 * (F0 m pc lm (((st.take n1).reverse.map (mjTr B xa)).reverse ++ (Value.ref b :: rr).map (mjTr B xa))).monitorRoom + ((rr.map (mjTr B xa)).map fun v => v.category).sum ≤ 8 := by
                                show 2 * 0 + _ ≤ 8
                                rw [cat]; omega
                              cases hk : Nat.beq k 0 with
                              | true =>
                                rw [hk, cond_true] at o1
                                exact fin rr rfl _ _ (va_runI (As := (st.take n1).reverse.map (mjTr B xa)) (rest := rr.map (mjTr B xa)) (b := B + b) ⟨hx, hb, hml, hown, hts⟩ met ⟨callB_of n1 hts (mjGoodWs ok1) rfl rfl rfl (hts _ (mjHas_in o3)) (hts _ (mjHas_in o1)) ⟨o5, o6, o7⟩ hRoom, o8, hts _ (mjHas_in o2)⟩ ⟨mjPc_blind, fun U hU hW => ⟨rfl, by rw [hU]; exact hP, hK.warm hW, hE.warm hW⟩⟩ rfl (by rw [List.length_map, List.length_reverse, List.length_take]; omega) hl.1 rfl hWW hd hf6)
                              | false =>
                                rw [hk, cond_false] at o1
                                exact fin rr rfl _ _ (va_runIN (As := (st.take n1).reverse.map (mjTr B xa)) (rest := rr.map (mjTr B xa)) (b := B + b) ⟨hx, hb, hml, hown, hts⟩ met ⟨va_cnB n1 hts (mjGoodWs ok1) rfl rfl rfl (hK.2.1 _ (mjNestHas_in o1)) (hts _ (mjHas_in o3)) ⟨o5, o6, o7⟩ hRoom, o8, hts _ (mjHas_in o2)⟩ ⟨mjPc_blind, fun U hU hW => ⟨rfl, by rw [hU]; exact hP, hK.warm hW, hE.warm hW⟩⟩ rfl (by rw [List.length_map, List.length_reverse, List.length_take]; omega) hl.1 rfl hWW hd hf6)
                            · cases hv
                          · cases hv
                        · cases ho
                      · cases hv
                    · cases hv
                  · cases hf
                · cases hf
            · cases h
end MjSim
