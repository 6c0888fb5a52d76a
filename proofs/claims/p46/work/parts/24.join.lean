/-! ===== contracts joined: over pieces of an argument, over the values of a place ===== -/
section MjJoin
variable {S : MjSp} {J : MjW → Prop}
theorem aiHas0_ok {w : MjW} {F : List MjFa} {q : MjFa} (hI : mjInv S J w) (hf : mjFs0 S w F) (h : aiHas S F q = true) : ∃ v, mjFld w q.1 q.2.1 = some v ∧ mjDn S v q.2.2 := by
  unfold aiHas at h
  rw [Bool.or_eq_true] at h
  rcases h with h | h
  · split at h
    · rename_i f hfd
      obtain ⟨v, h1, h2⟩ := hf _ (aiFind_mem hfd)
      exact ⟨v, h1, aiSub_ok h h2⟩
    · cases h
  · rw [Bool.and_eq_true, decide_eq_true_eq] at h
    obtain ⟨⟨h1, h2⟩, h3⟩ := h
    obtain ⟨vs, g1, g2, g3⟩ := hI.at rfl h1
    have hv : vs[q.2.1]? = some vs[q.2.1] := List.getElem?_eq_getElem (by rw [g2]; exact h2)
    exact ⟨_, by unfold mjFld; rw [g1]; exact hv, aiSub_ok h3 (aiTy_ok (g3 _ _ hv))⟩
def aiOutLe (S : MjSp) (o p : MjOut) : Bool := (bif Nat.beq p.1.1 7 then Nat.beq o.1.1 7 else (!(Nat.beq o.1.1 7) && aiSub S o.1 p.1)) && (p.2.1.all (fun q => o.2.1.any (fun u => Nat.beq u.1 q.1 && decide (q.2.1 ≤ u.2.1 ∧ u.2.2 ≤ q.2.2))) && p.2.2.all (aiHas S o.2.2))
/-- what s says serves for t, at such arguments and facts -/
def aiImp (S : MjSp) (As : List MjQ) (F : List MjFa) (s t : MjSm) : Bool := (aiAll2 S As s.1 && s.2.1.all (aiHas S F)) && (s.2.2.1.all (fun o => t.2.2.1.any (aiOutLe S o)) && (aiModsIn s.2.2.2.1 t.2.2.2.1 && Nat.ble s.2.2.2.2 t.2.2.2.2))
theorem mjArgs_sub : ∀ {as : List Value} {ps qs : List MjQ}, mjArgs S as ps → aiAll2 S ps qs = true → mjArgs S as qs
  | [], [], [], _, _ => trivial
  | [], [], _ :: _, _, h => by cases h
  | [], _ :: _, _, h, _ => by cases h
  | _ :: _, [], _, h, _ => by cases h
  | _ :: _, _ :: _, [], _, h => by cases h
  | v :: as, p :: ps, q :: qs, h, h2 => by
    unfold aiAll2 at h2
    rw [Bool.and_eq_true] at h2
    exact ⟨aiSub_ok h2.1 h.1, mjArgs_sub h.2 h2.2⟩
theorem mjRs_le {r : Option Value} {o p : MjQ} (h : (bif Nat.beq p.1 7 then Nat.beq o.1 7 else (!(Nat.beq o.1 7) && aiSub S o p)) = true) (hr : mjRs S r o) : mjRs S r p := by
  unfold mjRs at hr ⊢
  cases e : Nat.beq p.1 7 with
  | true =>
    rw [e, cond_true] at h
    rw [if_pos (Nat.eq_of_beq_eq_true h)] at hr
    rw [if_pos (Nat.eq_of_beq_eq_true e)]
    exact hr
  | false =>
    rw [e, cond_false, Bool.and_eq_true, Bool.not_eq_true'] at h
    have n7 : ¬ o.1 = 7 := fun e7 => by have e8 := h.1; rw [e7] at e8; cases e8
    have p7 : ¬ p.1 = 7 := fun e7 => by rw [e7] at e; cases e
    rw [if_neg n7] at hr
    rw [if_neg p7]
    obtain ⟨v, e1, e2⟩ := hr
    exact ⟨v, e1, aiSub_ok h.2 e2⟩
theorem aiImp_ok {y : Nat} {As : List MjQ} {F : List MjFa} {s t : MjSm} (h : aiImp S As F s t = true) (hs : mjCtr S J y s) {sc : List Int32} {w : MjW} {as : List Value} {M : MjM} (hI : mjInv S J w) (ha : mjArgs S as As) (hf : mjFs0 S w F) (hM : mjMt y = some M) : mjGo mjTb mjMt sc t.2.2.2.2 y (0, mjEntry M.2.2.1 as, [], w) (mjPost S J t as w) := by
  unfold aiImp at h
  simp only [Bool.and_eq_true] at h
  obtain ⟨⟨h1, h2⟩, h3, h4, h5⟩ := h
  have hg := hs sc w as M hI (mjArgs_sub ha h1) (fun q hq => aiHas0_ok hI hf (List.all_eq_true.mp h2 q hq)) hM
  refine (hg.deep (Nat.le_of_ble_eq_true h5)).imp (fun r w1 hp => ?_)
  obtain ⟨p1, p2, o, ho, p3, p4, p5⟩ := hp
  obtain ⟨u, hu, hle⟩ := List.any_eq_true.mp (List.all_eq_true.mp h3 o ho)
  unfold aiOutLe at hle
  simp only [Bool.and_eq_true] at hle
  obtain ⟨l1, l2, l3⟩ := hle
  refine ⟨p1, aiModsIn_ok h4 p2, u, hu, mjRs_le l1 p3, fun q hq => ?_, fun q hq => aiHas0_ok p1 p5 (List.all_eq_true.mp l3 q hq)⟩
  obtain ⟨z, hz, hz2⟩ := List.any_eq_true.mp (List.all_eq_true.mp l2 q hq)
  simp only [Bool.and_eq_true, decide_eq_true_eq] at hz2
  obtain ⟨x, x1, x2⟩ := p4 z hz
  rw [Nat.eq_of_beq_eq_true hz2.1] at x1
  exact ⟨x, x1, x2.mono hz2.2.1 hz2.2.2⟩
theorem mjCtr_imp {y : Nat} {s t : MjSm} (h : aiImp S t.1 t.2.1 s t = true) (hs : mjCtr S J y s) : mjCtr S J y t := fun _ _ _ _ hI ha hf hM => aiImp_ok h hs hI ha hf hM
-- pieces of an argument
def aiCov (lo hi : Int) : List (Int × Int) → Bool
  | [] => decide (hi < lo)
  | p :: R => decide (p.1 ≤ lo) && aiCov (p.2 + 1) hi R
theorem aiCov_ok : ∀ {ps : List (Int × Int)} {lo hi x : Int}, aiCov lo hi ps = true → lo ≤ x → x ≤ hi → ∃ p ∈ ps, p.1 ≤ x ∧ x ≤ p.2
  | [], lo, hi, x, h, h1, h2 => by unfold aiCov at h; rw [decide_eq_true_eq] at h; omega
  | p :: R, lo, hi, x, h, h1, h2 => by
    unfold aiCov at h
    rw [Bool.and_eq_true, decide_eq_true_eq] at h
    by_cases e : x ≤ p.2
    · exact ⟨p, List.mem_cons_self, by omega, e⟩
    · obtain ⟨q, q1, q2⟩ := aiCov_ok h.2 (show p.2 + 1 ≤ x by omega) h2
      exact ⟨q, List.mem_cons_of_mem _ q1, q2⟩
def aiPc (i : Nat) (s : MjSm) : Int × Int := match s.1[i]? with | some p => (p.2.1, p.2.2.1) | none => (0, -1)
def aiJoinA (S : MjSp) (i : Nat) (t : MjSm) (ss : List MjSm) : Bool := match t.1[i]? with
  | some p => (Nat.beq p.1 0 && aiCov p.2.1 p.2.2.1 (ss.map (aiPc i))) && ss.all (fun s => aiImp S (t.1.set i (0, (aiPc i s).1, (aiPc i s).2, 0, 0)) t.2.1 s t)
  | none => false
theorem mjArgs_at : ∀ {as : List Value} {ps : List MjQ} {i : Nat} {p : MjQ}, mjArgs S as ps → ps[i]? = some p → ∃ v, as[i]? = some v ∧ mjDn S v p ∧ ∀ q, mjDn S v q → mjArgs S as (ps.set i q)
  | [], [], _, _, _, h => by cases h
  | [], _ :: _, _, _, h, _ => by cases h
  | _ :: _, [], _, _, h, _ => by cases h
  | v :: as, p :: ps, 0, p', h, h2 => by cases h2; exact ⟨v, rfl, h.1, fun q hq => ⟨hq, h.2⟩⟩
  | v :: as, p :: ps, i + 1, p', h, h2 => by
    obtain ⟨u, h3, h4, h5⟩ := mjArgs_at (i := i) h.2 h2
    exact ⟨u, h3, h4, fun q hq => ⟨h.1, h5 q hq⟩⟩
theorem mjCtr_joinA {y i : Nat} {t : MjSm} {ss : List MjSm} (h : aiJoinA S i t ss = true) (hs : ∀ s ∈ ss, mjCtr S J y s) : mjCtr S J y t := by
  intro sc w as M hI ha hf hM
  unfold aiJoinA at h
  split at h
  · rename_i p hp
    simp only [Bool.and_eq_true] at h
    obtain ⟨⟨h0, h1⟩, h2⟩ := h
    obtain ⟨v, v1, v2, v3⟩ := mjArgs_at ha hp
    have v2' := v2
    unfold mjDn at v2'
    rw [Nat.eq_of_beq_eq_true h0] at v2'
    obtain ⟨x, rfl, hx⟩ := v2'
    obtain ⟨q, q1, q2, q3⟩ := aiCov_ok h1 hx.1 hx.2
    obtain ⟨s, s1, s2⟩ := List.mem_map.mp q1
    exact aiImp_ok (List.all_eq_true.mp h2 s s1) (hs s s1) hI (v3 _ ⟨x, rfl, by rw [s2]; exact ⟨q2, q3⟩⟩) hf hM
  · cases h
-- the values of a place
def aiJoinF (S : MjSp) (a k : Nat) (lo hi : Int) (t : MjSm) (ss : List (Int × MjSm)) : Bool := aiCov lo hi (ss.map (fun s => (s.1, s.1))) && ss.all (fun s => aiImp S t.1 ((a, k, (0, s.1, s.1, 0, 0)) :: t.2.1) s.2 t)
theorem mjCtr_joinF {y a k : Nat} {lo hi : Int} {t : MjSm} {ss : List (Int × MjSm)} (h : aiJoinF S a k lo hi t ss = true) (hv : ∀ w : MjW, mjInv S J w → mjFs0 S w t.2.1 → ∃ x : Int32, mjFld w a k = some (.int x) ∧ mjB x lo hi) (hs : ∀ s ∈ ss, mjCtr S J y s.2) : mjCtr S J y t := by
  intro sc w as M hI ha hf hM
  unfold aiJoinF at h
  rw [Bool.and_eq_true] at h
  obtain ⟨x, x1, x2⟩ := hv w hI hf
  obtain ⟨q, q1, q2, q3⟩ := aiCov_ok h.1 x2.1 x2.2
  obtain ⟨s, s1, s2⟩ := List.mem_map.mp q1
  subst s2
  refine aiImp_ok (List.all_eq_true.mp h.2 s s1) (hs s s1) hI ha (fun f hf2 => ?_) hM
  rcases List.mem_cons.mp hf2 with e | e
  · subst e; exact ⟨.int x, x1, x, rfl, q2, q3⟩
  · exact hf f e
theorem mjListC {y : Nat} {s : MjSm} {ss : List MjSm} (h : mjCtr S J y s) (he : ∀ e ∈ ss, mjCtr S J y e) : ∀ e ∈ s :: ss, mjCtr S J y e := List.forall_mem_cons.mpr ⟨h, he⟩
theorem mjListF {y : Nat} {v : Int} {s : MjSm} {ss : List (Int × MjSm)} (h : mjCtr S J y s) (he : ∀ e ∈ ss, mjCtr S J y e.2) : ∀ e ∈ (v, s) :: ss, mjCtr S J y e.2 := List.forall_mem_cons.mpr ⟨h, he⟩
end MjJoin
/-! ===== the checker, a cut at a time ===== -/
noncomputable def aiOkE (S : MjSp) (U : MjU) (env : List (Nat × MjSm)) (y : Nat) (sm : MjSm) (pr : List Nat) (sp : Nat) (cuts : List MjCut) (n : Nat) : Bool := match mjMt y with
  | none => false
  | some M => (sm.1.all aiRq && (pr.all (aiPrOk sm.1) && Nat.ble (aiEntL M.2.2.1 sm.1).length 60)) && aiRun S U env sm pr sp M.2.2.2.1 cuts (aiBegin (aiEntL M.2.2.1 sm.1, [], sm.2.1)) sm.2.1 aiM0 (mjTb y) n 0 (aiBegin (aiEntL M.2.2.1 sm.1, [], sm.2.1))
noncomputable def aiOkC (S : MjSp) (U : MjU) (env : List (Nat × MjSm)) (y : Nat) (sm : MjSm) (pr : List Nat) (sp : Nat) (cuts : List MjCut) (n : Nat) (C : MjCut) : Bool := match mjMt y with
  | none => false
  | some M => (Nat.beq C.2.2.length 8 && (C.2.2.all (aiMuOk1 C.2.1) && Nat.ble C.2.1.1.length 60)) && aiRun S U env sm pr sp M.2.2.2.1 cuts (aiBegin C.2.1) C.2.1.2.2 C.2.2 (mjTb y) n C.1 (aiBegin C.2.1)
theorem aiOk_split {S : MjSp} {U : MjU} {env : List (Nat × MjSm)} {y : Nat} {sm : MjSm} {pr : List Nat} {sp : Nat} {cuts : List MjCut} {n : Nat} (hE : aiOkE S U env y sm pr sp cuts n = true) (hC : ∀ C ∈ cuts, aiOkC S U env y sm pr sp cuts n C = true) : aiOk S U env y sm pr sp cuts n = true := by
  unfold aiOk
  unfold aiOkE at hE
  unfold aiOkC at hC
  cases hM : mjMt y with
  | none => rw [hM] at hE; cases hE
  | some M =>
    rw [hM] at hE hC
    simp only [Bool.and_eq_true] at hE ⊢
    exact ⟨hE.1, hE.2, List.all_eq_true.mpr hC⟩
