section AiR
variable {S : MjSp} {U : MjU} {J : MjW → Prop} {τ : Nat → Int} {ls : MjL} {st : List Value} {w : MjW} {sc : List Int32} {y pc : Nat} {M : MjM}
def mjCn (S : MjSp) (J : MjW → Prop) (τ : Nat → Int) (sc : List Int32) (y : Nat) (sm : MjSm) (pr : List Nat) (as : List Value) (ls0 : MjL) (w0 : MjW) (pc : Nat) (B : MjSt) : Prop := ∀ (ls : MjL) (st : List Value) (w : MjW), mjRl S J τ ls st w B → (∀ i ∈ pr, ls[i]? = ls0[i]?) → mjKp S sm.2.2.2.1 w0 w → mjGo mjTb mjMt sc sm.2.2.2.2 y (pc, ls, st, w) (mjPost S J sm as w0)
theorem aiEnds_ok {sm : MjSm} {pr : List Nat} {as : List Value} {ls0 : MjL} {w0 : MjW} {A : MjSt} {p : MjQ} {r : Option Value} (hpr : ∀ i ∈ pr, ∃ v, as[i]? = some v ∧ ls0[i]? = some (some v)) (h : aiEnds S pr sm.2.2.1 A p = true) (hr : mjRl S J τ ls st w A) (hp : ∀ i ∈ pr, ls[i]? = ls0[i]?) (hk : mjKp S sm.2.2.2.1 w0 w) (h1 : mjRs S r p) (h2 : p.1 = 7 ↔ r = none) : mjPost S J sm as w0 r w := by
  obtain ⟨hI, hl, -, hf⟩ := hr
  unfold aiEnds at h
  obtain ⟨o, ho, h3⟩ := List.any_eq_true.mp h
  simp only [Bool.and_eq_true] at h3
  obtain ⟨h3, h4, h5⟩ := h3
  refine ⟨hI, hk, o, ho, ?_, fun q hq => ?_, fun q hq => aiHas_ok hI hf (List.all_eq_true.mp h5 q hq)⟩
  · unfold mjRs at h1 ⊢
    cases e : Nat.beq o.1.1 7 with
    | true =>
      rw [e, cond_true] at h3
      rw [if_pos (Nat.eq_of_beq_eq_true e)]
      exact h2.mp (Nat.eq_of_beq_eq_true h3)
    | false =>
      rw [e, cond_false, Bool.and_eq_true, Bool.not_eq_true'] at h3
      have n7 : ¬ p.1 = 7 := fun e7 => by have e8 := h3.1; rw [e7] at e8; cases e8
      have o7 : ¬ o.1.1 = 7 := fun e7 => by rw [e7] at e; cases e
      rw [if_neg n7] at h1
      rw [if_neg o7]
      obtain ⟨v, e1, e2⟩ := h1
      exact ⟨v, e1, aiSub_ok h3.2 e2⟩
  · have h6 := List.all_eq_true.mp h4 q hq
    rw [Bool.and_eq_true, decide_eq_true_eq] at h6
    obtain ⟨v, e1, e2⟩ := hpr _ h6.1
    have h7 := h6.2
    split at h7
    · rename_i l hl9
      unfold aiSub at h7
      simp only [decide_eq_true_eq] at h7
      have h8 := hl.2 _ _ hl9
      rw [if_neg (by omega)] at h8
      obtain ⟨u, g1, g2, -⟩ := h8
      unfold mjDn at g2
      rw [h7.1] at g2
      obtain ⟨x, rfl, hx⟩ := g2
      unfold mjLoc at g1
      rw [hp _ h6.1, e2] at g1
      cases g1
      exact ⟨x, e1, hx.mono h7.2.1 h7.2.2⟩
    · cases h7
theorem mjSByt_ok : mjSByt.all (fun l => l.all (fun b => decide (-128 ≤ b.toInt ∧ b.toInt ≤ 127))) = true := by decide +kernel
theorem mjSByt_at {a i : Nat} : mjB ((mjSByt.getD a []).getD i 0) (-128) 127 := by
  by_cases ha : a < mjSByt.length
  · have e1 : mjSByt.getD a [] = mjSByt[a] := by rw [List.getD_eq_getElem?_getD, List.getElem?_eq_getElem ha]; rfl
    rw [e1]
    have h1 := List.all_eq_true.mp mjSByt_ok _ (List.getElem_mem ha)
    by_cases hi : i < mjSByt[a].length
    · have e2 : mjSByt[a].getD i 0 = mjSByt[a][i] := by rw [List.getD_eq_getElem?_getD, List.getElem?_eq_getElem hi]; rfl
      rw [e2]
      have h2 := List.all_eq_true.mp h1 _ (List.getElem_mem hi)
      rw [decide_eq_true_eq] at h2
      exact h2
    · have e2 : mjSByt[a].getD i 0 = 0 := by rw [List.getD_eq_getElem?_getD, List.getElem?_eq_none (by omega)]; rfl
      rw [e2]; exact ⟨by decide, by decide⟩
  · have e1 : mjSByt.getD a [] = [] := by rw [List.getD_eq_getElem?_getD, List.getElem?_eq_none (by omega)]; rfl
    rw [e1]
    show mjB (0 : Int32) (-128) 127
    exact ⟨by decide, by decide⟩
theorem mjSLen_ok {a : Nat} : mjSLen.getD a 0 < 2 ^ 31 := by
  by_cases ha : a < mjSLen.length
  · have e1 : mjSLen.getD a 0 = mjSLen[a] := by rw [List.getD_eq_getElem?_getD, List.getElem?_eq_getElem ha]; rfl
    rw [e1]
    have : mjSLen.all (fun n => Nat.blt n (2 ^ 31)) = true := by decide
    exact Nat.le_of_ble_eq_true (List.all_eq_true.mp this _ (List.getElem_mem ha))
  · have e1 : mjSLen.getD a 0 = 0 := by rw [List.getD_eq_getElem?_getD, List.getElem?_eq_none (by omega)]; rfl
    rw [e1]; decide
theorem aiX_ok {ins : Instr} {inf : List Nat} {K K1 : List MjQ} {n : Nat} (h : aiX ins inf K = some (K1, n)) (hk : mjSk S ls w st K) : ∃ st1, mjX sc ins inf st = some (st1, n) ∧ mjSk S ls w st1 K1 := by
  unfold aiX at h
  split at h
  · split at h
    · cases h; exact ⟨_, rfl, mjSk.cons ⟨1, rfl, by decide, by decide⟩ (Or.inl rfl) hk⟩
    · cases h; exact ⟨_, rfl, mjSk.cons ⟨4, rfl, rfl⟩ (Or.inl rfl) hk⟩
    · cases h
  · split at h
    · rename_i p R
      split at h
      · rename_i hc
        obtain ⟨v, st1, rfl, hd, -, hk2⟩ := hk.uncons
        unfold mjDn at hd
        rw [hc.1] at hd
        obtain ⟨k, rfl, hkk⟩ := hd
        have hk2' : k < 2 := by omega
        split at h
        · cases h
          exact ⟨.retAddr (k + 2) :: st1, by simp only [mjX]; rw [if_pos hk2'], mjSk.cons ⟨k + 2, rfl, by show ((k + 2 : Nat) : Int) = p.2.1 + 2; omega⟩ (Or.inl rfl) hk2⟩
        · cases h
          exact ⟨.int 0 :: st1, by simp only [mjX]; rw [if_pos hk2'], mjSk.cons ⟨0, rfl, by decide, by decide⟩ (Or.inl rfl) hk2⟩
        · cases h
      · cases h
    · cases h
  · split at h
    · rename_i p R
      split at h
      · rename_i hc
        cases h
        obtain ⟨v, st1, rfl, hd, -, hk2⟩ := hk.uncons
        unfold mjDn at hd
        rw [hc.1] at hd
        obtain ⟨k, rfl, hkk⟩ := hd
        have e : p.2.1.toNat = k := by omega
        refine ⟨.int (Int32.ofNat (mjSLen.getD (k - 2) 0)) :: st1, ?_, mjSk.cons ⟨_, rfl, ?_⟩ (Or.inl rfl) hk2⟩
        · simp only [mjX]
          rw [if_neg (by omega), if_pos (by omega)]
        · rw [e]
          have := nI_toInt (n := mjSLen.getD (k - 2) 0) mjSLen_ok
          unfold mjB
          show _ ≤ (nI _).toInt ∧ (nI _).toInt ≤ _
          rw [this]
          exact ⟨Int.le_refl _, Int.le_refl _⟩
      · cases h
    · cases h
  · split at h
    · rename_i x p R
      split at h
      · rename_i hc
        cases h
        obtain ⟨u, st0, rfl, hdx, -, hk1⟩ := hk.uncons
        obtain ⟨v, st1, rfl, hd, -, hk2⟩ := hk1.uncons
        obtain ⟨c1, c2, c3, c4, c5⟩ := hc
        unfold mjDn at hd hdx
        rw [c1] at hd
        rw [c3] at hdx
        obtain ⟨k, rfl, hkk⟩ := hd
        obtain ⟨i, rfl, hi⟩ := hdx
        have e : p.2.1.toNat = k := by omega
        rw [e] at c5
        obtain ⟨i0, i1, -⟩ := mj_ix (n := mjSLen.getD (k - 2) 0) hi c4 c5
        refine ⟨.int ((mjSByt.getD (k - 2) []).getD i.toNatClampNeg 0) :: st1, ?_, mjSk.cons ⟨_, rfl, mjSByt_at⟩ (Or.inl rfl) hk2⟩
        simp only [mjX]
        rw [if_pos ⟨by omega, i0, i1⟩]
      · cases h
    · cases h
  · cases h
theorem aiOne_ok (hU : mjUok S U J) {env : List (Nat × MjSm)} (henv : ∀ e ∈ env, mjCtr S J e.1 e.2) {sm : MjSm} {pr : List Nat} {as : List Value} {ls0 : MjL} {w0 : MjW} {A : MjSt} {q : MjI} {g : Nat → MjSt → Bool} (hpr : ∀ i ∈ pr, ∃ v, as[i]? = some v ∧ ls0[i]? = some (some v)) (hM : mjMt y = some M) (hq : mjTb y pc = some q) (h : aiOne S U env sm pr M.2.2.2.1 q pc A g = true) (hg : ∀ (pc1 : Nat) (B : MjSt), g pc1 B = true → mjCn S J τ sc y sm pr as ls0 w0 pc1 B) : mjCn S J τ sc y sm pr as ls0 w0 pc A := by
  intro ls st w hr hp hk
  obtain ⟨ins, len, gr, inf⟩ := q
  unfold aiOne at h
  simp only at h
  split at h
  · split at h
    · rename_i K1 hK
      obtain ⟨hI, hl, hs, hf⟩ := hr
      obtain ⟨st1, e1, e2⟩ := aiA_ok hK hs
      exact g_A hM hq e1 (hg _ _ h ls st1 w ⟨hI, hl, e2, hf⟩ hp hk)
    · cases h
  · split at h
    · rename_i v hv
      obtain ⟨hI, hl, hs, hf⟩ := hr
      obtain ⟨u, e1, e2, e3⟩ := aiLd_ok (w := w) (show aiLd ins A.1 = some (v.1, v.2) from hv) hl
      exact g_L hM hq e1 (hg _ _ h ls (u :: st) w ⟨hI, hl, mjSk.cons e2 e3 hs, hf⟩ hp hk)
    · cases h
  · split at h
    · rename_i v hv
      obtain ⟨ls1, st1, e1, e2, e3⟩ := aiSo_ok (show aiSo pr ins A = some (v.1, v.2) from hv) hr
      exact g_S hM hq e1 (hg _ _ h ls1 st1 w e2 (fun i hi => (e3 i hi).trans (hp i hi)) hk)
    · cases h
  · obtain ⟨pc1, st1, B, e1, e2, e3⟩ := aiBranch_ok h hr
    exact g_B hM hq e1 (hg _ _ e2 ls st1 w e3 hp hk)
  · split at h
    · rename_i v hv
      obtain ⟨st1, w1, e1, e2, e3⟩ := aiH_ok hU (show aiH S U sm.2.2.2.1 ins inf A = some (v.1, v.2) from hv) hr
      exact g_H hM hq e1 (hg _ _ h ls st1 w1 e2 hp (hk.trans e3))
    · cases h
  · split at h
    · rename_i v hv
      obtain ⟨hI, hl, hs, hf⟩ := hr
      obtain ⟨u, e1, e2, e3⟩ := aiPu_ok (S := S) (show aiPu ins inf = some (v.1, v.2) from hv)
      exact g_P hM hq e1 (hg _ _ h ls (u :: st) w ⟨hI, hl, mjSk.cons e2 (Or.inl e3) hs, hf⟩ hp hk)
    · cases h
  · split at h
    · rename_i Bs hB
      exact aiCall_ok henv hM hq hB hr (fun B hB2 st1 w1 e1 e2 => hg _ _ (List.all_eq_true.mp h B hB2) ls st1 w1 e1 hp (hk.trans e2))
    · cases h
  · rw [Bool.and_eq_true] at h
    obtain ⟨d1, hd1⟩ : ∃ d1, sm.2.2.2.2 = d1 + 1 := ⟨sm.2.2.2.2 - 1, by have := Nat.le_of_ble_eq_true h.1; omega⟩
    have h2 := h.2
    rw [hd1]
    split at h2
    · rename_i K1 hK
      obtain ⟨hI, hl, hs, hf⟩ := hr
      obtain ⟨st1, e1, e2⟩ := aiPr_ok hK hs
      have := hg _ _ h2 ls st1 w ⟨hI, hl, e2, hf⟩ hp hk
      rw [hd1] at this
      exact g_prim hM hq e1 this
    · split at h2
      · rename_i B hB
        obtain ⟨st1, w1, e1, e2, e3⟩ := aiCpy_ok hU hB hr
        have := hg _ _ h2 ls st1 w1 e2 hp (hk.trans e3)
        rw [hd1] at this
        exact g_prim hM hq e1 this
      · cases h2
  · split at h
    · rename_i p hp2
      obtain ⟨r, e1, e2, e3⟩ := aiRetT_ok (S := S) hp2 hr.2.2.1
      exact g_ret hM hq e1 (aiEnds_ok hpr h hr hp hk e2 e3)
    · cases h
  · split at h
    · rename_i v hv
      obtain ⟨hI, hl, hs, hf⟩ := hr
      obtain ⟨st1, e1, e2⟩ := aiX_ok (sc := sc) (show aiX ins inf A.2.1 = some (v.1, v.2) from hv) hs
      exact g_X hM hq e1 (hg _ _ h ls st1 w ⟨hI, hl, e2, hf⟩ hp hk)
    · cases h
  · cases h
theorem aiCutAt_ok {cuts : List MjCut} {C : MjCut} (h : aiCutAt cuts pc = some C) : C ∈ cuts ∧ C.1 = pc := by
  induction cuts with
  | nil => cases h
  | cons c R ih =>
    unfold aiCutAt at h
    split at h
    · rename_i e; cases h; exact ⟨List.mem_cons_self, Nat.eq_of_beq_eq_true e⟩
    · obtain ⟨h1, h2⟩ := ih h; exact ⟨List.mem_cons_of_mem _ h1, h2⟩
theorem aiSpl_ok {i : Nat} {B : MjSt} {f : MjSt → Bool} (h : aiSpl i B f = true) (hr : mjRl S J τ ls st w B) : ∃ B1, f B1 = true ∧ mjRl S J τ ls st w B1 := by
  unfold aiSpl at h
  split at h
  · rename_i p hp
    simp only [Bool.and_eq_true, decide_eq_true_eq] at h
    obtain ⟨h0, h1, h2⟩ := h
    obtain ⟨hI, hl, hk, hf⟩ := hr
    have h3 := hl.2 i p hp
    have e0 := Nat.eq_of_beq_eq_true h0
    rw [if_neg (by omega)] at h3
    obtain ⟨v, g1, g2, g3⟩ := h3
    unfold mjDn at g2
    rw [e0] at g2
    obtain ⟨x, rfl, hx⟩ := g2
    have x1 := hx.1; have x2 := hx.2
    have h4 := List.all_eq_true.mp h2 (x.toInt - p.2.1).toNat (List.mem_range.mpr (by omega))
    refine ⟨_, h4, hI, ⟨by rw [List.length_set]; exact hl.1, fun j q hq => ?_⟩, hk, hf⟩
    have hi : i < B.1.length := (List.getElem?_eq_some_iff.mp hp).1
    rw [List.getElem?_set] at hq
    split at hq
    · rename_i e
      subst e
      try rw [if_pos hi] at hq
      cases hq
      rw [if_neg (show ¬ (0 : Nat) = 9 by decide)]
      refine ⟨.int x, g1, ⟨x, rfl, ?_⟩, g3⟩
      unfold mjB
      dsimp only
      omega
    · exact hl.2 j q hq
  · cases h
theorem aiRun_ok (hU : mjUok S U J) {env : List (Nat × MjSm)} (henv : ∀ e ∈ env, mjCtr S J e.1 e.2) {sm : MjSm} {pr : List Nat} {sp : Nat} {as : List Value} {ls0 : MjL} {w0 : MjW} (hpr : ∀ i ∈ pr, ∃ v, as[i]? = some v ∧ ls0[i]? = some (some v)) (hM : mjMt y = some M) {cuts : List MjCut} {B0 : MjSt} {F0 : List MjFa} {m0 : List (Nat × Nat × Int)} {lsB : MjL} {wB : MjW} (hl0 : mjLo S τ lsB B0.1) (hf0 : mjFs S τ wB B0.2.2) (hc : ∀ C ∈ cuts, ∀ (ls : MjL) (st : List Value) (w : MjW), mjRlC S J ls st w C.2.1 → mjLex (C.2.2.map (mjMu ls w C.2.1.2.2)) (m0.map (mjMu lsB wB F0)) → (∀ i ∈ pr, ls[i]? = ls0[i]?) → mjKp S sm.2.2.2.1 w0 w → mjGo mjTb mjMt sc sm.2.2.2.2 y (C.1, ls, st, w) (mjPost S J sm as w0)) : ∀ (n pc : Nat) (A : MjSt), aiRun S U env sm pr sp M.2.2.2.1 cuts B0 F0 m0 (mjTb y) n pc A = true → mjCn S J τ sc y sm pr as ls0 w0 pc A := by
  intro n
  induction n with
  | zero => intro pc A h; cases h
  | succ n ih =>
    intro pc A h
    rw [aiRun_succ] at h
    split at h
    · cases h
    · rename_i q hq
      refine aiOne_ok hU henv hpr hM hq h (fun pc1 B hg => ?_)
      unfold aiGoTo at hg
      split at hg
      · intro ls st w hr hp hk
        obtain ⟨B, hg, hr⟩ : ∃ B1, aiToCut S cuts B0 F0 m0 pc1 B1 = true ∧ mjRl S J τ ls st w B1 := by
          rw [Bool.or_eq_true] at hg
          rcases hg with hg | hg
          · exact ⟨B, hg, hr⟩
          · exact aiSpl_ok hg hr
        unfold aiToCut at hg
        obtain ⟨C, c1, hg⟩ := List.any_eq_true.mp hg
        simp only [Bool.and_eq_true] at hg
        have c2 := Nat.eq_of_beq_eq_true hg.1
        have hg := hg.2
        rw [← c2]
        exact hc C c1 ls st w (aiEnt_ok hg.1 hr) (aiLess_ok hl0 hf0 hr.2.1 hr.2.2.2 hg.2) hp hk
      · exact ih _ _ hg
-- ===== the measure as one number =====
def mjPk : List Int → Nat
  | [] => 0
  | a :: as => a.toNat * 1099511627776 ^ as.length + mjPk as
theorem mjPk_lt : ∀ {l : List Int}, (∀ a ∈ l, 0 ≤ a ∧ a < 1099511627776) → mjPk l < 1099511627776 ^ l.length
  | [], _ => Nat.one_pos
  | a :: as, h => by
    have h1 := mjPk_lt (fun b hb => h b (List.mem_cons_of_mem _ hb))
    have h2 := h a List.mem_cons_self
    show a.toNat * 1099511627776 ^ as.length + mjPk as < 1099511627776 ^ (as.length + 1)
    have h3 : a.toNat + 1 ≤ 1099511627776 := by omega
    have h4 := Nat.mul_le_mul_right (1099511627776 ^ as.length) h3
    rw [Nat.add_mul, Nat.one_mul] at h4
    rw [Nat.pow_succ, Nat.mul_comm (1099511627776 ^ as.length)]
    omega
theorem mjPk_lex : ∀ {l k : List Int}, (∀ a ∈ l, 0 ≤ a ∧ a < 1099511627776) → (∀ a ∈ k, 0 ≤ a ∧ a < 1099511627776) → l.length = k.length → mjLex l k → mjPk l < mjPk k
  | [], _, _, _, _, h => by cases h
  | _ :: _, [], _, _, _, h => by cases h
  | a :: as, b :: bs, h1, h2, h3, h => by
    have e : as.length = bs.length := by rw [List.length_cons, List.length_cons] at h3; omega
    have a0 := h1 a List.mem_cons_self
    have b0 := h2 b List.mem_cons_self
    have h4 := mjPk_lt (fun c hc => h1 c (List.mem_cons_of_mem _ hc))
    show a.toNat * 1099511627776 ^ as.length + mjPk as < b.toNat * 1099511627776 ^ bs.length + mjPk bs
    rw [← e]
    rcases h with h | ⟨h, h'⟩
    · have h5 : a.toNat + 1 ≤ b.toNat := by omega
      have h6 := Nat.mul_le_mul_right (1099511627776 ^ as.length) h5
      rw [Nat.add_mul, Nat.one_mul] at h6
      omega
    · subst h
      have := mjPk_lex (fun c hc => h1 c (List.mem_cons_of_mem _ hc)) (fun c hc => h2 c (List.mem_cons_of_mem _ hc)) e h'
      omega
-- ===== the entry =====
def aiEncQ : List MjQ → List MjQ
  | [] => []
  | p :: ps => bif Nat.beq p.1 1 then p :: (9, 0, 0, 0, 0) :: aiEncQ ps else p :: aiEncQ ps
def aiRq (p : MjQ) : Bool := aiCat p || Nat.beq p.1 1
theorem aiEncQ_ok : ∀ {as : List Value} {ps : List MjQ}, mjArgs S as ps → ps.all aiRq = true → (mjEnc as).length = (aiEncQ ps).length ∧ ∀ (i : Nat) (p : MjQ), (aiEncQ ps)[i]? = some p → if p.1 = 9 then mjLoc (mjEnc as) i = none else ∃ v, mjLoc (mjEnc as) i = some v ∧ mjDn S v p
  | [], [], _, _ => ⟨rfl, fun i p h => by cases h⟩
  | [], _ :: _, h, _ => by cases h
  | _ :: _, [], h, _ => by cases h
  | v :: as, p :: ps, h, hq => by
    rw [List.all_cons, Bool.and_eq_true] at hq
    obtain ⟨h1, h2⟩ := aiEncQ_ok h.2 hq.2
    have hd := h.1
    unfold aiEncQ
    have hE : mjEnc (v :: as) = (if v.category = 2 then [some v, none] else [some v]) ++ mjEnc as := rfl
    rw [hE]
    cases e : Nat.beq p.1 1 with
    | true =>
      have e1 := Nat.eq_of_beq_eq_true e
      have hd2 := hd
      unfold mjDn at hd2
      rw [e1] at hd2
      obtain ⟨x, rfl⟩ := hd2
      rw [cond_true, if_pos (show (Value.long x).category = 2 from rfl)]
      refine ⟨by simp only [List.cons_append, List.nil_append, List.length_cons, h1], fun i p' hp => ?_⟩
      cases i with
      | zero =>
        cases hp
        rw [if_neg (by omega)]
        exact ⟨_, rfl, hd⟩
      | succ i => cases i with
        | zero => cases hp; rw [if_pos rfl]; rfl
        | succ i => exact h2 i p' hp
    | false =>
      have hc : aiCat p = true := by
        have := hq.1
        unfold aiRq at this
        rw [e, Bool.or_false] at this
        exact this
      have hcat := aiCat_ok hc hd
      rw [cond_false, if_neg (by omega)]
      refine ⟨by simp only [List.cons_append, List.nil_append, List.length_cons, h1], fun i p' hp => ?_⟩
      cases i with
      | zero =>
        cases hp
        rw [if_neg (fun e9 => by unfold aiCat at hc; rw [e9] at hc; cases hc)]
        exact ⟨_, rfl, hd⟩
      | succ i => exact h2 i p' hp
def aiEntL (mL : Nat) (req : List MjQ) : List MjQ := aiEncQ req ++ List.replicate (mL - (aiEncQ req).length) (9, 0, 0, 0, 0)
theorem aiEntL_ok {mL : Nat} {as : List Value} {req : List MjQ} {F : List MjFa} (hI : mjInv S J w) (ha : mjArgs S as req) (hq : req.all aiRq = true) (hf : mjFs0 S w F) : mjRlC S J (mjEntry mL as) [] w (aiEntL mL req, [], F) := by
  obtain ⟨h1, h2⟩ := aiEncQ_ok ha hq
  refine ⟨hI, ⟨?_, fun i p hp => ?_⟩, trivial, hf⟩
  · show (mjEntry mL as).length = (aiEntL mL req).length
    unfold mjEntry aiEntL
    rw [List.length_append, List.length_append, List.length_replicate, List.length_replicate, h1]
  · have hp2 : (aiEntL mL req)[i]? = some p := hp
    unfold aiEntL at hp2
    by_cases hi : i < (aiEncQ req).length
    · rw [List.getElem?_append_left hi] at hp2
      have h3 := h2 i p hp2
      have e : mjLoc (mjEntry mL as) i = mjLoc (mjEnc as) i := by
        unfold mjLoc mjEntry
        rw [List.getElem?_append_left (by omega)]
      rw [e]
      split
      · rename_i h9
        rw [if_pos h9] at h3
        intro v hv
        rw [h3] at hv; cases hv
      · rename_i h9
        rw [if_neg h9] at h3
        exact h3
    · rw [List.getElem?_append_right (by omega), List.getElem?_replicate] at hp2
      split at hp2
      · cases hp2
        rw [if_pos rfl]
        intro v hv
        unfold mjLoc mjEntry at hv
        rw [List.getElem?_append_right (by omega), List.getElem?_replicate] at hv
        split at hv
        · rename_i v' e
          split at e <;> cases e
        · cases hv
      · cases hp2
def aiPrOk (req : List MjQ) (i : Nat) : Bool := Nat.blt i req.length && (req.take (i + 1)).all aiCat
theorem aiPrOk_ok : ∀ {i : Nat} {as : List Value} {req : List MjQ}, mjArgs S as req → aiPrOk req i = true → ∃ v, as[i]? = some v ∧ (mjEnc as)[i]? = some (some v)
  | _, [], [], _, h => by unfold aiPrOk at h; cases h
  | _, [], _ :: _, h, _ => by cases h
  | _, _ :: _, [], h, _ => by cases h
  | i, v :: as, p :: ps, h, hq => by
    unfold aiPrOk at hq
    rw [Bool.and_eq_true, List.take_succ_cons, List.all_cons, Bool.and_eq_true] at hq
    have hcat := aiCat_ok hq.2.1 h.1
    have hE : mjEnc (v :: as) = (if v.category = 2 then [some v, none] else [some v]) ++ mjEnc as := rfl
    rw [hE, if_neg (by omega)]
    cases i with
    | zero => exact ⟨v, rfl, rfl⟩
    | succ i =>
      obtain ⟨u, h1, h2⟩ := aiPrOk_ok (i := i) h.2 (by
        unfold aiPrOk
        rw [Bool.and_eq_true]
        refine ⟨?_, hq.2.2⟩
        have := Nat.le_of_ble_eq_true hq.1
        rw [List.length_cons] at this
        exact Nat.ble_eq_true_of_le (by omega))
      exact ⟨u, h1, h2⟩
-- ===== a method =====
def aiM0 : List (Nat × Nat × Int) := [(0, 0, 100000)]
noncomputable def aiOk (S : MjSp) (U : MjU) (env : List (Nat × MjSm)) (y : Nat) (sm : MjSm) (pr : List Nat) (sp : Nat) (cuts : List MjCut) (n : Nat) : Bool := match mjMt y with
  | none => false
  | some M => (sm.1.all aiRq && (pr.all (aiPrOk sm.1) && Nat.ble (aiEntL M.2.2.1 sm.1).length 60)) && (aiRun S U env sm pr sp M.2.2.2.1 cuts (aiBegin (aiEntL M.2.2.1 sm.1, [], sm.2.1)) sm.2.1 aiM0 (mjTb y) n 0 (aiBegin (aiEntL M.2.2.1 sm.1, [], sm.2.1)) && cuts.all (fun C => (Nat.beq C.2.2.length 8 && (C.2.2.all (aiMuOk1 C.2.1) && Nat.ble C.2.1.1.length 60)) && aiRun S U env sm pr sp M.2.2.2.1 cuts (aiBegin C.2.1) C.2.1.2.2 C.2.2 (mjTb y) n C.1 (aiBegin C.2.1)))
theorem aiOk_ctr (hU : mjUok S U J) {env : List (Nat × MjSm)} (henv : ∀ e ∈ env, mjCtr S J e.1 e.2) {sm : MjSm} {pr : List Nat} {sp : Nat} {cuts : List MjCut} {n : Nat} (h : aiOk S U env y sm pr sp cuts n = true) : mjCtr S J y sm := by
  intro sc w0 as M hI ha hf hM
  unfold aiOk at h
  rw [hM] at h
  simp only [Bool.and_eq_true] at h
  obtain ⟨⟨h1, h2, h3⟩, h4, h5⟩ := h
  have hpr : ∀ i ∈ pr, ∃ v, as[i]? = some v ∧ (mjEntry M.2.2.1 as)[i]? = some (some v) := by
    intro i hi
    obtain ⟨v, e1, e2⟩ := aiPrOk_ok ha (List.all_eq_true.mp h2 i hi)
    refine ⟨v, e1, ?_⟩
    unfold mjEntry
    rw [List.getElem?_append_left (List.getElem?_eq_some_iff.mp e2).1]
    exact e2
  have hmu : ∀ C ∈ cuts, ∀ (ls : MjL) (st : List Value) (w : MjW), mjRlC S J ls st w C.2.1 → (C.2.2.map (mjMu ls w C.2.1.2.2)).length = 8 ∧ ∀ a ∈ C.2.2.map (mjMu ls w C.2.1.2.2), 0 ≤ a ∧ a < 1099511627776 := by
    intro C hC ls st w hr
    have h6 := List.all_eq_true.mp h5 C hC
    simp only [Bool.and_eq_true] at h6
    refine ⟨by rw [List.length_map]; exact Nat.eq_of_beq_eq_true h6.1.1, fun a ha2 => ?_⟩
    obtain ⟨m, m1, rfl⟩ := List.mem_map.mp ha2
    exact aiMuOk1_ok (List.all_eq_true.mp h6.1.2.1 m m1) hr
  have key : ∀ (N : Nat), ∀ C ∈ cuts, ∀ (ls : MjL) (st : List Value) (w : MjW), mjRlC S J ls st w C.2.1 → mjPk (C.2.2.map (mjMu ls w C.2.1.2.2)) < N → (∀ i ∈ pr, ls[i]? = (mjEntry M.2.2.1 as)[i]?) → mjKp S sm.2.2.2.1 w0 w → mjGo mjTb mjMt sc sm.2.2.2.2 y (C.1, ls, st, w) (mjPost S J sm as w0) := by
    intro N
    induction N with
    | zero => intro C _ ls st w _ hN; exact absurd hN (Nat.not_lt_zero _)
    | succ N ih =>
      intro C hC ls st w hr hN hp hk
      have h6 := List.all_eq_true.mp h5 C hC
      simp only [Bool.and_eq_true] at h6
      have hb := aiBegin_ok (Nat.le_of_ble_eq_true h6.1.2.2) hr
      refine aiRun_ok hU henv hpr hM hb.2.1 hb.2.2.2 ?_ n C.1 _ h6.2 ls st w hb hp hk
      intro D hD ls1 st1 w1 hr1 hlex hp1 hk1
      obtain ⟨a1, a2⟩ := hmu C hC ls st w hr
      obtain ⟨b1, b2⟩ := hmu D hD ls1 st1 w1 hr1
      have := mjPk_lex b2 a2 (by omega) hlex
      exact ih D hD ls1 st1 w1 hr1 (by omega) hp1 hk1
  have he := aiEntL_ok (mL := M.2.2.1) hI ha h1 hf
  have hb := aiBegin_ok (Nat.le_of_ble_eq_true h3) he
  exact aiRun_ok hU henv hpr hM hb.2.1 hb.2.2.2 (fun D hD ls1 st1 w1 hr1 _ hp1 hk1 => key _ D hD ls1 st1 w1 hr1 (Nat.lt_succ_self _) hp1 hk1) n 0 _ h4 _ _ _ hb (fun _ _ => rfl) mjKp.refl
end AiR
