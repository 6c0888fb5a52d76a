section AiO
variable {S : MjSp} {U : MjU} {J : MjW → Prop} {τ : Nat → Int} {ls : MjL} {st : List Value} {w : MjW} {mods : List (Nat × Nat)} {sc : List Int32} {y pc d len : Nat} {M : MjM} {ins : Instr} {inf : List Nat} {P : Option Value → MjW → Prop}
theorem aiArgs_ok {K As R : List MjQ} {y1 : Nat} (hI : mjInv S J w) (h : aiArgs S ins inf K = some (y1, As, R)) (hk : mjSk S ls w st K) : ∃ as rest, mjC ins inf st w = some (y1, as, rest) ∧ mjSk S ls w as As ∧ mjSk S ls w rest R := by
  have hlen := (mjCat_le hk).2
  unfold aiArgs at h
  split at h
  · split at h
    · rename_i y0 n ci tl
      have hkd := mjSk_drop n hk
      split at h
      · rename_i p R0 hdrop
        rw [hdrop] at hkd
        obtain ⟨v, rest, hst, hd, hp, hk2⟩ := hkd.uncons
        split at h
        · rename_i hc
          obtain ⟨c1, c2, c3⟩ := hc
          cases h
          have hcat := (mjCat_le hk2).1
          have hn : n ≤ st.length := by rw [hlen]; exact c1
          rcases c3 with ⟨c3, c4, c5, c6⟩ | ⟨c3, c4, c5, c6⟩
          · obtain ⟨a, rfl, ha, -⟩ := aiIsR_ok c3 hd
            obtain ⟨vs, g1, -, -⟩ := hI.at ha c4
            refine ⟨.ref a :: (st.take n).reverse, rest, ?_, ⟨⟨hd, hp⟩, mjSk_rev (mjSk_take n hk)⟩, hk2⟩
            simp only [mjC, hst, g1]
            rw [if_pos ⟨c5, by rw [c5]; exact c6, hn, by omega⟩]
          · unfold mjDn at hd
            rw [c3] at hd
            obtain ⟨k, rfl, hkk⟩ := hd
            refine ⟨.retAddr k :: (st.take n).reverse, rest, ?_, ⟨⟨?_, hp⟩, mjSk_rev (mjSk_take n hk)⟩, hk2⟩
            · simp only [mjC, hst]
              rw [if_pos ⟨c6, by omega, hn, by omega⟩]
            · unfold mjDn; rw [c3]; exact ⟨k, rfl, hkk⟩
        · cases h
      · cases h
    · cases h
  · split at h
    · rename_i y0 n tl
      split at h
      · rename_i hc
        cases h
        have hkd := mjSk_drop n hk
        have hcat := (mjCat_le hkd).1
        refine ⟨(st.take n).reverse, st.drop n, ?_, mjSk_rev (mjSk_take n hk), hkd⟩
        simp only [mjC]
        rw [if_pos ⟨by rw [hlen]; exact hc.1, by omega⟩]
      · cases h
    · cases h
  · cases h
theorem aiAfter_ok {sm : MjSm} {As R : List MjQ} {A : MjSt} {o : MjOut} {as rest : List Value} {r : Option Value} {w1 : MjW} (hr : mjRl S J τ ls st w A) (hI1 : mjInv S J w1) (hkp : mjKp S sm.2.2.2.1 w w1) (hs : mjSk S ls w as As) (hrest : mjSk S ls w rest R) (hrs : mjRs S r o.1) (href : ∀ q ∈ o.2.1, ∃ x : Int32, as[q.1]? = some (.int x) ∧ mjB x q.2.1 q.2.2) (hfs : mjFs0 S w1 o.2.2) : mjRl S J τ ls (r.toList ++ rest) w1 (aiAfter S sm As R A o) := by
  obtain ⟨hI, hl, hk, hf⟩ := hr
  refine aiRefs_ok (aiDropKs_ok hkp hs) _ _ ⟨hI1, hl, ?_, ?_⟩ href
  · have h2 := aiDropKs_ok hkp hrest
    unfold mjRs at hrs
    show mjSk S ls w1 (r.toList ++ rest) (if o.1.1 = 7 then aiDropKs S sm.2.2.2.1 R else (o.1.1, o.1.2.1, o.1.2.2.1, 0, 0) :: aiDropKs S sm.2.2.2.1 R)
    split
    · rename_i h7
      rw [if_pos h7] at hrs
      rw [hrs]
      exact h2
    · rename_i h7
      rw [if_neg h7] at hrs
      obtain ⟨v, rfl, hv⟩ := hrs
      exact mjSk.cons hv (Or.inl rfl) h2
  · intro q hq
    rcases List.mem_append.mp hq with e | e
    · obtain ⟨f, hf1, rfl⟩ := List.mem_map.mp e
      obtain ⟨v, h1, h2⟩ := hfs f hf1
      exact ⟨v, h1, h2, Or.inl rfl⟩
    · obtain ⟨e1, e2⟩ := List.mem_filter.mp e
      obtain ⟨v, h1, h2⟩ := hf q e1
      exact ⟨v, by rw [hkp.2 _ _ (by simpa using e2)]; exact h1, h2⟩
theorem aiFeas_ok {As : List MjQ} {as : List Value} {o : MjOut} (hs : mjSk S ls w as As) (href : ∀ q ∈ o.2.1, ∃ x : Int32, as[q.1]? = some (.int x) ∧ mjB x q.2.1 q.2.2) : aiFeas As o = true := by
  unfold aiFeas
  refine List.all_eq_true.mpr (fun q hq => ?_)
  obtain ⟨x, hx, hb⟩ := href q hq
  have key : ∀ (as : List Value) (As : List MjQ) (i : Nat) (p : MjQ), mjSk S ls w as As → as[i]? = some (.int x) → As[i]? = some p → mjDn S (.int x) p := by
    intro as
    induction as with
    | nil => intro As i p _ h1 _; cases h1
    | cons v as ih =>
      intro As i p h0 h1 h2
      cases As with
      | nil => cases h2
      | cons p' As =>
        cases i with
        | zero => cases h1; cases h2; exact h0.1.1
        | succ i => exact ih As i p h0.2 h1 h2
  split
  · rename_i p hp
    have hd := key as As q.1 p hs hx hp
    rw [Bool.not_eq_true', Bool.and_eq_false_iff]
    cases e : Nat.beq p.1 0 with
    | false => exact Or.inl rfl
    | true =>
      right
      unfold mjDn at hd
      rw [Nat.eq_of_beq_eq_true e] at hd
      obtain ⟨z, ez, hz⟩ := hd
      cases ez
      have a1 := hz.1; have a2 := hz.2; have b1 := hb.1; have b2 := hb.2
      rw [Bool.or_eq_false_iff, decide_eq_false_iff_not, decide_eq_false_iff_not]
      omega
  · rfl
theorem aiCall_ok {env : List (Nat × MjSm)} (henv : ∀ e ∈ env, mjCtr S J e.1 e.2) {A : MjSt} {Bs : List MjSt} (hM : mjMt y = some M) (hq : mjTb y pc = some (ins, len, 6, inf)) (h : aiCall S env mods d ins inf A = some Bs) (hr : mjRl S J τ ls st w A) (kk : ∀ B ∈ Bs, ∀ (st1 : List Value) (w1 : MjW), mjRl S J τ ls st1 w1 B → mjKp S mods w w1 → mjGo mjTb mjMt sc d y (pc + 3, ls, st1, w1) P) : mjGo mjTb mjMt sc d y (pc, ls, st, w) P := by
  unfold aiCall at h
  split at h
  · rename_i q hqa
    obtain ⟨y1, As, R⟩ := q
    obtain ⟨as, rest, hC, hs, hrest⟩ := aiArgs_ok hr.1 hqa hr.2.2.1
    split at h
    · rename_i sm hpick
      obtain ⟨p1, p2, p3⟩ := aiPick_ok hpick
      split at h
      · rename_i M1 hM1
        split at h
        · rename_i hc
          obtain ⟨c1, c2, c3, c4⟩ := hc
          cases h
          cases d with
          | zero => omega
          | succ d1 =>
            have hl1 : (mjEnc as).length ≤ M1.2.2.1 := Nat.le_trans mjEnc_len (Nat.le_trans (mjCat_le hs).1 c3)
            refine g_call hM hq hC hM1 hl1 c4 rfl (Nat.le_of_lt_succ c1) (henv _ p1 sc w as M1 hr.1 (mjSk_args hs p2) (fun f hf => aiHas_ok hr.1 hr.2.2.2 (List.all_eq_true.mp p3 f hf)) hM1) (fun r w1 hpost => ?_)
            obtain ⟨hI1, hkp, o, ho, hrs, href, hfs⟩ := hpost
            exact kk _ (List.mem_map.mpr ⟨o, List.mem_filter.mpr ⟨ho, aiFeas_ok hs href⟩, rfl⟩) _ _ (aiAfter_ok hr hI1 hkp hs hrest hrs href hfs) (aiModsIn_ok c2 hkp)
        · cases h
      · cases h
    · cases h
  · cases h
theorem aiPr_ok {K K1 : List MjQ} (h : aiPr ins inf K = some K1) (hk : mjSk S ls w st K) : ∃ st1, mjPr ins inf st w = some (st1, w) ∧ mjSk S ls w st1 K1 := by
  unfold aiPr at h
  split at h
  · split at h
    · split at h
      · split at h
        · rename_i a b l1 c d l2 R hc
          cases h
          obtain ⟨v1, s1, rfl, ⟨z, rfl, hz⟩, -, hk2⟩ := hk.uncons
          obtain ⟨v2, s2, rfl, ⟨x, rfl, hx⟩, -, hk3⟩ := hk2.uncons
          have hcat := (mjCat_le hk3).1
          refine ⟨.int (if x < z then z else x) :: s2, by simp only [mjPr]; rw [if_pos (by omega)], mjSk.cons ⟨_, rfl, ?_⟩ (Or.inl rfl) hk3⟩
          have x1 := hx.1; have x2 := hx.2; have z1 := hz.1; have z2 := hz.2
          simp only at x1 x2 z1 z2
          by_cases e : x < z
          · rw [if_pos e]
            have := Int32.lt_iff_toInt_lt.mp e
            unfold mjB; dsimp only
            constructor <;> split <;> omega
          · rw [if_neg e]
            have : ¬ x.toInt < z.toInt := fun q => e (Int32.lt_iff_toInt_lt.mpr q)
            unfold mjB; dsimp only
            constructor <;> split <;> omega
        · cases h
      · cases h
    · split at h
      · split at h
        · rename_i a b l1 c d l2 R hc
          cases h
          obtain ⟨v1, s1, rfl, ⟨z, rfl, hz⟩, -, hk2⟩ := hk.uncons
          obtain ⟨v2, s2, rfl, ⟨x, rfl, hx⟩, -, hk3⟩ := hk2.uncons
          have hcat := (mjCat_le hk3).1
          refine ⟨.int (if z < x then z else x) :: s2, by simp only [mjPr]; rw [if_pos (by omega)], mjSk.cons ⟨_, rfl, ?_⟩ (Or.inl rfl) hk3⟩
          have x1 := hx.1; have x2 := hx.2; have z1 := hz.1; have z2 := hz.2
          simp only at x1 x2 z1 z2
          by_cases e : z < x
          · rw [if_pos e]
            have := Int32.lt_iff_toInt_lt.mp e
            unfold mjB; dsimp only
            constructor <;> split <;> omega
          · rw [if_neg e]
            have : ¬ z.toInt < x.toInt := fun q => e (Int32.lt_iff_toInt_lt.mpr q)
            unfold mjB; dsimp only
            constructor <;> split <;> omega
        · cases h
      · cases h
    · cases h
  · cases h
theorem mjTyd.setL {w : MjW} (h : mjTyd S w) {a c : Nat} {vs us : List Value} (ha : w[a]? = some (c, vs)) (hlen : us.length = vs.length) (hv : ∀ (j : Nat) (v : Value), us[j]? = some v → mjHasT S v (S.2.2.2 (S.1 a) j)) : mjTyd S (w.set a (c, us)) := by
  intro b hb
  obtain ⟨ts, h1, h2, h3⟩ := h b hb
  have hl := (List.getElem?_eq_some_iff.mp ha).1
  by_cases e : a = b
  · subst e
    rw [ha] at h1
    cases h1
    exact ⟨us, by rw [List.getElem?_set, if_pos rfl, if_pos hl], by rw [hlen]; exact h2, hv⟩
  · exact ⟨ts, by rw [List.getElem?_set_ne e]; exact h1, h2, h3⟩
theorem mjFld_setL {w : MjW} {a c : Nat} {us : List Value} {b j : Nat} (h : a ≠ b) : mjFld (w.set a (c, us)) b j = mjFld w b j := by
  unfold mjFld; rw [List.getElem?_set_ne h]
set_option maxHeartbeats 1000000 in
theorem aiCpy_ok (hU : mjUok S U J) {A B : MjSt} (h : aiCpy S U mods ins inf A = some B) (hr : mjRl S J τ ls st w A) : ∃ st1 w1, mjPr ins inf st w = some (st1, w1) ∧ mjRl S J τ ls st1 w1 B ∧ mjKp S mods w w1 := by
  obtain ⟨hI, hl, hk, hf⟩ := hr
  unfold aiCpy at h
  split at h
  · split at h
    · split at h
      · rename_i n dp p1 sp p0 R hK
        rw [hK] at hk
        split at h
        · rename_i hc
          obtain ⟨c1, c2, c3, c4, c5, c6, ⟨n1, n2, n3⟩, ⟨d1, d2, d3⟩, ⟨s1, s2, s3⟩, c7, c8, c9, c10, c11, c12, c13, c14, c15⟩ := hc
          cases h
          obtain ⟨v1, t1, rfl, e1, -, hk1⟩ := hk.uncons
          obtain ⟨v2, t2, rfl, e2, -, hk2⟩ := hk1.uncons
          obtain ⟨v3, t3, rfl, e3, -, hk3⟩ := hk2.uncons
          obtain ⟨v4, t4, rfl, e4, -, hk4⟩ := hk3.uncons
          obtain ⟨v5, t5, rfl, e5, -, hk5⟩ := hk4.uncons
          obtain ⟨a1, rfl, ha1, ha13⟩ := aiIsR_ok c1 e3
          obtain ⟨a0, rfl, ha0, -⟩ := aiIsR_ok c2 e5
          unfold mjDn at e1 e2 e4
          rw [n1] at e1; rw [d1] at e2; rw [s1] at e4
          obtain ⟨nn, rfl, hn⟩ := e1
          obtain ⟨dd, rfl, hd⟩ := e2
          obtain ⟨ss, rfl, hs⟩ := e4
          obtain ⟨vs1, g1, g2, g3⟩ := hI.at ha1 c3
          obtain ⟨vs0, k1, k2, k3⟩ := hI.at ha0 c4
          rw [c5] at g1
          rw [c6] at k1
          obtain ⟨i0, -, i2⟩ := mj_ix (n := S.2.2.1 (aiRole S p0) + 1) hn n2 (by omega)
          rw [d2, d3] at hd
          rw [s2, s3] at hs
          have ed : dd = 0 := hd.isc rfl
          have es : ss = 0 := hs.isc rfl
          subst ed; subst es
          have z0 : (0 : Int32).toNatClampNeg = 0 := rfl
          have hn1 := hn.1; have hn2 := hn.2
          have l0 : (0 : Int32).toNatClampNeg + nn.toNatClampNeg ≤ vs0.length := by rw [z0, k2]; omega
          have l1 : (0 : Int32).toNatClampNeg + nn.toNatClampNeg ≤ vs1.length := by rw [z0, g2]; omega
          have hall : vs0.all mjIsI = true := by
            refine List.all_eq_true.mpr (fun v hv => ?_)
            obtain ⟨j, hj⟩ := List.getElem?_of_mem hv
            have := k3 j v hj
            rw [hU.1 _ j c9] at this
            unfold mjHasT at this
            rw [c11] at this
            obtain ⟨x, rfl, -⟩ := this
            rfl
          have hcat := (mjCat_le hk5).1
          have hlen := mjCpy_len l0 l1
          have hoff : ∀ b i, ¬ (S.1 b = aiRole S p1 ∧ (255 = 255 ∨ i = 255)) → mjFld (w.set a1 (100, mjCpy vs0 vs1 (0 : Int32).toNatClampNeg (0 : Int32).toNatClampNeg nn.toNatClampNeg)) b i = mjFld w b i := fun b i hb => mjFld_setL (fun e => hb ⟨by rw [← e]; exact ha1, Or.inl rfl⟩)
          have hcpf : ∀ q ∈ aiCpF S mods p1 p0 n, ∃ v, mjFld (w.set a1 (100, mjCpy vs0 vs1 (0 : Int32).toNatClampNeg (0 : Int32).toNatClampNeg nn.toNatClampNeg)) q.1 q.2.1 = some v ∧ mjDn S v q.2.2 ∧ mjSy τ v q.2.2 := by
            intro q hq
            unfold aiCpF at hq
            split at hq
            · rename_i hcc
              obtain ⟨j, hj, rfl⟩ := List.mem_map.mp hq
              have hj := List.mem_range.mp hj
              have hjn : j < nn.toNatClampNeg := by omega
              have ea := ha13 hcc.2.1
              have lt : (vs0.take nn.toNatClampNeg).length = nn.toNatClampNeg := by rw [List.length_take]; rw [z0] at l0; omega
              have hj0 : j < vs0.length := by rw [z0] at l0; omega
              have hv0 : vs0[j]? = some vs0[j] := List.getElem?_eq_getElem hj0
              have hla := (List.getElem?_eq_some_iff.mp g1).1
              refine ⟨vs0[j], ?_, ?_, Or.inl rfl⟩
              · show mjFld _ p1.2.1.toNat j = _
                rw [← ea]
                unfold mjFld
                rw [List.getElem?_set, if_pos rfl, if_pos hla]
                simp only
                unfold mjCpy
                rw [z0, List.take_zero, List.nil_append, List.drop_zero, List.getElem?_append_left (by omega), List.getElem?_take_of_lt hjn]
                exact hv0
              · have := k3 j _ hv0
                rw [hU.1 _ j c9] at this
                unfold mjHasT at this
                rw [c11] at this
                exact this
            · cases hq
          refine ⟨t5, w.set a1 (100, mjCpy vs0 vs1 (0 : Int32).toNatClampNeg (0 : Int32).toNatClampNeg nn.toNatClampNeg), ?_, ⟨⟨mjTyd.setL hI.1 g1 hlen (fun j v hj => ?_), hU.2.2.2 w a1 _ _ _ g1 hlen (by rw [ha1]; exact c15) hI.2⟩, hl, aiDropK_ok hoff hk5, fun q hq => (List.mem_append.mp hq).elim (hcpf q) (aiDropR_ok hoff hf q)⟩, mjShp_set g1 hlen, fun b j hb => mjFld_setL (fun e => ?_)⟩
          · simp only [mjPr, k1, g1]
            rw [if_pos ⟨trivial, trivial, by decide, by decide, i0, l0, l1, hall, by omega⟩]
          · rw [ha1]
            rw [z0] at hj
            unfold mjCpy at hj
            rw [List.take_zero, List.nil_append, List.drop_zero, Nat.zero_add] at hj
            have lt : (vs0.take nn.toNatClampNeg).length = nn.toNatClampNeg := by rw [List.length_take]; rw [z0] at l0; omega
            by_cases hjn : j < nn.toNatClampNeg
            · rw [List.getElem?_append_left (by omega), List.getElem?_take_of_lt hjn] at hj
              have := k3 j v hj
              rw [hU.1 _ j c9] at this
              rw [hU.1 _ j c10]
              exact aiTyLe_ok c12 this
            · rw [List.getElem?_append_right (by omega), List.getElem?_drop, lt, show nn.toNatClampNeg + (j - nn.toNatClampNeg) = j by omega] at hj
              exact g3 j v hj
          · rw [← e, ha1] at hb
            unfold aiMod at c13 hb
            obtain ⟨m, hm1, hm2⟩ := List.any_eq_true.mp c13
            have := List.any_eq_false.mp hb m hm1
            simp only [Bool.and_eq_true, Bool.or_eq_true] at hm2 this
            exact this ⟨hm2.1, Or.inl (hm2.2.elim id id)⟩
        · cases h
      · cases h
    · cases h
  · cases h
theorem aiPu_ok {p : MjQ} {n : Nat} (h : aiPu ins inf = some (p, n)) : ∃ v, mjPu ins inf = some (v, n) ∧ mjDn S v p ∧ p.2.2.2.1 = 0 := by
  unfold aiPu at h
  split at h
  · rename_i z n2 hz
    cases h
    exact ⟨_, hz, ⟨z, rfl, Int.le_refl _, Int.le_refl _⟩, rfl⟩
  · rename_i z n2 hz
    cases h
    exact ⟨_, hz, ⟨z, rfl⟩, rfl⟩
  · rename_i z n2 hz
    cases h
    exact ⟨_, hz, ⟨z, rfl, rfl⟩, rfl⟩
  · cases h
theorem aiRetT_ok {rt : Option FieldType} {K : List MjQ} {p : MjQ} (h : aiRetT rt ins K = some p) (hk : mjSk S ls w st K) : ∃ r, mjRt ins rt st = some r ∧ mjRs S r p ∧ (p.1 = 7 ↔ r = none) := by
  unfold aiRetT at h
  split at h
  · split at h
    · split at h
      · rename_i hc
        cases h
        obtain ⟨v, s1, rfl, hd, -, hk2⟩ := hk.uncons
        cases s1 with
        | cons _ _ => cases hk2
        | nil =>
          have hd2 := hd
          unfold mjDn at hd
          rw [hc.1] at hd
          obtain ⟨x, rfl, hx⟩ := hd
          refine ⟨some (.int x), ?_, ?_, ⟨fun e => by omega, fun e => by cases e⟩⟩
          · rcases hc.2 with e | ⟨e, h0, h1⟩ | ⟨e, h0, h1⟩
            · rw [e]; simp [mjRt, narrow]
            · rw [e]
              have x1 := hx.1; have x2 := hx.2
              have : x = 0 ∨ x = 1 := by
                have e : x.toInt = 0 ∨ x.toInt = 1 := by omega
                rcases e with e | e
                · exact Or.inl (Int32.toInt_inj.mp (by rw [e]; rfl))
                · exact Or.inr (Int32.toInt_inj.mp (by rw [e]; rfl))
              rcases this with rfl | rfl <;> rfl
            · rw [e]
              have x1 := hx.1; have x2 := hx.2
              have : x = 0 := Int32.toInt_inj.mp (by show x.toInt = 0; omega)
              subst this; rfl
          · unfold mjRs; rw [if_neg (by omega)]; exact ⟨_, rfl, hd2⟩
      · cases h
    · cases h
  · split at h
    · split at h
      · rename_i hc
        cases h
        obtain ⟨v, s1, rfl, hd, -, hk2⟩ := hk.uncons
        cases s1 with
        | cons _ _ => cases hk2
        | nil =>
          have hd2 := hd
          unfold mjDn at hd
          rw [hc.1] at hd
          obtain ⟨x, rfl⟩ := hd
          refine ⟨some (.long x), ?_, ?_, ⟨fun e => by omega, fun e => by cases e⟩⟩
          · rw [hc.2]; rfl
          · unfold mjRs; rw [if_neg (by omega)]; exact ⟨_, rfl, hd2⟩
      · cases h
    · cases h
  · split at h
    · split at h
      · rename_i hc
        cases h
        obtain ⟨v, s1, rfl, hd, -, hk2⟩ := hk.uncons
        cases s1 with
        | cons _ _ => cases hk2
        | nil =>
          have hv : ∃ a, v = .ref a := by
            unfold mjDn at hd
            rcases hc.1 with e | e <;> rw [e] at hd <;> (obtain ⟨a, rfl, -⟩ := hd; exact ⟨a, rfl⟩)
          obtain ⟨a, rfl⟩ := hv
          refine ⟨some (.ref a), ?_, ?_, ⟨fun e => by omega, fun e => by cases e⟩⟩
          · have h2 := hc.2
            unfold aiObj at h2
            split at h2
            · rfl
            · cases h2
          · unfold mjRs; rw [if_neg (by omega)]; exact ⟨_, rfl, hd⟩
      · cases h
    · cases h
  · split at h
    · split at h
      · rename_i hc
        cases h
        cases st with
        | cons _ _ => cases hk
        | nil =>
          refine ⟨none, ?_, ?_, ⟨fun _ => rfl, fun _ => rfl⟩⟩
          · rw [hc]; rfl
          · unfold mjRs; rw [if_pos rfl]
      · cases h
    · cases h
  · cases h
end AiO
