section AiS
variable {S : MjSp} {J : MjW → Prop} {τ : Nat → Int} {ls : MjL} {st : List Value} {w : MjW}
theorem mjSk.uncons {p : MjQ} {K : List MjQ} (h : mjSk S ls w st (p :: K)) : ∃ v st', st = v :: st' ∧ mjDn S v p ∧ mjPv ls w v p ∧ mjSk S ls w st' K := by
  cases st with
  | nil => cases h
  | cons v st' => exact ⟨v, st', rfl, h.1.1, h.1.2, h.2⟩
theorem mjSk.cons {v : Value} {p : MjQ} {K : List MjQ} (h1 : mjDn S v p) (h2 : mjPv ls w v p) (h : mjSk S ls w st K) : mjSk S ls w (v :: st) (p :: K) := ⟨⟨h1, h2⟩, h⟩
theorem mjPv.no {v : Value} {t : Nat} {a b o : Int} : mjPv ls w v (t, a, b, 0, o) := Or.inl rfl
theorem aiCat_ok {v : Value} {p : MjQ} (h : aiCat p = true) (hd : mjDn S v p) : v.category = 1 := by
  unfold aiCat at h
  simp only [Bool.or_eq_true, Nat.beq_eq] at h
  unfold mjDn at hd
  rcases h with h | h | h | h <;> rw [h] at hd
  · obtain ⟨x, rfl, -⟩ := hd; rfl
  · obtain ⟨x, rfl, -⟩ := hd; rfl
  · obtain ⟨x, rfl, -⟩ := hd; rfl
  · obtain ⟨x, rfl, -⟩ := hd; rfl
theorem mj_lgcmp (x y : Int64) : mjB (lg_cmp x y) (-1) 1 := by
  unfold lg_cmp
  repeat' split
  all_goals exact ⟨by decide, by decide⟩
theorem mj_i2b (x : Int32) : mjB x.toInt8.toInt32 (-128) 127 := by
  have e : x.toInt8.toInt32.toInt = x.toInt8.toInt := Int8.toInt_toInt32 _
  have h1 := Int8.minValue_le_toInt x.toInt8
  have h2 := Int8.toInt_le x.toInt8
  unfold mjB
  rw [e]
  exact ⟨Int.le_trans (by decide) h1, Int.le_trans h2 (by decide)⟩
theorem mj_i2b_id {x : Int32} (h : mjB x (-128) 127) : x.toInt8.toInt32 = x := by
  apply Int32.toInt_inj.mp
  have e : x.toInt8.toInt32.toInt = x.toInt8.toInt := Int8.toInt_toInt32 _
  rw [e, Int32.toInt_toInt8]
  have := h.1; have := h.2
  apply Int.bmod_eq_of_le
  · show -(2 ^ 8 / 2 : Int) ≤ x.toInt; omega
  · show x.toInt < (2 ^ 8 + 1) / 2; omega
theorem mj_i2c (x : Int32) : mjB (x.toUInt32 % 65536).toInt32 0 65535 := by
  rw [pk_char x]
  have h := Nat.mod_lt x.toBitVec.toNat (show 65536 > 0 by decide)
  unfold mjB
  rw [nI_toInt (by omega)]
  omega
theorem mj_i2c_id {x : Int32} (h : mjB x 0 65535) : (x.toUInt32 % 65536).toInt32 = x := by
  rw [pk_char x]
  obtain ⟨n, n1, n2, e⟩ := mj_nI h.1
  have h2 := h.2
  rw [e, pk_tn (by omega), Nat.mod_eq_of_lt (by omega)]
set_option maxHeartbeats 1000000 in
theorem aiA_ok {ins : Instr} {K K1 : List MjQ} (h : aiA ins K = some K1) (hk : mjSk S ls w st K) : ∃ st1, mjA ins st = some st1 ∧ mjSk S ls w st1 K1 := by
  unfold aiA at h
  split at h
  · rename_i n
    split at h
    · rename_i hn
      cases h
      refine ⟨_, rfl, mjSk.cons ⟨_, rfl, ?_⟩ mjPv.no hk⟩
      have : n = -1 ∨ n = 0 ∨ n = 1 ∨ n = 2 ∨ n = 3 ∨ n = 4 ∨ n = 5 := by omega
      rcases this with rfl | rfl | rfl | rfl | rfl | rfl | rfl <;> exact ⟨by decide, by decide⟩
    · cases h
  · cases h; exact ⟨_, rfl, mjSk.cons ⟨_, rfl⟩ mjPv.no hk⟩
  · split at h
    · cases h
      obtain ⟨v1, s1, rfl, ⟨x1, rfl⟩, -, hk⟩ := hk.uncons
      obtain ⟨v2, s2, rfl, ⟨x2, rfl⟩, -, hk⟩ := hk.uncons
      exact ⟨_, rfl, mjSk.cons ⟨_, rfl⟩ mjPv.no hk⟩
    · cases h
  · split at h
    · cases h
      obtain ⟨v1, s1, rfl, ⟨x1, rfl⟩, -, hk⟩ := hk.uncons
      obtain ⟨v2, s2, rfl, ⟨x2, rfl⟩, -, hk⟩ := hk.uncons
      exact ⟨_, rfl, mjSk.cons ⟨_, rfl⟩ mjPv.no hk⟩
    · cases h
  · split at h
    · cases h
      obtain ⟨v1, s1, rfl, ⟨x1, rfl⟩, -, hk⟩ := hk.uncons
      obtain ⟨v2, s2, rfl, ⟨x2, rfl⟩, -, hk⟩ := hk.uncons
      exact ⟨_, rfl, mjSk.cons ⟨_, rfl⟩ mjPv.no hk⟩
    · cases h
  · split at h
    · cases h
      obtain ⟨v1, s1, rfl, ⟨x1, rfl, -⟩, -, hk⟩ := hk.uncons
      obtain ⟨v2, s2, rfl, ⟨x2, rfl⟩, -, hk⟩ := hk.uncons
      exact ⟨_, rfl, mjSk.cons ⟨_, rfl⟩ mjPv.no hk⟩
    · cases h
  · split at h
    · cases h
      obtain ⟨v1, s1, rfl, ⟨x1, rfl⟩, -, hk⟩ := hk.uncons
      obtain ⟨v2, s2, rfl, ⟨x2, rfl⟩, -, hk⟩ := hk.uncons
      exact ⟨_, rfl, mjSk.cons ⟨_, rfl, mj_lgcmp _ _⟩ mjPv.no hk⟩
    · cases h
  · split at h
    · cases h
      obtain ⟨v1, s1, rfl, ⟨x1, rfl, -⟩, -, hk⟩ := hk.uncons
      exact ⟨_, rfl, mjSk.cons ⟨_, rfl⟩ mjPv.no hk⟩
    · cases h
  · split at h
    · rename_i lo hi l o R
      cases h
      obtain ⟨v1, s1, rfl, ⟨x1, rfl, hx⟩, hp, hk⟩ := hk.uncons
      refine ⟨_, rfl, ?_⟩
      split
      · rename_i hc
        rw [mj_i2b_id (hx.mono hc.1 hc.2)]
        exact mjSk.cons ⟨_, rfl, hx⟩ hp hk
      · exact mjSk.cons ⟨_, rfl, mj_i2b _⟩ mjPv.no hk
    · cases h
  · split at h
    · rename_i lo hi l o R
      cases h
      obtain ⟨v1, s1, rfl, ⟨x1, rfl, hx⟩, hp, hk⟩ := hk.uncons
      refine ⟨_, rfl, ?_⟩
      split
      · rename_i hc
        rw [mj_i2c_id (hx.mono hc.1 hc.2)]
        exact mjSk.cons ⟨_, rfl, hx⟩ hp hk
      · exact mjSk.cons ⟨_, rfl, mj_i2c _⟩ mjPv.no hk
    · cases h
  · split at h
    · split at h
      · rename_i hc
        cases h
        obtain ⟨v1, s1, rfl, hx, hp, hk⟩ := hk.uncons
        exact ⟨v1 :: v1 :: s1, by simp only [mjA]; rw [if_pos (aiCat_ok hc hx)], mjSk.cons hx hp (mjSk.cons hx hp hk)⟩
      · cases h
    · cases h
  · split at h
    · split at h
      · rename_i hc
        cases h
        obtain ⟨v1, s1, rfl, hx, hp, hk⟩ := hk.uncons
        exact ⟨s1, by simp only [mjA]; rw [if_pos (aiCat_ok hc hx)], hk⟩
      · cases h
    · cases h
  · split at h
    · split at h
      · rename_i hc
        cases h
        obtain ⟨v1, s1, rfl, hx, hp, hk⟩ := hk.uncons
        obtain ⟨v2, s2, rfl, hx2, hp2, hk⟩ := hk.uncons
        exact ⟨v1 :: v2 :: v1 :: v2 :: s2, by simp only [mjA]; rw [if_pos ⟨aiCat_ok hc.1 hx, aiCat_ok hc.2 hx2⟩], mjSk.cons hx hp (mjSk.cons hx2 hp2 (mjSk.cons hx hp (mjSk.cons hx2 hp2 hk)))⟩
      · cases h
    · cases h
  · split at h
    · rename_i i zq xq R
      split at h
      · rename_i r hr
        cases h
        obtain ⟨v1, s1, rfl, ⟨z, rfl, hz⟩, hpz, hk⟩ := hk.uncons
        obtain ⟨v2, s2, rfl, ⟨x, rfl, hx⟩, hpx, hk⟩ := hk.uncons
        obtain ⟨u, hu, hb⟩ := aiBin_ok (lo := r.1) (hi := r.2) hr hx hz
        refine ⟨_, hu s2, mjSk.cons ⟨u, rfl, hb⟩ ?_ hk⟩
        unfold mjPv aiLink
        simp only
        split
        · split
          · rename_i hc
            have e : u = x + z := by have := hu []; simp only [mjA] at this; cases this; rfl
            rcases hpx with hpx | ⟨x', u', e1, e2, e3⟩
            · exact Or.inl hpx
            · cases e1
              refine Or.inr ⟨u, u', rfl, e2, ?_⟩
              have a1 := hx.1; have a2 := hx.2; have a3 := hz.1; have a4 := hz.2
              simp only at a1 a2 a3 a4 hc e3 ⊢
              rw [e, mj_add (by omega) (by omega), e3]
              omega
          · exact Or.inl rfl
        · split
          · rename_i hc
            have e : u = x - z := by have := hu []; simp only [mjA] at this; cases this; rfl
            rcases hpx with hpx | ⟨x', u', e1, e2, e3⟩
            · exact Or.inl hpx
            · cases e1
              refine Or.inr ⟨u, u', rfl, e2, ?_⟩
              have a1 := hx.1; have a2 := hx.2; have a3 := hz.1; have a4 := hz.2
              simp only at a1 a2 a3 a4 hc e3 ⊢
              rw [e, mj_sub (by omega) (by omega), e3]
              omega
          · exact Or.inl rfl
        · exact Or.inl rfl
      · cases h
    · cases h
theorem mjLoc_get {i : Nat} {v : Value} (h : mjLoc ls i = some v) : ls[i]? = some (some v) := by
  unfold mjLoc at h
  split at h
  · rename_i u hu; cases h; exact hu
  · cases h
theorem aiLdG_ok {L : List MjQ} {p : MjQ} {n k m t : Nat} (h : aiLdG L k m t = some (p, n)) (hl : mjLo S τ ls L) : m = n ∧ ∃ v, ls[k]? = some (some v) ∧ mjDn S v p ∧ mjPv ls w v p ∧ (t = 0 → ∃ x, v = .int x) ∧ (t = 1 → ∃ x, v = .long x) ∧ (t = 2 → (∃ x, v = .ref x) ∨ ∃ x, v = .retAddr x ∧ x ≠ 4) := by
  unfold aiLdG at h
  split at h
  · rename_i hk60
    split at h
    · rename_i tag lo hi rest hL
      have hp := hl.2 k _ hL
      split at h
      · rename_i ht
        split at h
        · rename_i htag
          subst htag
          cases h
          rw [if_neg (show ¬ 0 = 9 by decide)] at hp
          obtain ⟨v, h1, ⟨x, rfl, hx⟩, -⟩ := hp
          refine ⟨rfl, _, mjLoc_get h1, ⟨x, rfl, hx⟩, Or.inr ⟨x, x, rfl, ?_, by simp⟩, fun _ => ⟨x, rfl⟩, fun e => by omega, fun e => by omega⟩
          unfold mjSrc
          rw [if_pos (show k + 1 < 64 by omega)]
          exact h1
        · cases h
      · split at h
        · split at h
          · rename_i htag
            subst htag
            cases h
            rw [if_neg (show ¬ 1 = 9 by decide)] at hp
            obtain ⟨v, h1, ⟨x, rfl⟩, -⟩ := hp
            exact ⟨rfl, _, mjLoc_get h1, ⟨x, rfl⟩, Or.inl rfl, fun e => by omega, fun _ => ⟨x, rfl⟩, fun e => by omega⟩
          · cases h
        · split at h
          · rename_i htag
            cases h
            rw [if_neg (by show ¬ tag = 9; omega)] at hp
            obtain ⟨v, h1, h2, -⟩ := hp
            refine ⟨rfl, _, mjLoc_get h1, ?_, Or.inl rfl, fun e => by omega, fun e => by omega, fun _ => ?_⟩
            · rcases htag with rfl | rfl | ⟨rfl, -⟩ <;> exact h2
            · rcases htag with rfl | rfl | ⟨rfl, h4⟩
              · obtain ⟨a, rfl, -⟩ := h2; exact Or.inl ⟨a, rfl⟩
              · obtain ⟨a, rfl, -⟩ := h2; exact Or.inl ⟨a, rfl⟩
              · obtain ⟨a, rfl, ha⟩ := h2
                refine Or.inr ⟨a, rfl, fun e => h4 ?_⟩
                simp only at ha
                omega
          · cases h
    · cases h
  · cases h
theorem aiLd_ok {ins : Instr} {L : List MjQ} {p : MjQ} {n : Nat} (h : aiLd ins L = some (p, n)) (hl : mjLo S τ ls L) : ∃ v, mjLd ins ls = some (v, n) ∧ mjDn S v p ∧ mjPv ls w v p := by
  unfold aiLd at h
  split at h
  · obtain ⟨rfl, v, h1, h2, h3, h4, -, -⟩ := aiLdG_ok h hl
    obtain ⟨x, rfl⟩ := h4 rfl
    exact ⟨_, by simp only [mjLd, h1], h2, h3⟩
  · obtain ⟨rfl, v, h1, h2, h3, h4, -, -⟩ := aiLdG_ok h hl
    obtain ⟨x, rfl⟩ := h4 rfl
    exact ⟨_, by simp only [mjLd, h1], h2, h3⟩
  · obtain ⟨rfl, v, h1, h2, h3, -, h4, -⟩ := aiLdG_ok h hl
    obtain ⟨x, rfl⟩ := h4 rfl
    exact ⟨_, by simp only [mjLd, h1], h2, h3⟩
  · obtain ⟨rfl, v, h1, h2, h3, -, h4, -⟩ := aiLdG_ok h hl
    obtain ⟨x, rfl⟩ := h4 rfl
    exact ⟨_, by simp only [mjLd, h1], h2, h3⟩
  · obtain ⟨rfl, v, h1, h2, h3, -, -, h4⟩ := aiLdG_ok h hl
    rcases h4 rfl with ⟨x, rfl⟩ | ⟨x, rfl, hx⟩
    · exact ⟨_, by simp only [mjLd, h1], h2, h3⟩
    · exact ⟨_, by simp only [mjLd, h1]; rw [if_neg hx], h2, h3⟩
  · obtain ⟨rfl, v, h1, h2, h3, -, -, h4⟩ := aiLdG_ok h hl
    rcases h4 rfl with ⟨x, rfl⟩ | ⟨x, rfl, hx⟩
    · exact ⟨_, by simp only [mjLd, h1], h2, h3⟩
    · exact ⟨_, by simp only [mjLd, h1]; rw [if_neg hx], h2, h3⟩
  · cases h
-- stores
theorem mjLoc_set_ne {i k : Nat} {o : Option Value} (h : k ≠ i) : mjLoc (ls.set k o) i = mjLoc ls i := by
  unfold mjLoc; rw [List.getElem?_set_ne h]
theorem mjLoc_set_eq {k : Nat} {v : Value} (h : k < ls.length) : mjLoc (ls.set k (some v)) k = some v := by
  unfold mjLoc; rw [List.getElem?_set, if_pos rfl, if_pos h]
theorem mjSrc_set_ne {l k : Nat} {o : Option Value} (h : l ≠ k + 1) (h0 : l ≠ 0) : mjSrc (ls.set k o) w l = mjSrc ls w l := by
  unfold mjSrc
  split
  · exact mjLoc_set_ne (by omega)
  · rfl
theorem mjSk_unlink {k : Nat} {o : Option Value} : ∀ {st : List Value} {K : List MjQ}, mjSk S ls w st K → mjSk S (ls.set k o) w st (aiUnlink (k + 1) K)
  | [], [], _ => trivial
  | [], _ :: _, h => h
  | _ :: _, [], h => h
  | v :: st, p :: K, h => by
    refine ⟨?_, mjSk_unlink h.2⟩
    show mjDn S v (if p.2.2.2.1 = k + 1 then (p.1, p.2.1, p.2.2.1, 0, 0) else p) ∧ mjPv (ls.set k o) w v (if p.2.2.2.1 = k + 1 then (p.1, p.2.1, p.2.2.1, 0, 0) else p)
    split
    · exact ⟨h.1.1, Or.inl rfl⟩
    · rename_i hne
      refine ⟨h.1.1, ?_⟩
      rcases h.1.2 with h2 | ⟨x, u, e1, e2, e3⟩
      · exact Or.inl h2
      · by_cases h0 : p.2.2.2.1 = 0
        · exact Or.inl h0
        · exact Or.inr ⟨x, u, e1, by rw [mjSrc_set_ne hne h0]; exact e2, e3⟩
theorem aiFind_mem {F : List MjFa} {a k : Nat} {q : MjQ} (h : aiFind F a k = some q) : (a, k, q) ∈ F := by
  induction F with
  | nil => cases h
  | cons f F ih =>
    unfold aiFind at h
    split at h
    · rename_i hc
      obtain ⟨rfl, rfl⟩ := hc
      cases h
      exact List.mem_cons_self
    · exact List.mem_cons_of_mem _ (ih h)
theorem aiStart_ok {A : MjSt} {p : MjQ} {x : Int32} (hl : mjLo S τ ls A.1) (hf : mjFs S τ w A.2.2) (hp : mjPv ls w (.int x) p) (a b : Int) : mjSy τ (.int x) (0, a, b, aiStart A p) := by
  unfold aiStart mjSy
  by_cases h0 : p.2.2.2.1 = 0
  · rw [if_pos h0]; exact Or.inl rfl
  · rw [if_neg h0]
    rcases hp with hp | ⟨x', u, e1, e2, e3⟩
    · exact absurd hp h0
    cases e1
    split
    · rename_i q hq
      split
      · rename_i hc
        have key : ∃ v, mjSrc ls w p.2.2.2.1 = some v ∧ mjSy τ v q := by
          split at hq
          · rename_i hlt
            have := hl.2 _ _ hq
            rw [if_neg (by rw [hc.1]; decide)] at this
            obtain ⟨v, h1, -, h3⟩ := this
            exact ⟨v, by unfold mjSrc; rw [if_pos hlt]; exact h1, h3⟩
          · rename_i hlt
            obtain ⟨v, h1, -, h3⟩ := hf _ (aiFind_mem hq)
            exact ⟨v, by unfold mjSrc; rw [if_neg hlt]; exact h1, h3⟩
        obtain ⟨v, k1, k2⟩ := key
        rw [e2] at k1
        cases k1
        rcases k2 with k2 | ⟨u', k3, k4⟩
        · exact absurd k2 hc.2
        · cases k3
          refine Or.inr ⟨x, rfl, ?_⟩
          show x.toInt = τ q.2.2.2.1 + (q.2.2.2.2 + p.2.2.2.2)
          omega
      · exact Or.inl rfl
    · exact Or.inl rfl
theorem aiFree_ok {L : List MjQ} (hl : mjLo S τ ls L) {k : Nat} (h : aiFree L k = true) : mjFree ls k = true := by
  cases k with
  | zero => rfl
  | succ j =>
    unfold mjFree
    simp only
    split
    · rename_i u hu
      have hj : j < L.length := by rw [← hl.1]; exact (List.getElem?_eq_some_iff.mp hu).1
      have hLj : L[j]? = some L[j] := List.getElem?_eq_getElem hj
      have hp := hl.2 j _ hLj
      unfold aiFree at h
      simp only [hLj] at h
      have hloc : mjLoc ls j = some u := by unfold mjLoc; rw [hu]
      split at hp
      · simpa using hp u hloc
      · rename_i h9
        obtain ⟨v, h1, h2, -⟩ := hp
        rw [hloc] at h1
        cases h1
        rw [Bool.or_eq_true] at h
        rcases h with h | h
        · simpa using aiCat_ok h h2
        · exact absurd (Nat.eq_of_beq_eq_true h) h9
    · rfl
theorem mjLo_set {L : List MjQ} (hl : mjLo S τ ls L) {k : Nat} {v : Value} {p : MjQ} (hk : k < L.length) (h9 : p.1 ≠ 9) (hd : mjDn S v p) (hs : mjSy τ v p) : mjLo S τ (ls.set k (some v)) (L.set k p) := by
  have hk2 : k < ls.length := by rw [hl.1]; exact hk
  refine ⟨by rw [List.length_set, List.length_set]; exact hl.1, fun i q hi => ?_⟩
  rw [List.getElem?_set] at hi
  by_cases e : k = i
  · subst e
    rw [if_pos rfl, if_pos hk] at hi
    cases hi
    rw [if_neg h9]
    exact ⟨v, mjLoc_set_eq hk2, hd, hs⟩
  · rw [if_neg e] at hi
    have := hl.2 i q hi
    rw [mjLoc_set_ne e]
    exact this
theorem aiSoG_ok {pr : List Nat} {A A1 : MjSt} {k m n t : Nat} (h : aiSoG pr A k m t = some (A1, n)) (hr : mjRl S J τ ls st w A) : m = n ∧ ∃ (v : Value) (st1 : List Value) (ls1 : MjL), st = v :: st1 ∧ mjS1 ls k v = some ls1 ∧ mjRl S J τ ls1 st1 w A1 ∧ (∀ i ∈ pr, ls1[i]? = ls[i]?) ∧ (t = 0 → ∃ x, v = .int x) ∧ (t ≠ 0 → (∃ x, v = .ref x) ∨ ∃ x, v = .retAddr x ∧ x ≠ 4) := by
  obtain ⟨hI, hl, hk, hf⟩ := hr
  unfold aiSoG at h
  split at h
  · rename_i p R hK
    rw [hK] at hk
    obtain ⟨v, st1, rfl, hd, hp, hk2⟩ := hk.uncons
    split at h
    · rename_i hc
      obtain ⟨c1, c2, c3, c4⟩ := hc
      have hs1 : mjS1 ls k v = some (ls.set k (some v)) := by unfold mjS1; rw [if_pos ⟨by rw [hl.1]; exact c1, aiFree_ok hl c2⟩]
      have hpr : ∀ i ∈ pr, (ls.set k (some v))[i]? = ls[i]? := fun i hi => List.getElem?_set_ne (fun e => c3 (by rw [e]; exact hi))
      split at h
      · rename_i ht
        split at h
        · rename_i htag
          cases h
          have hd0 := hd
          unfold mjDn at hd
          rw [htag] at hd
          obtain ⟨x, rfl, hx⟩ := hd
          exact ⟨rfl, _, st1, _, rfl, hs1, ⟨hI, mjLo_set hl c1 (by show ¬ 0 = 9; decide) ⟨x, rfl, hx⟩ (aiStart_ok hl hf hp _ _), mjSk_unlink hk2, hf⟩, hpr, fun _ => ⟨x, rfl⟩, fun e => absurd ht e⟩
        · cases h
      · rename_i ht
        split at h
        · rename_i htag
          cases h
          refine ⟨rfl, v, st1, _, rfl, hs1, ⟨hI, mjLo_set hl c1 (by show ¬ p.1 = 9; omega) ?_ (Or.inl rfl), mjSk_unlink hk2, hf⟩, hpr, fun e => absurd e ht, fun _ => ?_⟩
          · exact hd
          · unfold mjDn at hd
            rcases htag with e | e | ⟨e, h4⟩ <;> rw [e] at hd
            · obtain ⟨a, rfl, -⟩ := hd; exact Or.inl ⟨a, rfl⟩
            · obtain ⟨a, rfl, -⟩ := hd; exact Or.inl ⟨a, rfl⟩
            · obtain ⟨a, rfl, ha⟩ := hd
              exact Or.inr ⟨a, rfl, fun e2 => h4 (by omega)⟩
        · cases h
    · cases h
  · cases h
theorem mjSk_inc {k : Nat} {n : Int} {x u : Int32} (hx : mjLoc ls k = some (.int x)) (hk60 : k < 60) (hu : u.toInt = x.toInt + n) (hkl : k < ls.length) : ∀ {st : List Value} {K : List MjQ}, mjSk S ls w st K → mjSk S (ls.set k (some (.int u))) w st (K.map (fun p => if p.2.2.2.1 = k + 1 then (p.1, p.2.1, p.2.2.1, p.2.2.2.1, p.2.2.2.2 - n) else p))
  | [], [], _ => trivial
  | [], _ :: _, h => h
  | _ :: _, [], h => h
  | v :: st, p :: K, h => by
    refine ⟨?_, mjSk_inc hx hk60 hu hkl h.2⟩
    show mjDn S v (if p.2.2.2.1 = k + 1 then (p.1, p.2.1, p.2.2.1, p.2.2.2.1, p.2.2.2.2 - n) else p) ∧ mjPv _ w v (if p.2.2.2.1 = k + 1 then (p.1, p.2.1, p.2.2.1, p.2.2.2.1, p.2.2.2.2 - n) else p)
    split
    · rename_i he
      refine ⟨h.1.1, ?_⟩
      rcases h.1.2 with h2 | ⟨x', u', e1, e2, e3⟩
      · exact Or.inl h2
      · refine Or.inr ⟨x', u, e1, ?_, ?_⟩
        · show mjSrc _ w p.2.2.2.1 = _
          rw [he]
          unfold mjSrc
          rw [if_pos (by omega)]
          exact mjLoc_set_eq hkl
        · rw [he] at e2
          unfold mjSrc at e2
          rw [if_pos (by omega), show k + 1 - 1 = k by omega, hx] at e2
          cases e2
          show x'.toInt = u.toInt + (p.2.2.2.2 - n)
          omega
    · rename_i hne
      refine ⟨h.1.1, ?_⟩
      rcases h.1.2 with h2 | ⟨x', u', e1, e2, e3⟩
      · exact Or.inl h2
      · by_cases h0 : p.2.2.2.1 = 0
        · exact Or.inl h0
        · exact Or.inr ⟨x', u', e1, by rw [mjSrc_set_ne hne h0]; exact e2, e3⟩
theorem mj_small8 {n : Int} (h1 : -128 ≤ n) (h2 : n ≤ 127) : (Int32.ofInt n).toInt = n := by
  rw [Int32.toInt_ofInt]
  exact mj_small (by omega) (by omega)
theorem aiInc_ok {pr : List Nat} {A A1 : MjSt} {k m : Nat} {n : Int} (h : aiInc pr A k n = some (A1, m)) (hr : mjRl S J τ ls st w A) : m = 3 ∧ ∃ (ls1 : MjL), mjSo (.iinc k n) ls st = some (ls1, st, 3) ∧ mjRl S J τ ls1 st w A1 ∧ (∀ i ∈ pr, ls1[i]? = ls[i]?) := by
  obtain ⟨hI, hl, hk, hf⟩ := hr
  unfold aiInc at h
  split at h
  · rename_i q hq
    split at h
    · rename_i hc
      obtain ⟨c0, c1, c2, c3, c4, c5, c6, c7⟩ := hc
      cases h
      have hp := hl.2 k _ hq
      rw [if_neg (by omega)] at hp
      obtain ⟨v, h1, h2, h3⟩ := hp
      unfold mjDn at h2
      rw [c0] at h2
      obtain ⟨x, rfl, hx⟩ := h2
      have hkL : k < A.1.length := (List.getElem?_eq_some_iff.mp hq).1
      have hkl : k < ls.length := by rw [hl.1]; exact hkL
      have en := mj_small8 c4 c5
      have x1 := hx.1; have x2 := hx.2
      have eu : (x + Int32.ofInt n).toInt = x.toInt + n := by rw [mj_add (by rw [en]; omega) (by rw [en]; omega), en]
      refine ⟨rfl, ls.set k (some (.int (x + Int32.ofInt n))), ?_, ⟨hI, mjLo_set hl hkL (by show ¬ 0 = 9; decide) ⟨_, rfl, ?_⟩ ?_, mjSk_inc h1 c3 eu hkl hk, hf⟩, fun i hi => List.getElem?_set_ne (fun e => c2 (by rw [e]; exact hi))⟩
      · simp only [mjSo, mjLoc_get h1, mjS1]
        rw [if_pos ⟨hkl, aiFree_ok hl c1⟩]
        rfl
      · show q.2.1 + n ≤ _ ∧ _ ≤ q.2.2.1 + n
        rw [eu]; omega
      · rcases h3 with h3 | ⟨x', e1, e2⟩
        · exact Or.inl h3
        · cases e1
          refine Or.inr ⟨_, rfl, ?_⟩
          show (x + Int32.ofInt n).toInt = τ q.2.2.2.1 + (q.2.2.2.2 + n)
          omega
    · cases h
  · cases h
theorem aiSo_ok {pr : List Nat} {ins : Instr} {A A1 : MjSt} {n : Nat} (h : aiSo pr ins A = some (A1, n)) (hr : mjRl S J τ ls st w A) : ∃ (ls1 : MjL) (st1 : List Value), mjSo ins ls st = some (ls1, st1, n) ∧ mjRl S J τ ls1 st1 w A1 ∧ (∀ i ∈ pr, ls1[i]? = ls[i]?) := by
  unfold aiSo at h
  split at h
  · obtain ⟨rfl, v, st1, ls1, rfl, h1, h2, h3, h4, -⟩ := aiSoG_ok h hr
    obtain ⟨x, rfl⟩ := h4 rfl
    exact ⟨ls1, st1, by simp only [mjSo, h1, Option.map_some], h2, h3⟩
  · obtain ⟨rfl, v, st1, ls1, rfl, h1, h2, h3, h4, -⟩ := aiSoG_ok h hr
    obtain ⟨x, rfl⟩ := h4 rfl
    exact ⟨ls1, st1, by simp only [mjSo, h1, Option.map_some], h2, h3⟩
  · obtain ⟨rfl, v, st1, ls1, rfl, h1, h2, h3, -, h4⟩ := aiSoG_ok h hr
    rcases h4 (by decide) with ⟨x, rfl⟩ | ⟨x, rfl, hx⟩
    · exact ⟨ls1, st1, by simp only [mjSo, h1, Option.map_some], h2, h3⟩
    · exact ⟨ls1, st1, by simp only [mjSo, h1, Option.map_some]; rw [if_neg hx], h2, h3⟩
  · obtain ⟨rfl, v, st1, ls1, rfl, h1, h2, h3, -, h4⟩ := aiSoG_ok h hr
    rcases h4 (by decide) with ⟨x, rfl⟩ | ⟨x, rfl, hx⟩
    · exact ⟨ls1, st1, by simp only [mjSo, h1, Option.map_some], h2, h3⟩
    · exact ⟨ls1, st1, by simp only [mjSo, h1, Option.map_some]; rw [if_neg hx], h2, h3⟩
  · rename_i k
    split at h
    · rename_i p R hK
      split at h
      · rename_i hc
        obtain ⟨c1, c2, c3, c4, c5, c6⟩ := hc
        cases h
        obtain ⟨hI, hl, hk, hf⟩ := hr
        rw [hK] at hk
        obtain ⟨v, st1, rfl, hd, hp, hk2⟩ := hk.uncons
        unfold mjDn at hd
        rw [c6] at hd
        obtain ⟨x, rfl⟩ := hd
        refine ⟨(ls.set k (some (.long x))).set (k + 1) none, st1, ?_, ⟨hI, ?_, mjSk_unlink (mjSk_unlink hk2), hf⟩, fun i hi => ?_⟩
        · simp only [mjSo, mjS2]
          rw [if_pos ⟨by rw [hl.1]; exact c1, aiFree_ok hl c2⟩]
          rfl
        · have l1 := mjLo_set (v := .long x) (p := (1, 0, 0, 0, 0)) hl (k := k) (by omega) (by show ¬ 1 = 9; decide) ⟨x, rfl⟩ (Or.inl rfl)
          refine ⟨by show _ = ((A.1.set k (1, 0, 0, 0, 0)).set (k + 1) (9, 0, 0, 0, 0)).length; rw [List.length_set, List.length_set, List.length_set, List.length_set]; exact hl.1, fun i q hi => ?_⟩
          rw [List.getElem?_set] at hi
          by_cases e : (k : Nat) + 1 = i
          · subst e
            rw [if_pos rfl] at hi
            split at hi
            · cases hi
              rw [if_pos rfl]
              intro v hv
              unfold mjLoc at hv
              rw [List.getElem?_set, if_pos rfl] at hv
              split at hv
              · rename_i u hu; split at hu <;> cases hu
              · cases hv
            · cases hi
          · rw [if_neg e] at hi
            have := l1.2 i q hi
            rw [mjLoc_set_ne e]
            exact this
        · rw [List.getElem?_set_ne (fun e => c4 (by rw [e]; exact hi)), List.getElem?_set_ne (fun e => c3 (by rw [e]; exact hi))]
      · cases h
    · cases h
  · obtain ⟨rfl, ls1, h1, h2, h3⟩ := aiInc_ok h hr
    exact ⟨ls1, st, h1, h2, h3⟩
  · cases h
-- branches
theorem aiMeet_ok {p : MjQ} {lo hi : Int} {x : Int32} (h0 : p.1 = 0) (hd : mjDn S (.int x) p) (h1 : lo ≤ x.toInt) (h2 : x.toInt ≤ hi) : mjDn S (.int x) (aiMeet p lo hi) := by
  unfold mjDn at hd
  rw [h0] at hd
  obtain ⟨x', e, hx⟩ := hd
  cases e
  unfold mjDn aiMeet
  simp only [h0]
  refine ⟨x, rfl, ?_, ?_⟩
  · show (if p.2.1 ≤ lo then lo else p.2.1) ≤ _
    split
    · exact h1
    · exact hx.1
  · show _ ≤ (if hi ≤ p.2.2.1 then hi else p.2.2.1)
    split
    · exact h2
    · exact hx.2
theorem aiRef_ok {A : MjSt} {l : Nat} {lo hi : Int} (hr : mjRl S J τ ls st w A) (hs : l = 0 ∨ ∃ u : Int32, mjSrc ls w l = some (.int u) ∧ lo ≤ u.toInt ∧ u.toInt ≤ hi) : mjRl S J τ ls st w (aiRef A l lo hi) := by
  unfold aiRef
  split
  · exact hr
  · rename_i h0
    rcases hs with hs | ⟨u, hs, h1, h2⟩
    · exact absurd hs h0
    obtain ⟨hI, hl, hk, hf⟩ := hr
    split
    · rename_i hlt
      split
      · rename_i p hp
        split
        · rename_i htag
          refine ⟨hI, ⟨by rw [List.length_set]; exact hl.1, fun i q hi2 => ?_⟩, hk, hf⟩
          have := hl.2 _ _ hp
          rw [if_neg (by omega)] at this
          obtain ⟨v, g1, g2, g3⟩ := this
          unfold mjSrc at hs
          rw [if_pos hlt, g1] at hs
          cases hs
          rw [List.getElem?_set] at hi2
          by_cases e : l - 1 = i
          · subst e
            rw [if_pos rfl, if_pos (List.getElem?_eq_some_iff.mp hp).1] at hi2
            cases hi2
            rw [if_neg (by show ¬ p.1 = 9; omega)]
            exact ⟨.int u, g1, aiMeet_ok htag g2 h1 h2, g3⟩
          · rw [if_neg e] at hi2
            exact hl.2 i q hi2
        · exact ⟨hI, hl, hk, hf⟩
      · exact ⟨hI, hl, hk, hf⟩
    · rename_i hlt
      unfold mjSrc at hs
      rw [if_neg hlt] at hs
      split
      · rename_i p hp
        split
        · rename_i htag
          refine ⟨hI, hl, hk, fun q hq => ?_⟩
          rcases List.mem_cons.mp hq with e | e
          · subst e
            obtain ⟨v, g1, g2, g3⟩ := hf _ (aiFind_mem hp)
            rw [hs] at g1
            cases g1
            exact ⟨.int u, hs, aiMeet_ok htag g2 h1 h2, g3⟩
          · exact hf q e
        · exact ⟨hI, hl, hk, hf⟩
      · refine ⟨hI, hl, hk, fun q hq => ?_⟩
        rcases List.mem_cons.mp hq with e | e
        · subst e
          exact ⟨.int u, hs, ⟨u, rfl, h1, h2⟩, Or.inl rfl⟩
        · exact hf q e
theorem aiCmp_ok {k : ClassFile.Cond} {a b c d : Int} {x z : Int32} (hx : mjB x a b) (hz : mjB z c d) : mjB x (aiCmp k (mjCi k x z) a b c d).1.1 (aiCmp k (mjCi k x z) a b c d).1.2 ∧ mjB z (aiCmp k (mjCi k x z) a b c d).2.1 (aiCmp k (mjCi k x z) a b c d).2.2 := by
  have x1 := hx.1; have x2 := hx.2; have z1 := hz.1; have z2 := hz.2
  cases k with
  | eq =>
    cases h : mjCi .eq x z with
    | true => have := mjCi_eq.mp h; unfold aiCmp mjB; simp only; repeat' split
              all_goals omega
    | false => have : ¬ x.toInt = z.toInt := fun q => by rw [mjCi_eq.mpr q] at h; cases h
               unfold aiCmp mjB; simp only; repeat' split
               all_goals omega
  | ne =>
    cases h : mjCi .ne x z with
    | true => have := mjCi_ne.mp h; unfold aiCmp mjB; simp only; repeat' split
              all_goals omega
    | false => have : ¬ ¬ x.toInt = z.toInt := fun q => by rw [mjCi_ne.mpr q] at h; cases h
               unfold aiCmp mjB; simp only; repeat' split
               all_goals omega
  | lt =>
    cases h : mjCi .lt x z with
    | true => have := mjCi_lt.mp h; unfold aiCmp mjB; simp only; repeat' split
              all_goals omega
    | false => have : ¬ x.toInt < z.toInt := fun q => by rw [mjCi_lt.mpr q] at h; cases h
               unfold aiCmp mjB; simp only; repeat' split
               all_goals omega
  | ge =>
    cases h : mjCi .ge x z with
    | true => have := mjCi_ge.mp h; unfold aiCmp mjB; simp only; repeat' split
              all_goals omega
    | false => have : ¬ z.toInt ≤ x.toInt := fun q => by rw [mjCi_ge.mpr q] at h; cases h
               unfold aiCmp mjB; simp only; repeat' split
               all_goals omega
  | gt =>
    cases h : mjCi .gt x z with
    | true => have := mjCi_gt.mp h; unfold aiCmp mjB; simp only; repeat' split
              all_goals omega
    | false => have : ¬ z.toInt < x.toInt := fun q => by rw [mjCi_gt.mpr q] at h; cases h
               unfold aiCmp mjB; simp only; repeat' split
               all_goals omega
  | le =>
    cases h : mjCi .le x z with
    | true => have := mjCi_le.mp h; unfold aiCmp mjB; simp only; repeat' split
              all_goals omega
    | false => have : ¬ x.toInt ≤ z.toInt := fun q => by rw [mjCi_le.mpr q] at h; cases h
               unfold aiCmp mjB; simp only; repeat' split
               all_goals omega
theorem mjCz_is {k : ClassFile.Cond} {x : Int32} : mjCz k x = mjCi k x 0 := by cases k <;> rfl
end AiS
