/-! ===== a call of both sides on the fresh world ===== -/
theorem mjEnvC {S : MjSp} {y : Nat} {sm : MjSm} {env : List (Nat × MjSm)} (h : mjCtr S y sm) (he : ∀ e ∈ env, mjCtr S e.1 e.2) : ∀ e ∈ (y, sm) :: env, mjCtr S e.1 e.2 := List.forall_mem_cons.mpr ⟨h, he⟩
def aiApart (a b : List (Nat × Int × Int)) : Bool := a.any (fun p => b.any (fun q => Nat.beq p.1 q.1 && (decide (0 < p.1) && (decide (p.2.2 < q.2.1) || decide (q.2.2 < p.2.1)))))
def aiAgree (ox om : List MjOut) : Bool := ox.all (fun a => om.all (fun b => aiApart a.2.1 b.2.1 || decide (a.1.1 = 0 ∧ b.1.1 = 0 ∧ a.1.2.1 = a.1.2.2.1 ∧ b.1.2.1 = b.1.2.2.1 ∧ a.1.2.1 = b.1.2.1)))
def mjFsB (F : List MjFa) : Bool := F.all (fun q => match (mjC0 q.1).2[q.2.1]? with
  | some (.int x) => Nat.blt q.1 mjN0 && decide (q.2.2.1 = 0 ∧ q.2.2.2.1 ≤ x.toInt ∧ x.toInt ≤ q.2.2.2.2.1)
  | some (.ref a) => Nat.blt q.1 mjN0 && decide (q.2.2.1 = 3 ∧ (a : Int) = q.2.2.2.1)
  | _ => false)
theorem mjFsB_ok {S : MjSp} {F : List MjFa} (h : mjFsB F = true) : mjFs0 S mjW0 F := by
  intro q hq
  have h1 := List.all_eq_true.mp h q hq
  split at h1
  · rename_i x hx
    rw [Bool.and_eq_true, decide_eq_true_eq] at h1
    refine ⟨.int x, by unfold mjFld; rw [mjW0_at (Nat.le_of_ble_eq_true h1.1)]; exact hx, ?_⟩
    unfold mjDn
    rw [h1.2.1]
    exact ⟨x, rfl, h1.2.2⟩
  · rename_i a hx
    rw [Bool.and_eq_true, decide_eq_true_eq] at h1
    refine ⟨.ref a, by unfold mjFld; rw [mjW0_at (Nat.le_of_ble_eq_true h1.1)]; exact hx, ?_⟩
    unfold mjDn
    rw [h1.2.1]
    exact ⟨a, rfl, h1.2.2⟩
  · cases h1
theorem mj_pair {Lx Lm : MjWd} {yx ym : Nat} {smx smm : MjSm} {as : List Value} {sc : List Int32} {Mx Mm : MjM} (hx : mjCtr (mjSW 0 240 Lx) yx smx) (hm : mjCtr (mjSW 240 290 Lm) ym smm) (hLx : mjWdB Lx = true) (hLm : mjWdB Lm = true) (hag : aiAgree smx.2.2.1 smm.2.2.1 = true) (hfx : mjFsB smx.2.1 = true) (hfm : mjFsB smm.2.1 = true) (hfa : smm.2.1.all (fun q => Nat.ble 240 q.1 && Nat.blt q.1 290) = true) (hmod : smx.2.2.2.1.all (fun m => Nat.blt 0 m.1) = true) (hax : mjArgs (mjSW 0 240 Lx) (.ref 0 :: as) smx.1) (ham : mjArgs (mjSW 240 290 Lm) (.ref 240 :: as) smm.1) (hMx : mjMt yx = some Mx) (hMm : mjMt ym = some Mm) : ∃ (v : Int32) (n1 : Nat) (w1 : MjW) (n2 : Nat) (w2 : MjW), mjEx mjTb mjMt sc n1 smx.2.2.2.2 yx 0 (mjEntry Mx.2.2.1 (.ref 0 :: as)) [] mjW0 = some (some (.int v), w1) ∧ mjEx mjTb mjMt sc n2 smm.2.2.2.2 ym 0 (mjEntry Mm.2.2.1 (.ref 240 :: as)) [] w1 = some (some (.int v), w2) ∧ mjShp w1 = mjShp mjW0 ∧ mjShp w2 = mjShp mjW0 := by
  have ix : mjInv (mjSW 0 240 Lx) mjW0 := mj_inv0 (by decide) hLx
  have im : mjInv (mjSW 240 290 Lm) mjW0 := mj_inv0 (by decide) hLm
  obtain ⟨n1, r1, w1, e1, p1, k1, o1, m1, s1, f1, -⟩ := hx sc mjW0 (.ref 0 :: as) Mx ix hax (mjFsB_ok hfx) hMx
  have keep : ∀ a j, 0 < (mjSW 240 290 Lm).1 a → mjFld w1 a j = mjFld mjW0 a j := by
    intro a j ha
    refine k1.2 a j ?_
    have h0 : (mjSW 0 240 Lx).1 a = 0 := by
      have ha' : 0 < (bif Nat.ble 240 a && Nat.blt a 290 then a + 1 else 0) := ha
      have hb : (Nat.ble 240 a && Nat.blt a 290) = true := by
        cases e : (Nat.ble 240 a && Nat.blt a 290) with
        | true => rfl
        | false => rw [e] at ha'; cases ha'
      rw [Bool.and_eq_true] at hb
      have hge := Nat.le_of_ble_eq_true hb.1
      show (bif Nat.ble 0 a && Nat.blt a 240 then a + 1 else 0) = 0
      have : Nat.blt a 240 = false := by
        cases e : Nat.blt a 240 with
        | false => rfl
        | true => have := Nat.le_of_ble_eq_true e; omega
      rw [this, Bool.and_false]; rfl
    rw [h0]
    unfold aiMod
    refine List.any_eq_false.mpr (fun m hm => ?_)
    have := List.all_eq_true.mp hmod m hm
    have := Nat.le_of_ble_eq_true this
    intro h9
    rw [Bool.and_eq_true] at h9
    have := Nat.eq_of_beq_eq_true h9.1
    omega
  have im1 := mj_inv_keep im k1.1 keep
  have fm : mjFs0 (mjSW 240 290 Lm) mjW0 smm.2.1 := mjFsB_ok hfm
  have fm1 : mjFs0 (mjSW 240 290 Lm) w1 smm.2.1 := fun q hq => by
    obtain ⟨v, e, d⟩ := fm q hq
    refine ⟨v, ?_, d⟩
    have h0 := List.all_eq_true.mp hfa q hq
    rw [keep q.1 q.2.1 (by show 0 < (bif Nat.ble 240 q.1 && Nat.blt q.1 290 then q.1 + 1 else 0); rw [h0]; exact Nat.succ_pos _)]
    exact e
  obtain ⟨n2, r2, w2, e2, p2, k2, o2, m2, s2, f2, -⟩ := hm sc w1 (.ref 240 :: as) Mm im1 ham fm1 hMm
  have hA := List.all_eq_true.mp (List.all_eq_true.mp hag o1 m1) o2 m2
  rw [Bool.or_eq_true] at hA
  rcases hA with hA | hA
  · exfalso
    unfold aiApart at hA
    obtain ⟨p, hp, hA⟩ := List.any_eq_true.mp hA
    obtain ⟨q, hq, hA⟩ := List.any_eq_true.mp hA
    simp only [Bool.and_eq_true, Bool.or_eq_true, decide_eq_true_eq] at hA
    obtain ⟨h1, h2, h3⟩ := hA
    have h1 := Nat.eq_of_beq_eq_true h1
    obtain ⟨x, x1, x2⟩ := f1 p hp
    obtain ⟨z, z1, z2⟩ := f2 q hq
    obtain ⟨k, hk⟩ : ∃ k, p.1 = k + 1 := ⟨p.1 - 1, by omega⟩
    rw [hk, List.getElem?_cons_succ] at x1
    rw [← h1, hk, List.getElem?_cons_succ, x1] at z1
    cases z1
    have a1 := x2.1; have a2 := x2.2; have a3 := z2.1; have a4 := z2.2
    omega
  · rw [decide_eq_true_eq] at hA
    obtain ⟨h1, h2, h3, h4, h5⟩ := hA
    unfold mjRs at s1 s2
    rw [if_neg (by omega)] at s1 s2
    obtain ⟨v1, rfl, d1⟩ := s1
    obtain ⟨v2, rfl, d2⟩ := s2
    unfold mjDn at d1 d2
    rw [h1] at d1; rw [h2] at d2
    obtain ⟨x, rfl, b1⟩ := d1
    obtain ⟨z, rfl, b2⟩ := d2
    rw [← h3] at b1; rw [← h4, ← h5] at b2
    have := b1.eq b2
    subst this
    exact ⟨x, n1, w1, n2, w2, e1, e2, k1.1, k2.1.trans k1.1⟩
