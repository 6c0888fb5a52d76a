theorem mj_ofI {x : Int32} {a : Int} (h : mjB x a a) : x = Int32.ofInt a := by
  have : x.toInt = a := by have := h.1; have := h.2; omega
  rw [← this, Int32.ofInt_toInt]
theorem mjA_tail {ins : Instr} {x z u : Int32} (h : mjA ins [.int z, .int x] = some [.int u]) (st : List Value) : mjA ins (.int z :: .int x :: st) = some (.int u :: st) := by
  unfold mjA at h
  split at h <;> first
    | (cases h; done)
    | (cases h; rfl)
    | (simp only at h; split at h <;> first | (cases h; done) | (rename_i hz; cases h; simp only [mjA]; rw [if_neg hz]) | (rename_i hz; cases h; simp only [mjA]; rw [if_pos hz]))
    | (simp only at h; cases h; rfl)
theorem mj_nn {x : Int32} (h : 0 ≤ x.toInt) : (x.toBitVec.toNat : Int) = x.toInt ∧ x.toBitVec.toNat < 2147483648 := by
  have e : x.toInt = x.toBitVec.toInt := rfl
  rw [e, BitVec.toInt_eq_toNat_cond] at h ⊢
  have := x.toBitVec.isLt
  split at h
  · rename_i h2
    rw [if_pos h2]
    omega
  · omega
theorem mj_ofnn {x : Int32} {n : Nat} (h : x.toBitVec.toNat = n) (hn : n < 2147483648) : x.toInt = n := by
  have e : x.toInt = x.toBitVec.toInt := rfl
  rw [e, BitVec.toInt_eq_toNat_cond, h, if_pos (by omega)]
theorem mj_and_l {x z : Int32} (h : 0 ≤ x.toInt) : 0 ≤ (x &&& z).toInt ∧ (x &&& z).toInt ≤ x.toInt := by
  obtain ⟨h1, h2⟩ := mj_nn h
  have e : (x &&& z).toBitVec.toNat = x.toBitVec.toNat &&& z.toBitVec.toNat := by rw [Int32.toBitVec_and, BitVec.toNat_and]
  have l := Nat.and_le_left (n := x.toBitVec.toNat) (m := z.toBitVec.toNat)
  have := mj_ofnn e (by omega)
  omega
theorem mj_and_r {x z : Int32} (h : 0 ≤ z.toInt) : 0 ≤ (x &&& z).toInt ∧ (x &&& z).toInt ≤ z.toInt := by
  obtain ⟨h1, h2⟩ := mj_nn h
  have e : (x &&& z).toBitVec.toNat = x.toBitVec.toNat &&& z.toBitVec.toNat := by rw [Int32.toBitVec_and, BitVec.toNat_and]
  have l := Nat.and_le_right (n := x.toBitVec.toNat) (m := z.toBitVec.toNat)
  have := mj_ofnn e (by omega)
  omega
theorem mjMask_is (n : Int) (h : n ≤ 2147483647) : n ≤ mjMask n ∧ ∃ k : Nat, k ≤ 31 ∧ mjMask n = 2 ^ k - 1 := by
  unfold mjMask
  repeat' split
  · exact ⟨by omega, 1, by decide, by decide⟩
  · exact ⟨by omega, 2, by decide, by decide⟩
  · exact ⟨by omega, 3, by decide, by decide⟩
  · exact ⟨by omega, 4, by decide, by decide⟩
  · exact ⟨by omega, 5, by decide, by decide⟩
  · exact ⟨by omega, 6, by decide, by decide⟩
  · exact ⟨by omega, 7, by decide, by decide⟩
  · exact ⟨by omega, 10, by decide, by decide⟩
  · exact ⟨by omega, 31, by decide, by decide⟩
theorem mj_two {k : Nat} (hk : k ≤ 31) : (2 : Nat) ^ k ≤ 2147483648 := Nat.pow_le_pow_right (by decide) hk
theorem mj_or {x z : Int32} {m : Int} (hm : m ≤ 2147483647) (h1 : 0 ≤ x.toInt) (h2 : 0 ≤ z.toInt) (h3 : x.toInt ≤ m) (h4 : z.toInt ≤ m) : (0 ≤ (x ||| z).toInt ∧ (x ||| z).toInt ≤ mjMask m) ∧ (0 ≤ (x ^^^ z).toInt ∧ (x ^^^ z).toInt ≤ mjMask m) := by
  obtain ⟨a1, a2⟩ := mj_nn h1
  obtain ⟨b1, b2⟩ := mj_nn h2
  obtain ⟨m1, k, hk, m2⟩ := mjMask_is m hm
  have hp := mj_two hk
  have cast : ((2 ^ k : Nat) : Int) = 2 ^ k := by norm_cast
  have xl : x.toBitVec.toNat < 2 ^ k := by omega
  have zl : z.toBitVec.toNat < 2 ^ k := by omega
  have e1 : (x ||| z).toBitVec.toNat = x.toBitVec.toNat ||| z.toBitVec.toNat := by rw [Int32.toBitVec_or, BitVec.toNat_or]
  have e2 : (x ^^^ z).toBitVec.toNat = x.toBitVec.toNat ^^^ z.toBitVec.toNat := by rw [Int32.toBitVec_xor, BitVec.toNat_xor]
  have l1 := Nat.or_lt_two_pow xl zl
  have l2 := Nat.xor_lt_two_pow xl zl
  have t1 := mj_ofnn e1 (by omega)
  have t2 := mj_ofnn e2 (by omega)
  omega
theorem mj_shl {z : Int32} {c d : Int} (hz : mjB z c d) (h0 : 0 ≤ c) (h1 : d ≤ 30) : 1 ≤ ((1 : Int32) <<< (z &&& 31)).toInt ∧ ((1 : Int32) <<< (z &&& 31)).toInt ≤ 2 ^ d.toNat := by
  have z0 := hz.1; have z1 := hz.2
  obtain ⟨n, hn, hzn⟩ : ∃ n : Nat, n ≤ 30 ∧ z = Int32.ofInt n := ⟨z.toInt.toNat, by omega, by rw [show ((z.toInt.toNat : Nat) : Int) = z.toInt by omega, Int32.ofInt_toInt]⟩
  have key : ∀ n : Nat, n ≤ 30 → ((1 : Int32) <<< (Int32.ofInt n &&& 31)).toInt = ((2 ^ n : Nat) : Int) ∧ (Int32.ofInt n).toInt = n := by decide
  obtain ⟨k1, k2⟩ := key n hn
  rw [hzn, k1]
  rw [hzn, k2] at z0 z1
  have p1 : 1 ≤ 2 ^ n := Nat.one_le_two_pow
  have p2 : 2 ^ n ≤ 2 ^ d.toNat := Nat.pow_le_pow_right (by decide) (by omega)
  have c2 : ((2 ^ d.toNat : Nat) : Int) = 2 ^ d.toNat := by norm_cast
  omega
theorem mj_shr {x s : Int32} (h : 0 ≤ x.toInt) : 0 ≤ (x >>> s).toInt ∧ (x >>> s).toInt ≤ x.toInt := by
  rw [pk_shr x s _ rfl]
  rw [Int.shiftRight_eq_div_pow]
  refine ⟨Int.ediv_nonneg h (by exact Int.natCast_nonneg _), ?_⟩
  exact Int.ediv_le_self _ h
theorem mj_ushr {x s : Int32} (h : 0 ≤ x.toInt) : 0 ≤ ((x.toUInt32 >>> (s.toUInt32 &&& Int32.toUInt32 31)).toInt32).toInt ∧ ((x.toUInt32 >>> (s.toUInt32 &&& Int32.toUInt32 31)).toInt32).toInt ≤ x.toInt := by
  obtain ⟨h1, h2⟩ := mj_nn h
  have e := pk_ushr x s _ rfl
  have l := Nat.div_le_self x.toBitVec.toNat (2 ^ ((s.toUInt32 &&& Int32.toUInt32 31).toBitVec % 32).toNat)
  have := mj_ofnn e (by omega)
  omega
theorem mj_nI {x : Int32} (h : 0 ≤ x.toInt) : ∃ n : Nat, (n : Int) = x.toInt ∧ n < 2 ^ 31 ∧ x = nI n := by
  refine ⟨x.toInt.toNat, by omega, ?_, ?_⟩
  · have := (mjB.all x).2; omega
  · show x = Int32.ofNat x.toInt.toNat
    rw [← Int32.ofInt_eq_ofNat, show ((x.toInt.toNat : Nat) : Int) = x.toInt by omega, Int32.ofInt_toInt]
theorem mj_div {x z : Int32} (h : 0 ≤ x.toInt) (hz : 0 < z.toInt) : 0 ≤ (x / z).toInt ∧ (x / z).toInt ≤ x.toInt := by
  obtain ⟨n, n1, n2, rfl⟩ := mj_nI h
  obtain ⟨k, k1, k2, rfl⟩ := mj_nI (Int.le_of_lt hz)
  rw [nI_toInt k2] at hz
  have hk : 0 < k := by omega
  have l := Nat.div_le_self n k
  rw [pk_div n2 hk k2, nI_toInt (Nat.lt_of_le_of_lt l n2), nI_toInt n2]
  exact ⟨Int.natCast_nonneg _, Int.ofNat_le.mpr l⟩
theorem mj_div2 {x z : Int32} {b c : Int} (h : 0 ≤ x.toInt) (hb : x.toInt ≤ b) (hc : 0 < c) (hz : c ≤ z.toInt) : (x / z).toInt ≤ b / c := by
  obtain ⟨n, n1, n2, rfl⟩ := mj_nI h
  obtain ⟨k, k1, k2, rfl⟩ := mj_nI (x := z) (by omega)
  rw [nI_toInt k2] at hz
  rw [nI_toInt n2] at hb
  have hk : 0 < k := by omega
  have l := Nat.div_le_self n k
  rw [pk_div n2 hk k2, nI_toInt (Nat.lt_of_le_of_lt l n2)]
  apply Int.le_ediv_of_mul_le hc
  have h1 := Nat.div_mul_le_self n k
  have h2 : ((n / k : Nat) : Int) * c ≤ ((n / k : Nat) : Int) * k := Int.mul_le_mul_of_nonneg_left hz (Int.natCast_nonneg _)
  have h3 : ((n / k : Nat) : Int) * k ≤ n := by exact_mod_cast h1
  omega
theorem mj_rem {x z : Int32} (h : 0 ≤ x.toInt) (hz : 0 < z.toInt) : 0 ≤ (x - x / z * z).toInt ∧ (x - x / z * z).toInt ≤ x.toInt ∧ (x - x / z * z).toInt < z.toInt := by
  obtain ⟨n, n1, n2, rfl⟩ := mj_nI h
  obtain ⟨k, k1, k2, rfl⟩ := mj_nI (Int.le_of_lt hz)
  rw [nI_toInt k2] at hz
  have hk : 0 < k := by omega
  have l := Nat.mod_le n k
  have l2 := Nat.mod_lt n hk
  rw [pk_rem n2 hk k2, nI_toInt (by omega), nI_toInt n2, nI_toInt k2]
  omega
set_option maxHeartbeats 1000000 in
theorem aiBin_ok {ins : Instr} {a b c d lo hi : Int} (h : aiBin ins a b c d = some (lo, hi)) {x z : Int32} (hx : mjB x a b) (hz : mjB z c d) : ∃ u : Int32, (∀ st, mjA ins (.int z :: .int x :: st) = some (.int u :: st)) ∧ mjB u lo hi := by
  unfold aiBin at h
  have x1 := hx.1; have x2 := hx.2; have z1 := hz.1; have z2 := hz.2
  split at h
  · rename_i hc
    obtain ⟨rfl, rfl⟩ := hc
    have ex := mj_ofI hx
    have ez := mj_ofI hz
    split at h
    · rename_i u hu
      cases h
      refine ⟨u, fun st => ?_, Int.le_refl _, Int.le_refl _⟩
      rw [ex, ez]
      exact mjA_tail hu st
    · cases h
  · have tp : ∀ u : Int32, mjB u (-2147483648) 2147483647 := mjB.all
    split at h
    · refine ⟨x + z, fun st => rfl, ?_⟩
      split at h
      · cases h
        have e := mj_add (x := x) (y := z) (by omega) (by omega)
        unfold mjB; rw [e]; omega
      · cases h; exact tp _
    · refine ⟨x - z, fun st => rfl, ?_⟩
      split at h
      · cases h
        have e := mj_sub (x := x) (y := z) (by omega) (by omega)
        unfold mjB; rw [e]; omega
      · cases h; exact tp _
    · refine ⟨x * z, fun st => rfl, ?_⟩
      split at h
      · rename_i hc
        cases h
        have m1 : a * c ≤ x.toInt * z.toInt := Int.mul_le_mul x1 z1 hc.2.1 (by omega)
        have m2 : x.toInt * z.toInt ≤ b * d := Int.mul_le_mul x2 z2 (by omega) (by omega)
        have m3 : 0 ≤ a * c := Int.mul_nonneg hc.1 hc.2.1
        have e := mj_mul (x := x) (y := z) (by omega) (by omega)
        unfold mjB; rw [e]; exact ⟨m1, m2⟩
      · cases h; exact tp _
    · split at h
      · rename_i hc
        have hz0 : ¬ z = 0 := fun e => by rw [e] at z1; simp at z1; omega
        refine ⟨x / z, fun st => by simp only [mjA]; rw [if_neg hz0], ?_⟩
        split at h
        · cases h
          have := mj_div (x := x) (z := z) (by omega) (by omega)
          exact ⟨this.1, mj_div2 (by omega) x2 hc z1⟩
        · cases h; exact tp _
      · split at h
        · have hz0 : ¬ z = 0 := fun e => by rw [e] at z2; simp at z2; omega
          cases h
          exact ⟨x / z, fun st => by simp only [mjA]; rw [if_neg hz0], tp _⟩
        · cases h
    · split at h
      · rename_i hc
        have hz0 : ¬ z = 0 := fun e => by rw [e] at z1; simp at z1; omega
        refine ⟨x - x / z * z, fun st => by simp only [mjA]; rw [if_neg hz0], ?_⟩
        split at h
        · have := mj_rem (x := x) (z := z) (by omega) (by omega)
          cases h
          refine ⟨this.1, ?_⟩
          split <;> omega
        · cases h; exact tp _
      · split at h
        · have hz0 : ¬ z = 0 := fun e => by rw [e] at z2; simp at z2; omega
          cases h
          exact ⟨x - x / z * z, fun st => by simp only [mjA]; rw [if_neg hz0], tp _⟩
        · cases h
    · refine ⟨x &&& z, fun st => rfl, ?_⟩
      split at h
      · split at h
        · cases h
          have p := mj_and_l (x := x) (z := z) (by omega)
          have q := mj_and_r (x := x) (z := z) (by omega)
          refine ⟨p.1, ?_⟩
          split <;> omega
        · cases h
          have p := mj_and_l (x := x) (z := z) (by omega)
          exact ⟨p.1, by omega⟩
      · split at h
        · cases h
          have q := mj_and_r (x := x) (z := z) (by omega)
          exact ⟨q.1, by omega⟩
        · cases h; exact tp _
    · refine ⟨x ||| z, fun st => rfl, ?_⟩
      split at h
      · cases h
        have b1 := (mjB.all x).2
        by_cases e : b ≤ 2147483647 ∧ d ≤ 2147483647
        · have := mj_or (x := x) (z := z) (m := if b ≤ d then d else b) (by split <;> omega) (by omega) (by omega) (by split <;> omega) (by split <;> omega)
          exact this.1
        · have hm : mjMask (if b ≤ d then d else b) = 2147483647 := by
            unfold mjMask
            repeat' split
            all_goals omega
          rw [hm]
          have := mj_or (x := x) (z := z) (m := 2147483647) (by omega) (by omega) (by omega) (by omega) (by have := (mjB.all z).2; omega)
          have m2 : mjMask 2147483647 = 2147483647 := by decide
          rw [m2] at this
          exact this.1
      · cases h; exact tp _
    · refine ⟨x ^^^ z, fun st => rfl, ?_⟩
      split at h
      · cases h
        by_cases e : b ≤ 2147483647 ∧ d ≤ 2147483647
        · have := mj_or (x := x) (z := z) (m := if b ≤ d then d else b) (by split <;> omega) (by omega) (by omega) (by split <;> omega) (by split <;> omega)
          exact this.2
        · have hm : mjMask (if b ≤ d then d else b) = 2147483647 := by
            unfold mjMask
            repeat' split
            all_goals omega
          rw [hm]
          have := mj_or (x := x) (z := z) (m := 2147483647) (by omega) (by omega) (by omega) (by have := (mjB.all x).2; omega) (by have := (mjB.all z).2; omega)
          have m2 : mjMask 2147483647 = 2147483647 := by decide
          rw [m2] at this
          exact this.2
      · cases h; exact tp _
    · refine ⟨x <<< (z &&& 31), fun st => rfl, ?_⟩
      split at h
      · rename_i hc
        obtain ⟨rfl, rfl, c1, c2⟩ := hc
        cases h
        have ex : x = 1 := hx.isc rfl
        rw [ex]
        exact mj_shl hz c1 c2
      · cases h; exact tp _
    · refine ⟨x >>> (z &&& 31), fun st => rfl, ?_⟩
      split at h
      · cases h
        have := mj_shr (x := x) (s := z &&& 31) (by omega)
        exact ⟨this.1, by omega⟩
      · cases h; exact tp _
    · refine ⟨(x.toUInt32 >>> (z.toUInt32 &&& Int32.toUInt32 31)).toInt32, fun st => rfl, ?_⟩
      split at h
      · cases h
        have := mj_ushr (x := x) (s := z) (by omega)
        exact ⟨this.1, by omega⟩
      · cases h; exact tp _
    · cases h
