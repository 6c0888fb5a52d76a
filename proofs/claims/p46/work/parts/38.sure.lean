/-! ===== by hand ===== -/
theorem m4_void {J : MjW → Prop} {sm : MjSm} {as : List Value} {w w1 : MjW} {r : Option Value} (hp : mjPost m4S J sm as w r w1) (ho : sm.2.2.1 = [((7, 0, 0, 0, 0), [], [])]) : r = none ∧ mjInv m4S J w1 ∧ mjKp m4S sm.2.2.2.1 w w1 := by
  obtain ⟨h1, h2, o, h3, h4, -, -⟩ := hp
  rw [ho] at h3
  rcases List.mem_cons.mp h3 with e | e
  · subst e
    unfold mjRs at h4
    rw [if_pos rfl] at h4
    exact ⟨h4, h1, h2⟩
  · cases e
theorem m4_one {J : MjW → Prop} {sm : MjSm} {as : List Value} {w w1 : MjW} {r : Option Value} {lo hi : Int} (hp : mjPost m4S J sm as w r w1) (ho : sm.2.2.1 = [((0, lo, hi, 0, 0), [], [])]) : ∃ u : Int32, r = some (.int u) ∧ lo ≤ u.toInt ∧ u.toInt ≤ hi ∧ mjInv m4S J w1 ∧ mjKp m4S sm.2.2.2.1 w w1 := by
  obtain ⟨h1, h2, o, h3, h4, -, -⟩ := hp
  rw [ho] at h3
  rcases List.mem_cons.mp h3 with e | e
  · subst e
    unfold mjRs at h4
    rw [if_neg (show ¬ (0 : Nat) = 7 by decide)] at h4
    obtain ⟨_, rfl, x, rfl, h5, h6⟩ := h4
    exact ⟨x, rfl, h5, h6, h1, h2⟩
  · cases e
/-- whether v fits: by the run itself -/
def m4Fit (sc : List Int32) (w : MjW) (v k u : Int32) : Prop := ∃ n : Nat, mjEx mjTb mjMt sc n 2 303 0 (mjEntry mjM_303.2.2.1 [.ref 240, .int v, .int k]) [] w = some (some (.int u), w)
theorem m4Fit_fn {sc : List Int32} {w : MjW} {v k u u1 : Int32} (h : m4Fit sc w v k u) (h1 : m4Fit sc w v k u1) : u = u1 := by
  obtain ⟨n, h⟩ := h
  obtain ⟨n1, h1⟩ := h1
  have e := mjEx_le (Nat.le_max_left n n1) h
  rw [mjEx_le (Nat.le_max_right n n1) h1] at e
  injection e with e
  injection e with e
  injection e with e
  injection e with e
  exact e.symm
theorem m4Fit_ne {sc : List Int32} {w : MjW} {v i k u : Int32} (h : m4Fit sc w v k u) (hi : m4Fit sc w i k 1) (hu : u.toInt ≠ 1) : v.toInt ≠ i.toInt := by
  intro e
  have e1 : v = i := Int32.toInt_inj.mp e
  rw [e1] at h
  have e2 := m4Fit_fn h hi
  rw [e2] at hu
  exact hu rfl
theorem H_fit {t : Int} {sc : List Int32} {w : MjW} {v k : Int32} (hI : mjInv m4S (m4J t) w) (h0 : 0 ≤ v.toInt) (h1 : v.toInt ≤ 30) : mjGo mjTb mjMt sc 2 303 (0, [some (.ref 240), some (.int v), some (.int k), none], [], w) (fun r w1 => w1 = w ∧ ∃ u : Int32, r = some (.int u) ∧ (0 ≤ u.toInt ∧ u.toInt ≤ 1 ∧ m4Fit sc w v k u)) := by
  obtain ⟨n, r, w1, e1, -, kp, o, ho, hr, -, -⟩ := mjC_m_613 (m4_ok t) (H_m t) sc w [.ref 240, .int v, .int k] mjM_303 hI ⟨⟨240, rfl, rfl⟩, ⟨v, rfl, h0, h1⟩, ⟨k, rfl, mjB.all k⟩, trivial⟩ (fun q hq => by cases hq) M_303
  have e := m4_same kp
  subst e
  rcases List.mem_cons.mp ho with e | e
  · subst e
    unfold mjRs at hr
    rw [if_neg (show ¬ (0 : Nat) = 7 by decide)] at hr
    obtain ⟨_, rfl, x, rfl, x1, x2⟩ := hr
    exact ⟨n, _, _, e1, rfl, x, rfl, x1, x2, n, e1⟩
  · cases e
theorem H_fi1 {t : Int} {sc : List Int32} {d : Nat} {P : Option Value → MjW → Prop} {w : MjW} {k : Int32} (hd : 2 ≤ d) (hI : mjInv m4S (m4J t) w) (K : ∀ c : Int32, (c.toInt ≠ 0 → ∃ i : Int32, 0 ≤ i.toInt ∧ i.toInt ≤ 30 ∧ m4Fit sc w i k 1) → P (some (.int c)) w) (n : Nat) : ∀ (c v : Int32), 0 ≤ v.toInt → 31 - v.toInt = (n : Int) → 0 ≤ c.toInt → c.toInt ≤ v.toInt → (c.toInt ≠ 0 → ∃ i : Int32, 0 ≤ i.toInt ∧ i.toInt ≤ 30 ∧ m4Fit sc w i k 1) → mjGo mjTb mjMt sc (d + 1) 301 (8, [some (.ref 240), some (.int k), some (.int c), some (.int v)], [], w) P := by
  have Tw := hI.1
  induction n with
  | zero =>
    intro c v v0 v1 c0 c1 hc
    have k_30 := c_30
    refine g_L (v := .int v) (n := 1) M_301 q_301_8 rfl ?_
    refine g_P (v := .int (30 : Int32)) (n := 2) M_301 q_301_9 rfl ?_
    refine g_icmp M_301 q_301_11 mjCi_gt (fun b1 => ?_) (fun b1 => ?_)
    · refine g_L (v := .int c) (n := 1) M_301 q_301_37 rfl ?_
      refine g_ret (v := some (.int c)) M_301 q_301_38 (h_rtI) ?_
      exact K c hc
    · exfalso; omega
  | succ n ih =>
    intro c v v0 v1 c0 c1 hc
    have k_0 := c_0
    have k_1 := c_1
    have k_30 := c_30
    refine g_L (v := .int v) (n := 1) M_301 q_301_8 rfl ?_
    refine g_P (v := .int (30 : Int32)) (n := 2) M_301 q_301_9 rfl ?_
    refine g_icmp M_301 q_301_11 mjCi_gt (fun b1 => ?_) (fun b1 => ?_)
    · exfalso; omega
    · refine g_L (v := .int c) (n := 1) M_301 q_301_14 rfl ?_
      refine g_L (v := .ref 240) (n := 1) M_301 q_301_15 rfl ?_
      refine g_L (v := .int v) (n := 1) M_301 q_301_16 rfl ?_
      refine g_L (v := .int k) (n := 1) M_301 q_301_17 rfl ?_
      refine h_run (as := [.ref 240, .int v, .int k]) (rest := [.int c]) (M1 := mjM_303) (d1 := 2) (ls0 := [some (.ref 240), some (.int v), some (.int k), none]) M_301 q_301_18 (h_cv Tw ro_240 (by decide) kd_241 (by decide) (show 2 ≤ 4 by decide) rfl (show 1 ≤ 8 by decide)) M_303 (show 3 ≤ 4 by decide) (by decide) rfl (by omega) (H_fit hI (by omega) (by omega)) (fun u2 hu2 => ?_)
      obtain ⟨hu2a, hu2b, hu2c⟩ := hu2
      refine g_if M_301 q_301_21 mjCz_eq (fun b3 => ?_) (fun b3 => ?_)
      · refine g_A (st1 := [.int (0 : Int32), .int c]) M_301 q_301_28 rfl ?_
        refine h_iadd M_301 q_301_29 (by omega) (by omega) (fun u4 hu4 => ?_)
        refine g_S (ls1 := [some (.ref 240), some (.int k), some (.int u4), some (.int v)]) (st1 := []) (n := 1) M_301 q_301_30 rfl ?_
        refine h_inc (x := v) M_301 q_301_31 rfl rfl (by omega) (by omega) rfl (fun u5 hu5 => ?_)
        show mjGo mjTb mjMt sc _ 301 (34, [some (.ref 240), some (.int k), some (.int u4), some (.int u5)], [], w) _
        refine g_goto M_301 q_301_34 ?_
        refine ih u4 u5 (by omega) (by omega) (by omega) (by omega) (fun hz => ?_)
        by_cases hone : u2.toInt = 0
        · exact hc (by omega)
        · have e1 : u2 = 1 := Int32.toInt_inj.mp (by show u2.toInt = 1; omega)
          rw [e1] at hu2c
          exact ⟨v, v0, by omega, hu2c⟩
      · refine g_A (st1 := [.int (1 : Int32), .int c]) M_301 q_301_24 rfl ?_
        refine g_goto M_301 q_301_25 ?_
        refine h_iadd M_301 q_301_29 (by omega) (by omega) (fun u6 hu6 => ?_)
        refine g_S (ls1 := [some (.ref 240), some (.int k), some (.int u6), some (.int v)]) (st1 := []) (n := 1) M_301 q_301_30 rfl ?_
        refine h_inc (x := v) M_301 q_301_31 rfl rfl (by omega) (by omega) rfl (fun u7 hu7 => ?_)
        show mjGo mjTb mjMt sc _ 301 (34, [some (.ref 240), some (.int k), some (.int u6), some (.int u7)], [], w) _
        refine g_goto M_301 q_301_34 ?_
        refine ih u6 u7 (by omega) (by omega) (by omega) (by omega) (fun hz => ?_)
        by_cases hone : u2.toInt = 0
        · exact hc (by omega)
        · have e1 : u2 = 1 := Int32.toInt_inj.mp (by show u2.toInt = 1; omega)
          rw [e1] at hu2c
          exact ⟨v, v0, by omega, hu2c⟩
theorem H_fits {t : Int} {sc : List Int32} {w : MjW} {k : Int32} (hI : mjInv m4S (m4J t) w) : mjGo mjTb mjMt sc (8 + 1) 301 (0, [some (.ref 240), some (.int k), none, none], [], w) (fun r w1 => mjInv m4S (m4J t) w1 ∧ mjShp w1 = mjShp w ∧ ∃ c : Int32, r = some (.int c) ∧ (c.toInt ≠ 0 → ∃ i : Int32, 0 ≤ i.toInt ∧ i.toInt ≤ 30 ∧ m4Fit sc w1 i k 1)) := by
  have Tw := hI.1
  have k_0 := c_0
  refine g_L (v := .ref 240) (n := 1) M_301 q_301_0 rfl ?_
  refine h_ctr (J := m4J t) (sm := mjSm_m_611) (as := [.ref 240]) (rest := []) (M1 := mjM_302) M_301 q_301_1 (h_cv Tw ro_240 (by decide) kd_241 (by decide) (by decide) rfl (by decide)) M_302 (by decide) (by decide) (by decide) (mjC_m_611 (m4_ok t) (H_m t)) hI ⟨⟨240, rfl, rfl⟩, trivial⟩ (fun q hq => by cases hq) ?_
  intro r w1 hp
  obtain ⟨rfl, hI1, kp1⟩ := m4_void hp rfl
  refine g_A (st1 := [.int (0 : Int32)]) M_301 q_301_4 rfl ?_
  refine g_S (ls1 := [some (.ref 240), some (.int k), some (.int (0 : Int32)), none]) (st1 := []) (n := 1) M_301 q_301_5 rfl ?_
  refine g_A (st1 := [.int (0 : Int32)]) M_301 q_301_6 rfl ?_
  refine g_S (ls1 := [some (.ref 240), some (.int k), some (.int (0 : Int32)), some (.int (0 : Int32))]) (st1 := []) (n := 1) M_301 q_301_7 rfl ?_
  exact H_fi1 (by decide) hI1 (fun c hc => ⟨hI1, kp1.1, c, rfl, hc⟩) 31 (0 : Int32) (0 : Int32) (by decide) (by decide) (by decide) (by decide) (fun h => absurd rfl h)
theorem H_su1 {t : Int} {sc : List Int32} {d : Nat} {P : Option Value → MjW → Prop} {w : MjW} {a k : Int32} (hd : 2 ≤ d) (hI : mjInv m4S (m4J t) w) (K : ∀ c : Int32, P (some (.int c)) w) {i : Int32} (hi : m4Fit sc w i k 1) (i0 : 0 ≤ i.toInt) (i1 : i.toInt ≤ 30) (n : Nat) : ∀ v : Int32, 0 ≤ v.toInt → v.toInt ≤ 30 → (a.toInt = 0 → v.toInt ≤ i.toInt ∧ 30 - v.toInt < (n : Int)) → (a.toInt ≠ 0 → i.toInt ≤ v.toInt ∧ v.toInt < (n : Int)) → mjGo mjTb mjMt sc (d + 1) 305 (30, [some (.ref 240), some (.int a), some (.int k), some (.int v)], [], w) P := by
  have Tw := hI.1
  induction n with
  | zero => intro v v0 v1 a0 a1; exfalso; omega
  | succ n ih =>
    intro v v0 v1 a0 a1
    have k_m1 := c_m1
    have k_1 := c_1
    refine g_L (v := .ref 240) (n := 1) M_305 q_305_30 rfl ?_
    refine g_L (v := .int v) (n := 1) M_305 q_305_31 rfl ?_
    refine g_L (v := .int k) (n := 1) M_305 q_305_32 rfl ?_
    refine h_run (as := [.ref 240, .int v, .int k]) (rest := []) (M1 := mjM_303) (d1 := 2) (ls0 := [some (.ref 240), some (.int v), some (.int k), none]) M_305 q_305_33 (h_cv Tw ro_240 (by decide) kd_241 (by decide) (show 2 ≤ 3 by decide) rfl (show 0 ≤ 8 by decide)) M_303 (show 3 ≤ 4 by decide) (by decide) rfl (by omega) (H_fit hI (by omega) (by omega)) (fun u1 hu1 => ?_)
    obtain ⟨hu1a, hu1b, hu1c⟩ := hu1
    refine g_if M_305 q_305_36 mjCz_ne (fun b2 => ?_) (fun b2 => ?_)
    · refine g_L (v := .int v) (n := 1) M_305 q_305_54 rfl ?_
      refine g_ret (v := some (.int v)) M_305 q_305_55 (h_rtI) ?_
      exact K _
    · have hne2 : v.toInt ≠ i.toInt := m4Fit_ne hu1c hi (by omega)
      refine g_L (v := .int v) (n := 1) M_305 q_305_39 rfl ?_
      refine g_L (v := .int a) (n := 1) M_305 q_305_40 rfl ?_
      refine g_if M_305 q_305_41 mjCz_ne (fun b3 => ?_) (fun b3 => ?_)
      · refine g_A (st1 := [.int (-1 : Int32), .int v]) M_305 q_305_48 rfl ?_
        refine h_iadd M_305 q_305_49 (by omega) (by omega) (fun u4 hu4 => ?_)
        refine g_S (ls1 := [some (.ref 240), some (.int a), some (.int k), some (.int u4)]) (st1 := []) (n := 1) M_305 q_305_50 rfl ?_
        refine g_goto M_305 q_305_51 ?_
        exact ih u4 (by omega) (by omega) (fun _ => by omega) (fun _ => by omega)
      · refine g_A (st1 := [.int (1 : Int32), .int v]) M_305 q_305_44 rfl ?_
        refine g_goto M_305 q_305_45 ?_
        refine h_iadd M_305 q_305_49 (by omega) (by omega) (fun u5 hu5 => ?_)
        refine g_S (ls1 := [some (.ref 240), some (.int a), some (.int k), some (.int u5)]) (st1 := []) (n := 1) M_305 q_305_50 rfl ?_
        refine g_goto M_305 q_305_51 ?_
        exact ih u5 (by omega) (by omega) (fun _ => by omega) (fun _ => by omega)
theorem H_sure {t : Int} {sc : List Int32} {w : MjW} {a k : Int32} (hI : mjInv m4S (m4J t) w) : mjGo mjTb mjMt sc (9 + 1) 305 (0, [some (.ref 240), some (.int a), some (.int k), none], [], w) (fun r w1 => mjInv m4S (m4J t) w1 ∧ mjShp w1 = mjShp w ∧ ∃ c : Int32, r = some (.int c)) := by
  have Tw := hI.1
  have k_m1 := c_m1
  have k_0 := c_0
  have k_1 := c_1
  have k_30 := c_30
  refine g_L (v := .int a) (n := 1) M_305 q_305_0 rfl ?_
  refine g_A (st1 := [.int (0 : Int32), .int a]) M_305 q_305_1 rfl ?_
  refine g_A (st1 := [.int (1 : Int32), .int (0 : Int32), .int a]) M_305 q_305_2 rfl ?_
  refine h_run (as := [.int a, .int (0 : Int32), .int (1 : Int32)]) (rest := []) (M1 := mjM_221) (d1 := 0) (ls0 := [some (.int a), some (.int (0 : Int32)), some (.int (1 : Int32))]) M_305 q_305_3 rfl M_221 (show 3 ≤ 3 by decide) (by decide) rfl (by omega) H_isIn (fun u1 hu1 => ?_)
  refine g_if M_305 q_305_6 mjCz_eq (fun b2 => ?_) (fun b2 => ?_)
  · refine g_A (st1 := [.int (-1 : Int32)]) M_305 q_305_17 rfl ?_
    refine g_ret (v := some (.int (-1 : Int32))) M_305 q_305_18 (h_rtI) ?_
    exact ⟨hI, rfl, _, rfl⟩
  · refine g_L (v := .ref 240) (n := 1) M_305 q_305_9 rfl ?_
    refine g_L (v := .int k) (n := 1) M_305 q_305_10 rfl ?_
    refine g_call (d := 9) (y1 := 301) (as := [.ref 240, .int k]) (rest := []) (M1 := mjM_301) (d1 := 9) (ls0 := [some (.ref 240), some (.int k), none, none]) M_305 q_305_11 (h_cv Tw ro_240 (by decide) kd_241 (by decide) (show 1 ≤ 2 by decide) rfl (show 0 ≤ 8 by decide)) M_301 (show 2 ≤ 4 by decide) (by decide) rfl (by decide) (H_fits hI) ?_
    rintro r w1 ⟨hI1, s1, c, rfl, hc⟩
    have Tw1 := hI1.1
    refine g_if M_305 q_305_14 mjCz_ne (fun b3 => ?_) (fun b3 => ?_)
    · refine g_L (v := .int a) (n := 1) M_305 q_305_19 rfl ?_
      refine g_if M_305 q_305_20 mjCz_ne (fun b4 => ?_) (fun b4 => ?_)
      · refine g_P (v := .int (30 : Int32)) (n := 2) M_305 q_305_27 rfl ?_
        refine g_S (ls1 := [some (.ref 240), some (.int a), some (.int k), some (.int (30 : Int32))]) (st1 := []) (n := 1) M_305 q_305_29 rfl ?_
        obtain ⟨i, i0, i1, hi⟩ := hc (by omega)
        exact H_su1 (by decide) hI1 (fun c => ⟨hI1, s1, c, rfl⟩) hi i0 i1 32 (30 : Int32) (by omega) (by omega) (fun _ => by omega) (fun _ => by omega)
      · refine g_A (st1 := [.int (0 : Int32)]) M_305 q_305_23 rfl ?_
        refine g_goto M_305 q_305_24 ?_
        refine g_S (ls1 := [some (.ref 240), some (.int a), some (.int k), some (.int (0 : Int32))]) (st1 := []) (n := 1) M_305 q_305_29 rfl ?_
        obtain ⟨i, i0, i1, hi⟩ := hc (by omega)
        exact H_su1 (by decide) hI1 (fun c => ⟨hI1, s1, c, rfl⟩) hi i0 i1 32 (0 : Int32) (by omega) (by omega) (fun _ => by omega) (fun _ => by omega)
    · refine g_A (st1 := [.int (-1 : Int32)]) M_305 q_305_17 rfl ?_
      refine g_ret (v := some (.int (-1 : Int32))) M_305 q_305_18 (h_rtI) ?_
      exact ⟨hI1, s1, _, rfl⟩
