/-! ===== rules for methods by hand: one instruction each, values as ints of places ===== -/
/-- the int at a place -/
def m4X (w : MjW) (a k : Nat) : Int32 := match mjFld w a k with | some (.int x) => x | _ => 0
theorem m4X_of {w : MjW} {a k : Nat} {x : Int32} (h : mjFld w a k = some (.int x)) : m4X w a k = x := by unfold m4X; rw [h]
def m4Up (w w1 : MjW) (a k : Nat) (v : Value) : Prop := mjShp w1 = mjShp w ∧ mjFld w1 a k = some v ∧ mjOff w w1 a k
theorem m4Up.at {w w1 : MjW} {a k : Nat} {x : Int32} (h : m4Up w w1 a k (.int x)) : (m4X w1 a k).toInt = x.toInt := by rw [m4X_of h.2.1]
theorem m4Up.fld {w w1 : MjW} {a k b j : Nat} {v : Value} (h : m4Up w w1 a k v) (hn : b ≠ a ∨ j ≠ k) : mjFld w1 b j = mjFld w b j := h.2.2 b j (fun e1 e2 => hn.elim (fun q => q e1) (fun q => q e2))
theorem m4Up.X {w w1 : MjW} {a k b j : Nat} {v : Value} (h : m4Up w w1 a k v) (hn : b ≠ a ∨ j ≠ k) : m4X w1 b j = m4X w b j := by unfold m4X; rw [h.fld hn]
theorem m4Up.ne {w w1 : MjW} {a k b j : Nat} {v : Value} (h : m4Up w w1 a k v) (hn : b ≠ a ∨ j ≠ k) : (m4X w1 b j).toInt = (m4X w b j).toInt := by rw [h.X hn]
theorem m4Up.kp {w w1 : MjW} {a k r : Nat} {v : Value} {mods : List (Nat × Nat)} (h : m4Up w w1 a k v) (hr : m4S.1 a = r) (hm : aiMod mods r k = true) : mjKp m4S mods w w1 := mjKp_off (by rw [hr]; exact hm) h.1 h.2.2
theorem mjKp.X {w w1 : MjW} {mods : List (Nat × Nat)} (h : mjKp m4S mods w w1) {a k r : Nat} (hr : m4S.1 a = r) (hm : aiMod mods r k = false) : m4X w1 a k = m4X w a k := by unfold m4X; rw [h.2 a k (by rw [hr]; exact hm)]
/-- what a typed world holds at an int's place -/
theorem m4_int {w : MjW} (hT : mjTyd m4S w) {a k r n : Nat} {lo hi : Int} (h0 : m4S.1 a = r) (hr : 0 < r) (hn : m4S.2.2.1 r = n) (hk : k < n) (ht : m4S.2.2.2 r k = (0, lo, hi)) : mjFld w a k = some (.int (m4X w a k)) ∧ lo ≤ (m4X w a k).toInt ∧ (m4X w a k).toInt ≤ hi := by
  obtain ⟨vs, g1, g2, g3⟩ := hT.at h0 hr
  have hv : vs[k]? = some vs[k] := List.getElem?_eq_getElem (by rw [g2, hn]; exact hk)
  have h9 := g3 k _ hv
  rw [ht] at h9
  obtain ⟨x, e1, e2⟩ := h9
  have hf : mjFld w a k = some (.int x) := by unfold mjFld; rw [g1]; exact hv.trans (by rw [e1])
  rw [m4X_of hf]
  exact ⟨hf, e2⟩
theorem m4_ref {w : MjW} (hT : mjTyd m4S w) {a k r n b : Nat} {z : Int} (h0 : m4S.1 a = r) (hr : 0 < r) (hn : m4S.2.2.1 r = n) (hk : k < n) (ht : m4S.2.2.2 r k = (3, (b : Int), z)) : mjFld w a k = some (.ref b) := by
  obtain ⟨vs, g1, g2, g3⟩ := hT.at h0 hr
  have hv : vs[k]? = some vs[k] := List.getElem?_eq_getElem (by rw [g2, hn]; exact hk)
  have h9 := g3 k _ hv
  rw [ht] at h9
  obtain ⟨x, e1, e2⟩ := h9
  have : x = b := Int.ofNat.inj e2
  subst this
  unfold mjFld; rw [g1]; exact hv.trans (by rw [e1])
theorem m4_kd {w : MjW} (hT : mjTyd m4S w) {a r c : Nat} (h0 : m4S.1 a = r) (hr : 0 < r) (hc : m4S.2.1 r = c) : ∃ vs, w[a]? = some (c, vs) ∧ vs.length = m4S.2.2.1 r := by
  obtain ⟨vs, g1, g2, -⟩ := hT.at h0 hr
  exact ⟨vs, by rw [g1, hc], g2⟩
section M4H
variable {sc : List Int32} {d y pc : Nat} {ls ls1 : MjL} {st st1 : List Value} {w : MjW} {P : Option Value → MjW → Prop} {M : MjM} {inf : List Nat} {ins : Instr} {len : Nat}
theorem h_get {a k r ci idx : Nat} {tl : List Nat} {v : Value} (hM : mjMt y = some M) (hq : mjTb y pc = some (.getfield idx, len, 4, ci :: k :: tl)) (hT : mjTyd m4S w) (h0 : m4S.1 a = r) (hr : 0 < r) (hc : m4S.2.1 r = ci) (hf : mjFld w a k = some v) (kk : mjGo mjTb mjMt sc d y (pc + 3, ls, v :: st, w) P) : mjGo mjTb mjMt sc d y (pc, ls, .ref a :: st, w) P := by
  obtain ⟨vs, g1, -⟩ := m4_kd hT h0 hr hc
  have hv : vs[k]? = some v := by unfold mjFld at hf; rw [g1] at hf; exact hf
  refine g_H (n := 3) (st1 := v :: st) (w1 := w) hM hq ?_ kk
  unfold mjH
  simp only [g1, if_true, hv]
theorem h_put {a k r ci idx n : Nat} {tl : List Nat} {v : Value} (hM : mjMt y = some M) (hq : mjTb y pc = some (.putfield idx, len, 4, ci :: k :: tl)) (hT : mjTyd m4S w) (h0 : m4S.1 a = r) (hr : 0 < r) (hc : m4S.2.1 r = ci) (hn : m4S.2.2.1 r = n) (hk : k < n) (hfit : mjFit (mjTyp ci k) v = true) (ht : mjHasT m4S v (m4S.2.2.2 r k)) (kk : ∀ w1 : MjW, mjTyd m4S w1 → m4Up w w1 a k v → mjGo mjTb mjMt sc d y (pc + 3, ls, st, w1) P) : mjGo mjTb mjMt sc d y (pc, ls, v :: .ref a :: st, w) P := by
  obtain ⟨vs, g1, g2⟩ := m4_kd hT h0 hr hc
  have hlt : k < vs.length := by rw [g2, hn]; exact hk
  obtain ⟨f1, f2⟩ := mjFld_set (v := v) g1 hlt
  refine g_H (n := 3) (st1 := st) (w1 := w.set a (ci, vs.set k v)) hM hq ?_ (kk _ (hT.set g1 (by rw [h0]; exact ht)) ⟨mjShp_set g1 List.length_set, f1, f2⟩)
  unfold mjH
  simp only [g1]
  rw [if_pos ⟨trivial, hlt, hfit⟩]
theorem h_ald {a r j : Nat} {x : Int32} {v : Value} (hM : mjMt y = some M) (hq : mjTb y pc = some (.iaload, len, 4, inf)) (hT : mjTyd m4S w) (h0 : m4S.1 a = r) (hr : 0 < r) (hc : m4S.2.1 r = 100) (hx : x.toInt = (j : Int)) (hf : mjFld w a j = some v) (kk : mjGo mjTb mjMt sc d y (pc + 1, ls, v :: st, w) P) : mjGo mjTb mjMt sc d y (pc, ls, .int x :: .ref a :: st, w) P := by
  obtain ⟨vs, g1, -⟩ := m4_kd hT h0 hr hc
  have hv : vs[j]? = some v := by unfold mjFld at hf; rw [g1] at hf; exact hf
  have hj : j < vs.length := (List.getElem?_eq_some_iff.mp hv).1
  obtain ⟨i0, i1, i2⟩ := mj_ix (n := vs.length) (x := x) (lo := (j : Int)) (hi := (j : Int)) ⟨by omega, by omega⟩ (by omega) (by omega)
  have e : x.toNatClampNeg = j := by omega
  have hrd : mjRd vs x = some v := by unfold mjRd; rw [if_neg i0, e]; exact hv
  refine g_H (n := 1) (st1 := v :: st) (w1 := w) hM hq ?_ kk
  unfold mjH; simp only [g1, if_true, hrd]
theorem h_ast {a r j n : Nat} {x z : Int32} (hM : mjMt y = some M) (hq : mjTb y pc = some (.iastore, len, 4, inf)) (hT : mjTyd m4S w) (h0 : m4S.1 a = r) (hr : 0 < r) (hc : m4S.2.1 r = 100) (hn : m4S.2.2.1 r = n) (hx : x.toInt = (j : Int)) (hj : j < n) (ht : mjHasT m4S (.int z) (m4S.2.2.2 r j)) (kk : ∀ w1 : MjW, mjTyd m4S w1 → m4Up w w1 a j (.int z) → mjGo mjTb mjMt sc d y (pc + 1, ls, st, w1) P) : mjGo mjTb mjMt sc d y (pc, ls, .int z :: .int x :: .ref a :: st, w) P := by
  obtain ⟨vs, g1, g2⟩ := m4_kd hT h0 hr hc
  have hlt : j < vs.length := by rw [g2, hn]; exact hj
  obtain ⟨i0, i1, i2⟩ := mj_ix (n := vs.length) (x := x) (lo := (j : Int)) (hi := (j : Int)) ⟨by omega, by omega⟩ (by omega) (by omega)
  have e : x.toNatClampNeg = j := by omega
  have hwr : mjWr vs x (.int z) = some (vs.set j (.int z)) := by unfold mjWr; rw [if_neg i0, e, if_pos hlt]
  obtain ⟨f1, f2⟩ := mjFld_set (v := .int z) g1 hlt
  refine g_H (n := 1) (st1 := st) (w1 := w.set a (100, vs.set j (.int z))) hM hq ?_ (kk _ (hT.set g1 (by rw [h0]; exact ht)) ⟨mjShp_set g1 List.length_set, f1, f2⟩)
  unfold mjH; simp only [g1, if_true, hwr]
theorem h_iadd {x z : Int32} (hM : mjMt y = some M) (hq : mjTb y pc = some (.iadd, len, 0, inf)) (h1 : -2147483648 ≤ x.toInt + z.toInt) (h2 : x.toInt + z.toInt ≤ 2147483647) (k : ∀ u : Int32, u.toInt = x.toInt + z.toInt → mjGo mjTb mjMt sc d y (pc + 1, ls, .int u :: st, w) P) : mjGo mjTb mjMt sc d y (pc, ls, .int z :: .int x :: st, w) P :=
  g_A hM hq rfl (k _ (mj_add h1 h2))
theorem h_isub {x z : Int32} (hM : mjMt y = some M) (hq : mjTb y pc = some (.isub, len, 0, inf)) (h1 : -2147483648 ≤ x.toInt - z.toInt) (h2 : x.toInt - z.toInt ≤ 2147483647) (k : ∀ u : Int32, u.toInt = x.toInt - z.toInt → mjGo mjTb mjMt sc d y (pc + 1, ls, .int u :: st, w) P) : mjGo mjTb mjMt sc d y (pc, ls, .int z :: .int x :: st, w) P :=
  g_A hM hq rfl (k _ (mj_sub h1 h2))
theorem h_imul {x z : Int32} (hM : mjMt y = some M) (hq : mjTb y pc = some (.imul, len, 0, inf)) (h1 : -2147483648 ≤ x.toInt * z.toInt) (h2 : x.toInt * z.toInt ≤ 2147483647) (k : ∀ u : Int32, u.toInt = x.toInt * z.toInt → mjGo mjTb mjMt sc d y (pc + 1, ls, .int u :: st, w) P) : mjGo mjTb mjMt sc d y (pc, ls, .int z :: .int x :: st, w) P :=
  g_A hM hq rfl (k _ (mj_mul h1 h2))
theorem h_inc {x : Int32} {i : Nat} {n : Int} (hM : mjMt y = some M) (hq : mjTb y pc = some (.iinc i n, len, 2, inf)) (hl : ls[i]? = some (some (.int x))) (hn : (Int32.ofInt n).toInt = n) (h1 : -2147483648 ≤ x.toInt + n) (h2 : x.toInt + n ≤ 2147483647) (hs : mjFree ls i = true) (k : ∀ u : Int32, u.toInt = x.toInt + n → mjGo mjTb mjMt sc d y (pc + 3, ls.set i (some (.int u)), st, w) P) : mjGo mjTb mjMt sc d y (pc, ls, st, w) P := by
  have hi : i < ls.length := (List.getElem?_eq_some_iff.mp hl).1
  have e : (x + Int32.ofInt n).toInt = x.toInt + n := by
    rw [mj_add (by rw [hn]; omega) (by rw [hn]; omega), hn]
  exact g_S (ls1 := ls.set i (some (.int (x + Int32.ofInt n)))) hM hq (by unfold mjSo; simp only [hl]; unfold mjS1; rw [if_pos ⟨hi, hs⟩]; rfl) (k _ e)
/-- a call by a contract -/
theorem h_ctr {J : MjW → Prop} {y1 : Nat} {as rest : List Value} {M1 : MjM} {sm : MjSm} (hM : mjMt y = some M) (hq : mjTb y pc = some (ins, len, 6, inf)) (hC : mjC ins inf st w = some (y1, as, rest)) (hM1 : mjMt y1 = some M1) (hl : (mjEnc as).length ≤ M1.2.2.1) (hy : 0 < y1) (hd : sm.2.2.2.2 ≤ d) (ctr : mjCtr m4S J y1 sm) (hI : mjInv m4S J w) (ha : mjArgs m4S as sm.1) (hf : mjFs0 m4S w sm.2.1) (kk : ∀ (r : Option Value) (w1 : MjW), mjPost m4S J sm as w r w1 → mjGo mjTb mjMt sc (d + 1) y (pc + 3, ls, r.toList ++ rest, w1) P) : mjGo mjTb mjMt sc (d + 1) y (pc, ls, st, w) P :=
  g_call hM hq hC hM1 hl hy rfl hd (ctr sc w as M1 hI ha hf hM1) kk
theorem h_cv {a r n ci y1 : Nat} {tl : List Nat} {rest : List Value} {i : Nat} (hT : mjTyd m4S w) (h0 : m4S.1 a = r) (hr : 0 < r) (hc : m4S.2.1 r = ci) (hci : ci < 100) (hn : n ≤ st.length) (hd : st.drop n = .ref a :: rest) (hcat : mjCat rest ≤ 8) : mjC (.invokevirtual i) (0 :: y1 :: n :: ci :: tl) st w = some (y1, .ref a :: (st.take n).reverse, rest) := by
  obtain ⟨vs, g1, -⟩ := m4_kd hT h0 hr hc
  simp only [mjC, hd, g1]
  rw [if_pos ⟨trivial, hci, hn, hcat⟩]
end M4H
theorem m4_ri {x : Int32} {lo hi : Int} (h1 : lo ≤ x.toInt) (h2 : x.toInt ≤ hi) : mjRs m4S (some (.int x)) (0, lo, hi, 0, 0) := by
  unfold mjRs
  rw [if_neg (show ¬ (0 : Nat) = 7 by decide)]
  exact ⟨_, rfl, x, rfl, h1, h2⟩
theorem m4_rv : mjRs m4S none (7, 0, 0, 0, 0) := by unfold mjRs; rw [if_pos rfl]
/-- the end of a method by hand: one end, no facts -/
theorem m4_post {J : MjW → Prop} {sm : MjSm} {as : List Value} {w w1 : MjW} {r : Option Value} {p : MjQ} (hs : sm.2.2.1 = [(p, [], [])]) (hT : mjTyd m4S w1) (hJ : J w1) (hk : mjKp m4S sm.2.2.2.1 w w1) (hr : mjRs m4S r p) : mjPost m4S J sm as w r w1 := ⟨⟨hT, hJ⟩, hk, (p, [], []), by rw [hs]; exact List.mem_cons_self, hr, fun q hq => (by cases hq), fun q hq => (by cases hq)⟩
theorem m4_args1 {as : List Value} (h : mjArgs m4S as [(3, 240, 240, 0, 0)]) : as = [.ref 240] := by
  match as, h with
  | [v], ⟨⟨a, e1, e2⟩, _⟩ => subst e1; have : a = 240 := Int.ofNat.inj e2; subst this; rfl
theorem m4_intT {w : MjW} (hT : mjTyd m4S w) {a k r n : Nat} (h0 : m4S.1 a = r) (hr : 0 < r) (hn : m4S.2.2.1 r = n) (hk : k < n) (ht : (m4S.2.2.2 r k).1 = 0) : mjFld w a k = some (.int (m4X w a k)) := (m4_int hT h0 hr hn hk (lo := (m4S.2.2.2 r k).2.1) (hi := (m4S.2.2.2 r k).2.2) (by rw [← ht])).1
theorem m4_has {w : MjW} (hT : mjTyd m4S w) {a k r : Nat} {v : Value} (h0 : m4S.1 a = r) (hr : 0 < r) (hf : mjFld w a k = some v) : mjHasT m4S v (m4S.2.2.2 r k) := by
  obtain ⟨vs, g1, g2, g3⟩ := hT.at h0 hr
  unfold mjFld at hf
  rw [g1] at hf
  exact g3 k v hf
theorem m4_hasI {x : Int32} {t : MjTy} {lo hi : Int} (ht : t = (0, lo, hi)) (h1 : lo ≤ x.toInt) (h2 : x.toInt ≤ hi) : mjHasT m4S (.int x) t := by rw [ht]; exact ⟨x, rfl, h1, h2⟩
theorem mjTs_mod {ts : List MjTy} {j : Nat} (h : ts.length = 70) : mjTs ts j = mjTs ts (j % 70) := by
  unfold mjTs
  split
  · cases h
  · rw [h, Nat.mod_mod]
