theorem mjQ_162_0 : mjTb 162 0 = some (.iload_n 1, 1, 1, []) := by decide +kernel
theorem mjQ_162_1 : mjTb 162 1 = some (.ifCond .lt 25, 3, 3, [26]) := by decide +kernel
theorem mjQ_162_4 : mjTb 162 4 = some (.iload_n 1, 1, 1, []) := by decide +kernel
theorem mjQ_162_5 : mjTb 162 5 = some (.sipush 1000, 3, 5, []) := by decide +kernel
theorem mjQ_162_8 : mjTb 162 8 = some (.if_icmp .gt 18, 3, 3, [26]) := by decide +kernel
theorem mjQ_162_11 : mjTb 162 11 = some (.aload_n 0, 1, 1, []) := by decide +kernel
theorem mjQ_162_12 : mjTb 162 12 = some (.getfield 36, 3, 4, [9, 10, 681]) := by decide +kernel
theorem mjQ_162_15 : mjTb 162 15 = some (.getfield 323, 3, 4, [4, 8, 415]) := by decide +kernel
theorem mjQ_162_18 : mjTb 162 18 = some (.iload_n 1, 1, 1, []) := by decide +kernel
theorem mjQ_162_19 : mjTb 162 19 = some (.iadd, 1, 0, []) := by decide +kernel
theorem mjQ_162_20 : mjTb 162 20 = some (.ldc_w 326, 3, 5, [0, 100000, 1339]) := by decide +kernel
theorem mjQ_162_23 : mjTb 162 23 = some (.if_icmp .le 5, 3, 3, [28]) := by decide +kernel
theorem mjQ_162_26 : mjTb 162 26 = some (.iconst (-1), 1, 0, []) := by decide +kernel
theorem mjQ_162_27 : mjTb 162 27 = some (.ireturn, 1, 8, []) := by decide +kernel
theorem mjQ_162_28 : mjTb 162 28 = some (.aload_n 0, 1, 1, []) := by decide +kernel
theorem mjQ_162_29 : mjTb 162 29 = some (.getfield 36, 3, 4, [9, 10, 681]) := by decide +kernel
theorem mjQ_162_32 : mjTb 162 32 = some (.dup, 1, 0, []) := by decide +kernel
theorem mjQ_162_33 : mjTb 162 33 = some (.getfield 323, 3, 4, [4, 8, 415]) := by decide +kernel
theorem mjQ_162_36 : mjTb 162 36 = some (.iload_n 1, 1, 1, []) := by decide +kernel
theorem mjQ_162_37 : mjTb 162 37 = some (.iadd, 1, 0, []) := by decide +kernel
theorem mjQ_162_38 : mjTb 162 38 = some (.putfield 323, 3, 4, [4, 8, 415]) := by decide +kernel
theorem mjQ_162_41 : mjTb 162 41 = some (.aload_n 0, 1, 1, []) := by decide +kernel
theorem mjQ_162_42 : mjTb 162 42 = some (.getfield 36, 3, 4, [9, 10, 681]) := by decide +kernel
theorem mjQ_162_45 : mjTb 162 45 = some (.getfield 323, 3, 4, [4, 8, 415]) := by decide +kernel
theorem mjQ_162_48 : mjTb 162 48 = some (.ireturn, 1, 8, []) := by decide +kernel
theorem mjQ_300_0 : mjTb 300 0 = some (.iload_n 1, 1, 1, []) := by decide +kernel
theorem mjQ_300_1 : mjTb 300 1 = some (.iconst 0, 1, 0, []) := by decide +kernel
theorem mjQ_300_2 : mjTb 300 2 = some (.sipush 1000, 3, 5, []) := by decide +kernel
theorem mjQ_300_5 : mjTb 300 5 = some (.invokestatic 416, 3, 6, [0, 221, 3, 0, 1833, 1834, 142]) := by decide +kernel
theorem mjQ_300_8 : mjTb 300 8 = some (.ifCond .eq 15, 3, 3, [23]) := by decide +kernel
theorem mjQ_300_11 : mjTb 300 11 = some (.aload_n 0, 1, 1, []) := by decide +kernel
theorem mjQ_300_12 : mjTb 300 12 = some (.getfield 562, 3, 4, [10, 74, 1489]) := by decide +kernel
theorem mjQ_300_15 : mjTb 300 15 = some (.iload_n 1, 1, 1, []) := by decide +kernel
theorem mjQ_300_16 : mjTb 300 16 = some (.iadd, 1, 0, []) := by decide +kernel
theorem mjQ_300_17 : mjTb 300 17 = some (.ldc_w 565, 3, 5, [0, 100000, 2148]) := by decide +kernel
theorem mjQ_300_20 : mjTb 300 20 = some (.if_icmp .le 5, 3, 3, [25]) := by decide +kernel
theorem mjQ_300_23 : mjTb 300 23 = some (.iconst (-1), 1, 0, []) := by decide +kernel
theorem mjQ_300_24 : mjTb 300 24 = some (.ireturn, 1, 8, []) := by decide +kernel
theorem mjQ_300_25 : mjTb 300 25 = some (.aload_n 0, 1, 1, []) := by decide +kernel
theorem mjQ_300_26 : mjTb 300 26 = some (.dup, 1, 0, []) := by decide +kernel
theorem mjQ_300_27 : mjTb 300 27 = some (.getfield 562, 3, 4, [10, 74, 1489]) := by decide +kernel
theorem mjQ_300_30 : mjTb 300 30 = some (.iload_n 1, 1, 1, []) := by decide +kernel
theorem mjQ_300_31 : mjTb 300 31 = some (.iadd, 1, 0, []) := by decide +kernel
theorem mjQ_300_32 : mjTb 300 32 = some (.putfield 562, 3, 4, [10, 74, 1489]) := by decide +kernel
theorem mjQ_300_35 : mjTb 300 35 = some (.aload_n 0, 1, 1, []) := by decide +kernel
theorem mjQ_300_36 : mjTb 300 36 = some (.getfield 562, 3, 4, [10, 74, 1489]) := by decide +kernel
theorem mjQ_300_39 : mjTb 300 39 = some (.ireturn, 1, 8, []) := by decide +kernel
theorem mjQ_221_0 : mjTb 221 0 = some (.iload_n 0, 1, 1, []) := by decide +kernel
theorem mjQ_221_1 : mjTb 221 1 = some (.iload_n 1, 1, 1, []) := by decide +kernel
theorem mjQ_221_2 : mjTb 221 2 = some (.if_icmp .lt 12, 3, 3, [14]) := by decide +kernel
theorem mjQ_221_5 : mjTb 221 5 = some (.iload_n 0, 1, 1, []) := by decide +kernel
theorem mjQ_221_6 : mjTb 221 6 = some (.iload_n 2, 1, 1, []) := by decide +kernel
theorem mjQ_221_7 : mjTb 221 7 = some (.if_icmp .gt 7, 3, 3, [14]) := by decide +kernel
theorem mjQ_221_10 : mjTb 221 10 = some (.iconst 1, 1, 0, []) := by decide +kernel
theorem mjQ_221_11 : mjTb 221 11 = some (.goto 4, 3, 3, [15]) := by decide +kernel
theorem mjQ_221_14 : mjTb 221 14 = some (.iconst 0, 1, 0, []) := by decide +kernel
theorem mjQ_221_15 : mjTb 221 15 = some (.ireturn, 1, 8, []) := by decide +kernel
section MjLater
variable {sc : List Int32} {d y pc : Nat} {ls : MjL} {st : List Value} {w : MjW} {P : Option Value → MjW → Prop} {M : MjM} {len : Nat}
theorem g_fld {a ci k idx : Nat} {tl : List Nat} {vs : List Value} {v : Value} (hM : mjMt y = some M) (hq : mjTb y pc = some (.getfield idx, len, 4, ci :: k :: tl)) (hw : w[a]? = some (ci, vs)) (hv : vs[k]? = some v) (kk : mjGo mjTb mjMt sc d y (pc + 3, ls, v :: st, w) P) : mjGo mjTb mjMt sc d y (pc, ls, .ref a :: st, w) P :=
  g_H (n := 3) (st1 := v :: st) (w1 := w) hM hq (by unfold mjH; simp only [hw, if_true, hv]) kk
theorem g_pfl {a ci k idx : Nat} {tl : List Nat} {vs : List Value} {v : Value} (hM : mjMt y = some M) (hq : mjTb y pc = some (.putfield idx, len, 4, ci :: k :: tl)) (hw : w[a]? = some (ci, vs)) (hk : k < vs.length) (hf : mjFit (mjTyp ci k) v = true) (kk : mjGo mjTb mjMt sc d y (pc + 3, ls, st, w.set a (ci, vs.set k v)) P) : mjGo mjTb mjMt sc d y (pc, ls, v :: .ref a :: st, w) P :=
  g_H (n := 3) (st1 := st) (w1 := w.set a (ci, vs.set k v)) hM hq (by unfold mjH; simp only [hw]; rw [if_pos ⟨trivial, hk, hf⟩]) kk
theorem mjMtX : mjMt 162 = some mjM_162 := rfl
theorem mjMtM : mjMt 300 = some mjM_300 := rfl
theorem mjMtI : mjMt 221 = some mjM_221 := rfl
theorem mj1000 : ((Int16.ofInt 1000).toInt32).toInt = 1000 := by decide
theorem mj100000 : (Int32.ofNat 100000).toInt = 100000 := by decide
theorem mjLater_x (s1 : Int32) (h : mjB s1 0 1000) : mjGo mjTb mjMt sc 1 162 (0, [some (.ref 0), some (.int s1)], [], mjW0) (fun r u => r = some (.int (0 + s1)) ∧ u = mjW0.set 185 (4, (mjC0 185).2.set 8 (.int (0 + s1)))) := by
  have c0 : mjW0[0]? = some (9, (mjC0 0).2) := mjW0_at (a := 0) (by decide)
  have c185 : mjW0[185]? = some (4, (mjC0 185).2) := mjW0_at (a := 185) (by decide)
  have f0 : (mjC0 0).2[10]? = some (.ref 185) := rfl
  have f185 : (mjC0 185).2[8]? = some (.int 0) := rfl
  have l185 : 8 < (mjC0 185).2.length := by decide
  have n185 : 185 < mjW0.length := (List.getElem?_eq_some_iff.mp c185).1
  have e : (0 : Int32) + s1 = s1 := Int32.zero_add s1
  have h1 := h.1
  have h2 := h.2
  refine g_L (v := .int s1) (n := 1) mjMtX mjQ_162_0 rfl ?_
  refine g_if mjMtX mjQ_162_1 mjCz_lt (fun hn => absurd hn (by omega)) (fun _ => ?_)
  refine g_L (v := .int s1) (n := 1) mjMtX mjQ_162_4 rfl ?_
  refine g_P (v := .int (Int16.ofInt 1000).toInt32) (n := 3) mjMtX mjQ_162_5 rfl ?_
  refine g_icmp mjMtX mjQ_162_8 mjCi_gt (fun hn => absurd hn (by rw [mj1000]; omega)) (fun _ => ?_)
  refine g_L (v := .ref 0) (n := 1) mjMtX mjQ_162_11 rfl ?_
  refine g_fld mjMtX mjQ_162_12 c0 f0 ?_
  refine g_fld mjMtX mjQ_162_15 c185 f185 ?_
  refine g_L (v := .int s1) (n := 1) mjMtX mjQ_162_18 rfl ?_
  refine g_A (st1 := [.int (0 + s1)]) mjMtX mjQ_162_19 rfl ?_
  refine g_P (v := .int (Int32.ofNat 100000)) (n := 3) mjMtX mjQ_162_20 rfl ?_
  refine g_icmp mjMtX mjQ_162_23 mjCi_le (fun _ => ?_) (fun hn => absurd (by rw [e, mj100000]; omega) hn)
  refine g_L (v := .ref 0) (n := 1) mjMtX mjQ_162_28 rfl ?_
  refine g_fld mjMtX mjQ_162_29 c0 f0 ?_
  refine g_A (st1 := [.ref 185, .ref 185]) mjMtX mjQ_162_32 rfl ?_
  refine g_fld mjMtX mjQ_162_33 c185 f185 ?_
  refine g_L (v := .int s1) (n := 1) mjMtX mjQ_162_36 rfl ?_
  refine g_A (st1 := [.int (0 + s1), .ref 185]) mjMtX mjQ_162_37 rfl ?_
  refine g_pfl mjMtX mjQ_162_38 c185 l185 (by show mjFit .int _ = true; simp [mjFit, narrow, fits]) ?_
  refine g_L (v := .ref 0) (n := 1) mjMtX mjQ_162_41 rfl ?_
  refine g_fld mjMtX mjQ_162_42 (by rw [List.getElem?_set_ne (by decide)]; exact c0) f0 ?_
  refine g_fld (v := .int (0 + s1)) mjMtX mjQ_162_45 (by rw [List.getElem?_set, if_pos rfl, if_pos n185]) (by rw [List.getElem?_set, if_pos rfl, if_pos l185]) ?_
  exact g_ret mjMtX mjQ_162_48 (by simp [mjRt, narrow, mjM_162]) ⟨rfl, rfl⟩
theorem mjIn (s1 : Int32) (h : mjB s1 0 1000) : mjGo mjTb mjMt sc 0 221 (0, [some (.int s1), some (.int 0), some (.int (Int16.ofInt 1000).toInt32)], [], w) (fun r u => r = some (.int 1) ∧ u = w) := by
  have h1 := h.1
  have h2 := h.2
  have z : (0 : Int32).toInt = 0 := rfl
  refine g_L (v := .int s1) (n := 1) mjMtI mjQ_221_0 rfl ?_
  refine g_L (v := .int 0) (n := 1) mjMtI mjQ_221_1 rfl ?_
  refine g_icmp mjMtI mjQ_221_2 mjCi_lt (fun hn => absurd hn (by rw [z]; omega)) (fun _ => ?_)
  refine g_L (v := .int s1) (n := 1) mjMtI mjQ_221_5 rfl ?_
  refine g_L (v := .int (Int16.ofInt 1000).toInt32) (n := 1) mjMtI mjQ_221_6 rfl ?_
  refine g_icmp mjMtI mjQ_221_7 mjCi_gt (fun hn => absurd hn (by rw [mj1000]; omega)) (fun _ => ?_)
  refine g_A (st1 := [.int 1]) mjMtI mjQ_221_10 rfl ?_
  refine g_goto mjMtI mjQ_221_11 ?_
  exact g_ret mjMtI mjQ_221_15 (by rfl) ⟨rfl, rfl⟩
theorem mjLater_m (s1 : Int32) (h : mjB s1 0 1000) {vs : List Value} (hw : w[240]? = some (10, vs)) (hv : vs[74]? = some (.int 0)) : mjGo mjTb mjMt sc 1 300 (0, [some (.ref 240), some (.int s1)], [], w) (fun r u => r = some (.int (0 + s1)) ∧ u = w.set 240 (10, vs.set 74 (.int (0 + s1)))) := by
  have l : 74 < vs.length := (List.getElem?_eq_some_iff.mp hv).1
  have n : 240 < w.length := (List.getElem?_eq_some_iff.mp hw).1
  have e : (0 : Int32) + s1 = s1 := Int32.zero_add s1
  have h1 := h.1
  have h2 := h.2
  refine g_L (v := .int s1) (n := 1) mjMtM mjQ_300_0 rfl ?_
  refine g_A (st1 := [.int 0, .int s1]) mjMtM mjQ_300_1 rfl ?_
  refine g_P (v := .int (Int16.ofInt 1000).toInt32) (n := 3) mjMtM mjQ_300_2 rfl ?_
  refine g_call (d := 0) (y1 := 221) (as := [.int s1, .int 0, .int (Int16.ofInt 1000).toInt32]) (rest := []) (Q := fun r u => r = some (.int 1) ∧ u = w) mjMtM mjQ_300_5 (by simp only [mjC]; rw [if_pos ⟨show 3 ≤ 3 from Nat.le_refl 3, show 0 ≤ 8 by decide⟩]; rfl) mjMtI (show 3 ≤ 3 from Nat.le_refl 3) (by decide) (by rfl) (Nat.le_refl 0) (mjIn s1 h) ?_
  rintro r u ⟨rfl, rfl⟩
  refine g_if (x := 1) (st := []) mjMtM mjQ_300_8 mjCz_eq (fun hn => absurd hn (by decide)) (fun _ => ?_)
  refine g_L (v := .ref 240) (n := 1) mjMtM mjQ_300_11 rfl ?_
  refine g_fld mjMtM mjQ_300_12 hw hv ?_
  refine g_L (v := .int s1) (n := 1) mjMtM mjQ_300_15 rfl ?_
  refine g_A (st1 := [.int (0 + s1)]) mjMtM mjQ_300_16 rfl ?_
  refine g_P (v := .int (Int32.ofNat 100000)) (n := 3) mjMtM mjQ_300_17 rfl ?_
  refine g_icmp mjMtM mjQ_300_20 mjCi_le (fun _ => ?_) (fun hn => absurd (by rw [e, mj100000]; omega) hn)
  refine g_L (v := .ref 240) (n := 1) mjMtM mjQ_300_25 rfl ?_
  refine g_A (st1 := [.ref 240, .ref 240]) mjMtM mjQ_300_26 rfl ?_
  refine g_fld mjMtM mjQ_300_27 hw hv ?_
  refine g_L (v := .int s1) (n := 1) mjMtM mjQ_300_30 rfl ?_
  refine g_A (st1 := [.int (0 + s1), .ref 240]) mjMtM mjQ_300_31 rfl ?_
  refine g_pfl mjMtM mjQ_300_32 hw l (by show mjFit .int _ = true; simp [mjFit, narrow, fits]) ?_
  refine g_L (v := .ref 240) (n := 1) mjMtM mjQ_300_35 rfl ?_
  refine g_fld (v := .int (0 + s1)) mjMtM mjQ_300_36 (by rw [List.getElem?_set, if_pos rfl, if_pos n]) (by rw [List.getElem?_set, if_pos rfl, if_pos l]) ?_
  exact g_ret mjMtM mjQ_300_39 (by simp [mjRt, narrow, mjM_300]) ⟨rfl, rfl⟩
theorem mjPair_later_1 (sc : List Int32) (s1 : Int32) (h : mjB s1 0 1000) : mjPairS sc 20 20 162 300 mjM_162.2.2.1 mjM_300.2.2.1 [.int s1] := by
  have c185 : mjW0[185]? = some (4, (mjC0 185).2) := mjW0_at (a := 185) (by decide)
  have c240 : mjW0[240]? = some (10, (mjC0 240).2) := mjW0_at (a := 240) (by decide)
  obtain ⟨n1, r1, w1, a1, rfl, rfl⟩ := (mjLater_x (sc := sc) s1 h).deep (show 1 ≤ 20 by decide)
  have hw : (mjW0.set 185 (4, (mjC0 185).2.set 8 (.int (0 + s1))))[240]? = some (10, (mjC0 240).2) := by rw [List.getElem?_set_ne (by decide)]; exact c240
  obtain ⟨n2, r2, w2, a2, rfl, rfl⟩ := (mjLater_m (sc := sc) s1 h hw rfl).deep (show 1 ≤ 20 by decide)
  exact ⟨0 + s1, n1, _, n2, _, a1, a2, mjShp_set c185 List.length_set, (mjShp_set hw List.length_set).trans (mjShp_set c185 List.length_set)⟩
end MjLater
def mjWd_later0x : MjWd := []
theorem mjWd_later0x_ok : mjWdB mjWd_later0x = true := by decide +kernel
def mjSm_later0x_0 : MjSm := ([(3, 0, 0, 0, 0), (0, -2147483648, -1, 0, 0)], [], [((0, -1, -1, 0, 0), [], [])], [], 20)
set_option maxRecDepth 100000 in
theorem mjC_later0x_0 : mjCtr (mjSW 0 240 mjWd_later0x) 162 mjSm_later0x_0 := aiOk_ctr mjUW_ok (env := []) (fun e he => (by cases he)) (pr := []) (cuts := []) (n := 7) (by decide +kernel)
def mjWd_later0m : MjWd := []
theorem mjWd_later0m_ok : mjWdB mjWd_later0m = true := by decide +kernel
def mjSm_later0m_0 : MjSm := ([(0, -2147483648, -1, 0, 0), (0, 0, 0, 0, 0), (0, 1000, 1000, 0, 0)], [], [((0, 0, 0, 0, 0), [], [])], [], 1)
set_option maxRecDepth 100000 in
theorem mjC_later0m_0 : mjCtr (mjSW 240 290 mjWd_later0m) 221 mjSm_later0m_0 := aiOk_ctr mjUW_ok (env := []) (fun e he => (by cases he)) (pr := []) (cuts := []) (n := 8) (by decide +kernel)
def mjSm_later0m_1 : MjSm := ([(3, 240, 240, 0, 0), (0, -2147483648, -1, 0, 0)], [], [((0, -1, -1, 0, 0), [], [])], [], 20)
set_option maxRecDepth 100000 in
theorem mjC_later0m_1 : mjCtr (mjSW 240 290 mjWd_later0m) 300 mjSm_later0m_1 := aiOk_ctr mjUW_ok (env := [(221, mjSm_later0m_0)]) (mjEnvC mjC_later0m_0 (fun e he => (by cases he))) (pr := []) (cuts := []) (n := 10) (by decide +kernel)
set_option maxRecDepth 100000 in
theorem mjPair_later_0 (sc : List Int32) (s1 : Int32) (h1 : mjB s1 (-2147483648) (-1)) : ∃ (v : Int32) (n1 : Nat) (w1 : MjW) (n2 : Nat) (w2 : MjW), mjEx mjTb mjMt sc n1 20 162 0 (mjEntry mjM_162.2.2.1 (.ref 0 :: [.int s1])) [] mjW0 = some (some (.int v), w1) ∧ mjEx mjTb mjMt sc n2 20 300 0 (mjEntry mjM_300.2.2.1 (.ref 240 :: [.int s1])) [] w1 = some (some (.int v), w2) ∧ mjShp w1 = mjShp mjW0 ∧ mjShp w2 = mjShp mjW0 := mj_pair (smx := mjSm_later0x_0) (smm := mjSm_later0m_1) mjC_later0x_0 mjC_later0m_1 mjWd_later0x_ok mjWd_later0m_ok (by decide +kernel) (by decide +kernel) (by decide +kernel) (by decide +kernel) (by decide +kernel) ⟨⟨0, rfl, rfl⟩, ⟨⟨s1, rfl, h1⟩, trivial⟩⟩ ⟨⟨240, rfl, rfl⟩, ⟨⟨s1, rfl, h1⟩, trivial⟩⟩ rfl rfl
def mjWd_later2x : MjWd := []
theorem mjWd_later2x_ok : mjWdB mjWd_later2x = true := by decide +kernel
def mjSm_later2x_0 : MjSm := ([(3, 0, 0, 0, 0), (0, 1001, 2147483647, 0, 0)], [], [((0, -1, -1, 0, 0), [], [])], [], 20)
set_option maxRecDepth 100000 in
theorem mjC_later2x_0 : mjCtr (mjSW 0 240 mjWd_later2x) 162 mjSm_later2x_0 := aiOk_ctr mjUW_ok (env := []) (fun e he => (by cases he)) (pr := []) (cuts := []) (n := 10) (by decide +kernel)
def mjWd_later2m : MjWd := []
theorem mjWd_later2m_ok : mjWdB mjWd_later2m = true := by decide +kernel
def mjSm_later2m_0 : MjSm := ([(0, 1001, 2147483647, 0, 0), (0, 0, 0, 0, 0), (0, 1000, 1000, 0, 0)], [], [((0, 0, 0, 0, 0), [], [])], [], 1)
set_option maxRecDepth 100000 in
theorem mjC_later2m_0 : mjCtr (mjSW 240 290 mjWd_later2m) 221 mjSm_later2m_0 := aiOk_ctr mjUW_ok (env := []) (fun e he => (by cases he)) (pr := []) (cuts := []) (n := 11) (by decide +kernel)
def mjSm_later2m_1 : MjSm := ([(3, 240, 240, 0, 0), (0, 1001, 2147483647, 0, 0)], [], [((0, -1, -1, 0, 0), [], [])], [], 20)
set_option maxRecDepth 100000 in
theorem mjC_later2m_1 : mjCtr (mjSW 240 290 mjWd_later2m) 300 mjSm_later2m_1 := aiOk_ctr mjUW_ok (env := [(221, mjSm_later2m_0)]) (mjEnvC mjC_later2m_0 (fun e he => (by cases he))) (pr := []) (cuts := []) (n := 10) (by decide +kernel)
set_option maxRecDepth 100000 in
theorem mjPair_later_2 (sc : List Int32) (s1 : Int32) (h1 : mjB s1 (1001) (2147483647)) : ∃ (v : Int32) (n1 : Nat) (w1 : MjW) (n2 : Nat) (w2 : MjW), mjEx mjTb mjMt sc n1 20 162 0 (mjEntry mjM_162.2.2.1 (.ref 0 :: [.int s1])) [] mjW0 = some (some (.int v), w1) ∧ mjEx mjTb mjMt sc n2 20 300 0 (mjEntry mjM_300.2.2.1 (.ref 240 :: [.int s1])) [] w1 = some (some (.int v), w2) ∧ mjShp w1 = mjShp mjW0 ∧ mjShp w2 = mjShp mjW0 := mj_pair (smx := mjSm_later2x_0) (smm := mjSm_later2m_1) mjC_later2x_0 mjC_later2m_1 mjWd_later2x_ok mjWd_later2m_ok (by decide +kernel) (by decide +kernel) (by decide +kernel) (by decide +kernel) (by decide +kernel) ⟨⟨0, rfl, rfl⟩, ⟨⟨s1, rfl, h1⟩, trivial⟩⟩ ⟨⟨240, rfl, rfl⟩, ⟨⟨s1, rfl, h1⟩, trivial⟩⟩ rfl rfl
theorem mjPair_later (sc : List Int32) (s1 : Int32) : mjPairS sc 20 20 162 300 mjM_162.2.2.1 mjM_300.2.2.1 [.int s1] := by
  have a := mjB.all s1
  have a1 := a.1
  have a2 := a.2
  by_cases c0 : s1.toInt ≤ -1
  · exact mjPair_later_0 sc s1 ⟨by omega, by omega⟩
  by_cases c1 : s1.toInt ≤ 1000
  · exact mjPair_later_1 sc s1 ⟨by omega, by omega⟩
  exact mjPair_later_2 sc s1 ⟨by omega, by omega⟩
