/-! ===== by hand ===== -/
theorem H_wide {t : Int} {sm : MjSm} (hs : sm = ([(3, 240, 240, 0, 0)], [], [((0, 1, 6, 0, 0), [], [])], [], 1)) : mjCtr m4S (m4J t) 220 sm := by
  subst hs
  intro sc w as M hI ha hf hM
  cases (M_220).symm.trans hM
  obtain rfl := m4_args1 ha
  have Tw := hI.1
  obtain ⟨-, -, ⟨⟨l1, l2⟩, l3, l4⟩, -, -⟩ := id hI.2
  show mjGo mjTb mjMt sc 1 220 (0, [some (.ref 240)], [], w) _
  refine g_L (v := .ref 240) (n := 1) M_220 q_220_0 rfl ?_
  refine h_get M_220 q_220_1 Tw ro_240 (by decide) kd_241 (fr_240_11 Tw) ?_
  refine g_L (v := .ref 240) (n := 1) M_220 q_220_4 rfl ?_
  have bw_240_42 := (fi_240_42 Tw).2
  refine h_get M_220 q_220_5 Tw ro_240 (by decide) kd_241 (fi_240_42 Tw).1 ?_
  have e1 := ar_244 Tw ro_243 (j := (m4X w 240 42).toInt.toNat) (by omega)
  refine h_ald (j := (m4X w 240 42).toInt.toNat) M_220 q_220_8 Tw ro_243 (by decide) kd_244 (by omega) e1.1 ?_
  refine g_ret (v := some (.int (m4X w 243 (m4X w 240 42).toInt.toNat))) M_220 q_220_9 (h_rtI) ?_
  exact m4_post rfl hI.1 hI.2 mjKp.refl (m4_ri l1 l2)
theorem H_deep {t : Int} {sm : MjSm} (hs : sm = ([(3, 240, 240, 0, 0)], [], [((0, 1, 5, 0, 0), [], [])], [], 1)) : mjCtr m4S (m4J t) 222 sm := by
  subst hs
  intro sc w as M hI ha hf hM
  cases (M_222).symm.trans hM
  obtain rfl := m4_args1 ha
  have Tw := hI.1
  obtain ⟨-, -, ⟨⟨l1, l2⟩, l3, l4⟩, -, -⟩ := id hI.2
  show mjGo mjTb mjMt sc 1 222 (0, [some (.ref 240)], [], w) _
  refine g_L (v := .ref 240) (n := 1) M_222 q_222_0 rfl ?_
  refine h_get M_222 q_222_1 Tw ro_240 (by decide) kd_241 (fr_240_12 Tw) ?_
  refine g_L (v := .ref 240) (n := 1) M_222 q_222_4 rfl ?_
  have bw_240_42 := (fi_240_42 Tw).2
  refine h_get M_222 q_222_5 Tw ro_240 (by decide) kd_241 (fi_240_42 Tw).1 ?_
  have e1 := ar_245 Tw ro_244 (j := (m4X w 240 42).toInt.toNat) (by omega)
  refine h_ald (j := (m4X w 240 42).toInt.toNat) M_222 q_222_8 Tw ro_244 (by decide) kd_245 (by omega) e1.1 ?_
  refine g_ret (v := some (.int (m4X w 244 (m4X w 240 42).toInt.toNat))) M_222 q_222_9 (h_rtI) ?_
  exact m4_post rfl hI.1 hI.2 mjKp.refl (m4_ri l3 l4)
theorem H_hb (t : Int) : mjHb (m4J t) := by
  intro w b x hT hJ hx hb
  obtain ⟨-, -, ⟨⟨l1, l2⟩, l3, l4⟩, -, -⟩ := hJ
  have hbd := (fi_240_42 hT).2
  have e : m4Bk w = b := by unfold m4Bk; rw [m4X_of hx, hb]; rfl
  rw [m4X_of hx] at hbd
  rw [e] at l1 l2 l3 l4
  exact ⟨⟨_, (ar_244 hT m4r_243 (by omega)).1, l1, l2⟩, ⟨_, (ar_245 hT m4r_244 (by omega)).1, l3, l4⟩⟩
