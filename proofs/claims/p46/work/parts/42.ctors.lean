theorem mjRun_lex (sc : List Int32) : mjGo mjTb mjMt sc 10 14 mjF_lex_0 (fun r w => r = none ∧ w = mjWs_lex_4080) := by
  refine mjSegN_go _ _ _ mjSg_lex_0 ?_
  refine mjSegN_go _ _ _ mjSg_lex_399 ?_
  refine mjSegN_go _ _ _ mjSg_lex_780 ?_
  refine mjSegN_go _ _ _ mjSg_lex_1158 ?_
  refine mjSegN_go _ _ _ mjSg_lex_1542 ?_
  refine mjSegN_go _ _ _ mjSg_lex_1931 ?_
  refine mjSegN_go _ _ _ mjSg_lex_2315 ?_
  refine mjSegN_go _ _ _ mjSg_lex_2702 ?_
  refine mjSegN_go _ _ _ mjSg_lex_3080 ?_
  refine mjSegN_go _ _ _ mjSg_lex_3461 ?_
  refine mjSegN_go _ _ _ mjSg_lex_3839 ?_
  exact g_ret (M := mjM_14) (by rfl) (by rfl) (by rfl) ⟨rfl, rfl⟩
theorem mjRun_par (sc : List Int32) : mjGo mjTb mjMt sc 15 13 mjF_par_0 (fun r w => r = none ∧ w = mjWs_par_21) := by
  refine mjSegN_go _ _ _ mjSg_par_0 ?_
  refine g_call (M := mjM_13) (M1 := mjM_14) (d1 := 10) (Q := fun r w => r = none ∧ w = mjWs_lex_4080) (by rfl) (by rfl) (by rfl) (by rfl) (by decide) (by decide) (by rfl) (by decide) (mjRun_lex sc) ?_
  rintro r w ⟨rfl, rfl⟩
  show mjGo mjTb mjMt sc 15 13 mjF_par_6 _
  refine mjSegN_go _ _ _ mjSg_par_6 ?_
  exact g_ret (M := mjM_13) (by rfl) (by rfl) (by rfl) ⟨rfl, rfl⟩
theorem mjRun_x (sc : List Int32) : mjGo mjTb mjMt sc 20 1 mjF_x_0 (fun r w => r = none ∧ w = mjWs_x_98) := by
  refine mjSegN_go _ _ _ mjSg_x_0 ?_
  refine mjSegN_go _ _ _ mjSg_x_14 ?_
  refine mjSegN_go _ _ _ mjSg_x_31 ?_
  refine g_call (M := mjM_1) (M1 := mjM_13) (d1 := 15) (Q := fun r w => r = none ∧ w = mjWs_par_21) (by rfl) (by rfl) (by rfl) (by rfl) (by decide) (by decide) (by rfl) (by decide) (mjRun_par sc) ?_
  rintro r w ⟨rfl, rfl⟩
  show mjGo mjTb mjMt sc 20 1 mjF_x_49 _
  refine mjSegN_go _ _ _ mjSg_x_49 ?_
  exact g_ret (M := mjM_1) (by rfl) (by rfl) (by rfl) ⟨rfl, rfl⟩
theorem mjRun_m (sc : List Int32) : mjGo mjTb mjMt sc 20 175 mjF_m_0 (fun r w => r = none ∧ w = mjWs_m_208) := by
  refine mjSegN_go _ _ _ mjSg_m_0 ?_
  refine mjSegN_go _ _ _ mjSg_m_207 ?_
  exact g_ret (M := mjM_175) (by rfl) (by rfl) (by rfl) ⟨rfl, rfl⟩
