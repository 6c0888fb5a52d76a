theorem mjK_0_1320 : (List.range' 1320 60).all (mjAtOk mjM_0 mjCd_0) = true := by decide +kernel
theorem mjK_0_1380 : (List.range' 1380 60).all (mjAtOk mjM_0 mjCd_0) = true := by decide +kernel
