theorem mjK_0_0 : (List.range' 0 60).all (mjAtOk mjM_0 mjCd_0) = true := by decide +kernel
theorem mjK_0_60 : (List.range' 60 60).all (mjAtOk mjM_0 mjCd_0) = true := by decide +kernel
