theorem mjK_0_1440 : (List.range' 1440 60).all (mjAtOk mjM_0 mjCd_0) = true := by decide +kernel
theorem mjK_0_1500 : (List.range' 1500 60).all (mjAtOk mjM_0 mjCd_0) = true := by decide +kernel
