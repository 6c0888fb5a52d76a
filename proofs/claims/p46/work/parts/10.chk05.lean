theorem mjK_0_600 : (List.range' 600 60).all (mjAtOk mjM_0 mjCd_0) = true := by decide +kernel
theorem mjK_0_660 : (List.range' 660 60).all (mjAtOk mjM_0 mjCd_0) = true := by decide +kernel
