theorem mjK_0_360 : (List.range' 360 60).all (mjAtOk mjM_0 mjCd_0) = true := by decide +kernel
theorem mjK_0_420 : (List.range' 420 60).all (mjAtOk mjM_0 mjCd_0) = true := by decide +kernel
