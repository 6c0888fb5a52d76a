theorem mjK_0_240 : (List.range' 240 60).all (mjAtOk mjM_0 mjCd_0) = true := by decide +kernel
theorem mjK_0_300 : (List.range' 300 60).all (mjAtOk mjM_0 mjCd_0) = true := by decide +kernel
