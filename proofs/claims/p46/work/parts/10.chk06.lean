theorem mjK_0_720 : (List.range' 720 60).all (mjAtOk mjM_0 mjCd_0) = true := by decide +kernel
theorem mjK_0_780 : (List.range' 780 60).all (mjAtOk mjM_0 mjCd_0) = true := by decide +kernel
