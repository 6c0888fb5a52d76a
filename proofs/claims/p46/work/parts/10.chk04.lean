theorem mjK_0_480 : (List.range' 480 60).all (mjAtOk mjM_0 mjCd_0) = true := by decide +kernel
theorem mjK_0_540 : (List.range' 540 60).all (mjAtOk mjM_0 mjCd_0) = true := by decide +kernel
