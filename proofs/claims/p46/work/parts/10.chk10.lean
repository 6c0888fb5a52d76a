theorem mjK_0_1200 : (List.range' 1200 60).all (mjAtOk mjM_0 mjCd_0) = true := by decide +kernel
theorem mjK_0_1260 : (List.range' 1260 60).all (mjAtOk mjM_0 mjCd_0) = true := by decide +kernel
