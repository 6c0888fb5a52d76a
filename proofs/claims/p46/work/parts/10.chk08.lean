theorem mjK_0_960 : (List.range' 960 60).all (mjAtOk mjM_0 mjCd_0) = true := by decide +kernel
theorem mjK_0_1020 : (List.range' 1020 60).all (mjAtOk mjM_0 mjCd_0) = true := by decide +kernel
