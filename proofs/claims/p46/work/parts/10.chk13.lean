theorem mjK_0_1560 : (List.range' 1560 60).all (mjAtOk mjM_0 mjCd_0) = true := by decide +kernel
theorem mjK_0_1620 : (List.range' 1620 49).all (mjAtOk mjM_0 mjCd_0) = true := by decide +kernel
