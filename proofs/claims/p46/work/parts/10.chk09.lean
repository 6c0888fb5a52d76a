theorem mjK_0_1080 : (List.range' 1080 60).all (mjAtOk mjM_0 mjCd_0) = true := by decide +kernel
theorem mjK_0_1140 : (List.range' 1140 60).all (mjAtOk mjM_0 mjCd_0) = true := by decide +kernel
