theorem mjK_0_120 : (List.range' 120 60).all (mjAtOk mjM_0 mjCd_0) = true := by decide +kernel
theorem mjK_0_180 : (List.range' 180 60).all (mjAtOk mjM_0 mjCd_0) = true := by decide +kernel
