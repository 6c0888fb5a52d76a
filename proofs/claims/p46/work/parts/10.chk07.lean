theorem mjK_0_840 : (List.range' 840 60).all (mjAtOk mjM_0 mjCd_0) = true := by decide +kernel
theorem mjK_0_900 : (List.range' 900 60).all (mjAtOk mjM_0 mjCd_0) = true := by decide +kernel
