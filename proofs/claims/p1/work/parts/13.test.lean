set_option maxRecDepth 100000 in
theorem mjT1 : (mjEx mjTb mjMt [] 3000 50 10 0 (mjEntry 2 [.ref 0]) [] [(2, mjDef 2)]).map (fun r => r.2.length) = some 166 := by decide +kernel
