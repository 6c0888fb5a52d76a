set_option maxRecDepth 20000 in
def mjWs_m_208 : MjW := (List.range 290).map (fun a => mjC0 a)
def mjF_m_208 : MjF := (405, [some (.ref 240)], [], mjWs_m_208)
set_option maxRecDepth 100000 in
theorem mjSg_m_207 : mjSegN 4000 20 175 1 mjF_m_207 = some mjF_m_208 := by decide +kernel
