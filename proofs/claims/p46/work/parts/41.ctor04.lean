set_option maxRecDepth 20000 in
def mjWs_x_31 : MjW := (List.range 194).map (fun a => (bif Nat.blt a 97 then (bif Nat.blt a 48 then (bif Nat.blt a 24 then (bif Nat.blt a 12 then (bif Nat.blt a 6 then (bif Nat.blt a 3 then (bif Nat.blt a 1 then (9, [.ref 1, .int 0, .null, .null, .ref 2, .ref 18, .ref 184, .int 0, .null, .null, .ref 185, .ref 192, .int 0]) else mjC0 a) else mjC0 a) else mjC0 a) else mjC0 a) else mjC0 a) else mjC0 a) else (bif Nat.blt a 145 then mjC0 a else (bif Nat.blt a 169 then mjC0 a else (bif Nat.blt a 181 then mjC0 a else (bif Nat.blt a 187 then (bif Nat.blt a 184 then mjC0 a else (bif Nat.blt a 185 then (104, List.replicate 3 (.null)) else mjC0 a)) else (bif Nat.blt a 190 then mjC0 a else (bif Nat.blt a 192 then mjC0 a else (bif Nat.blt a 193 then mjC0 a else (6, [.int 0, .int 0, .null, .int 0, .null, .null, .int 0, .null, .null, .null, .null, .null, .int 0, .int 0, .null]))))))))))
def mjF_x_31 : MjF := (65, [some (.ref 0), none, none, none], [.ref 193, .ref 193], mjWs_x_31)
set_option maxRecDepth 100000 in
theorem mjSg_x_14 : mjSegN 4000 20 1 17 mjF_x_14 = some mjF_x_31 := by decide +kernel
set_option maxRecDepth 20000 in
def mjWs_x_48 : MjW := (List.range 219).map (fun a => (bif Nat.blt a 109 then (bif Nat.blt a 54 then (bif Nat.blt a 27 then (bif Nat.blt a 13 then (bif Nat.blt a 6 then (bif Nat.blt a 3 then (bif Nat.blt a 1 then (9, [.ref 1, .int 0, .null, .ref 193, .ref 2, .ref 18, .ref 184, .int 0, .ref 209, .null, .ref 185, .ref 192, .int 0]) else mjC0 a) else mjC0 a) else mjC0 a) else mjC0 a) else mjC0 a) else mjC0 a) else (bif Nat.blt a 164 then mjC0 a else (bif Nat.blt a 191 then (bif Nat.blt a 177 then mjC0 a else (bif Nat.blt a 184 then mjC0 a else (bif Nat.blt a 187 then (bif Nat.blt a 185 then (104, List.replicate 3 (.null)) else mjC0 a) else mjC0 a))) else (bif Nat.blt a 205 then mjC0 a else (bif Nat.blt a 212 then mjC0 a else (bif Nat.blt a 215 then mjC0 a else (bif Nat.blt a 217 then mjC0 a else (bif Nat.blt a 218 then mjC0 a else (5, [.null, .null, .null, .null, .int 0, .int 0, .int 0, .int 0, .int 0, .int 0, .int 0]))))))))))
def mjF_x_48 : MjF := (94, [some (.ref 0), some (.ref 193), some (.ref 209), none], [.ref 193, .ref 218, .ref 218, .ref 0], mjWs_x_48)
set_option maxRecDepth 100000 in
theorem mjSg_x_31 : mjSegN 4000 20 1 17 mjF_x_31 = some mjF_x_48 := by decide +kernel
set_option maxRecDepth 20000 in
def mjWs_x_49 : MjW := (List.range 224).map (fun a => (bif Nat.blt a 112 then (bif Nat.blt a 56 then (bif Nat.blt a 28 then (bif Nat.blt a 14 then (bif Nat.blt a 7 then (bif Nat.blt a 3 then (bif Nat.blt a 1 then (9, [.ref 1, .int 0, .null, .ref 193, .ref 2, .ref 18, .ref 184, .int 0, .ref 209, .null, .ref 185, .ref 192, .int 0]) else mjC0 a) else mjC0 a) else mjC0 a) else mjC0 a) else mjC0 a) else mjC0 a) else (bif Nat.blt a 168 then mjC0 a else (bif Nat.blt a 196 then (bif Nat.blt a 182 then mjC0 a else (bif Nat.blt a 189 then (bif Nat.blt a 185 then (bif Nat.blt a 183 then mjC0 a else (bif Nat.blt a 184 then mjC0 a else (104, List.replicate 3 (.null)))) else mjC0 a) else mjC0 a)) else mjC0 a))))
def mjF_x_49 : MjF := (97, [some (.ref 0), some (.ref 193), some (.ref 209), none], [.ref 218, .ref 0], mjWs_x_49)
set_option maxRecDepth 20000 in
def mjWs_x_98 : MjW := (List.range 240).map (fun a => mjC0 a)
def mjF_x_98 : MjF := (139, [some (.ref 0), some (.ref 193), some (.ref 209), some (.int 3)], [], mjWs_x_98)
set_option maxRecDepth 100000 in
theorem mjSg_x_49 : mjSegN 4000 20 1 49 mjF_x_49 = some mjF_x_98 := by decide +kernel
set_option maxRecDepth 20000 in
def mjWs_m_0 : MjW := (List.range 241).map (fun a => (bif Nat.blt a 120 then mjC0 a else (bif Nat.blt a 180 then mjC0 a else (bif Nat.blt a 210 then mjC0 a else (bif Nat.blt a 225 then mjC0 a else (bif Nat.blt a 233 then mjC0 a else (bif Nat.blt a 237 then mjC0 a else (bif Nat.blt a 239 then mjC0 a else (bif Nat.blt a 240 then mjC0 a else (10, [.null, .null, .int 0, .int 0, .int 0, .int 0, .int 0, .int 0, .int 0, .int 0, .long 0, .null, .null, .null, .null, .null, .null, .null, .null, .null, .null, .null, .null, .null, .null, .null, .null, .null, .null, .null, .null, .null, .null, .null, .null, .null, .null, .null, .null, .null, .null, .null, .int 0, .int 0, .int 0, .int 0, .int 0, .int 0, .int 0, .int 0, .int 0, .int 0, .null, .null, .null, .int 0, .int 0, .int 0, .int 0, .null, .int 0, .int 0, .null, .int 0, .null, .null, .null, .null, .null, .null, .null, .null, .null, .int 0, .int 0, .null, .null]))))))))))
def mjF_m_0 : MjF := (0, [some (.ref 240)], [], mjWs_m_0)
set_option maxRecDepth 20000 in
def mjWs_m_207 : MjW := (List.range 290).map (fun a => mjC0 a)
def mjF_m_207 : MjF := (402, [some (.ref 240)], [.ref 240], mjWs_m_207)
set_option maxRecDepth 100000 in
theorem mjSg_m_0 : mjSegN 4000 20 175 207 mjF_m_0 = some mjF_m_207 := by decide +kernel
