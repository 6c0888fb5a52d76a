def mjT69 : MjSm := ([(3, 193, 193, 0, 0), (0, -2147483648, 2147483647, 0, 0)], [], [((0, 1, 1, 0, 0), [(1, 0, 3)], []), ((0, 0, 0, 0, 0), [(1, -2147483648, -1)], []), ((0, 0, 0, 0, 0), [(1, 4, 2147483647)], [])], [], 1)
set_option maxRecDepth 100000 in
theorem mjT69_ok : mjCtr (mjSW []) 69 mjT69 := aiOk_ctr mjUW_ok (env := []) (fun e he => by cases he) (pr := [1]) (cuts := []) (n := 40) (by decide +kernel)
