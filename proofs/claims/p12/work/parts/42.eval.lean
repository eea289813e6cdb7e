def fz_xs : List Int32 := [9, 6500409, 859844923, 7, 0, 10, 0, 0, 0, 0]
set_option maxHeartbeats 40000000 in
set_option maxRecDepth 100000 in
/-- the law's function, at this script: 0 -/
theorem fz_eval : m_L_law 100 fz_xs.length (fun j => fz_xs.getD j 0) = some 0 := by decide +kernel
