set_option maxHeartbeats 40000000 in
set_option maxRecDepth 100000 in
/-- the class's check, behind its sign(27919044925468987, 7) on an empty tape -/
theorem fz_class : ((m_X6_sign 100 27919044925468987 7 0 (fun _ => 0)).bind fun q => (m_X6_check 100 0 q.2.2.1 q.2.2.2 (fun _ => 0)).map fun w => (q.2.1, w.1)) = some (7, 3) := by decide +kernel
set_option maxHeartbeats 40000000 in
set_option maxRecDepth 100000 in
/-- the reference's check, behind the same -/
theorem fz_ref : ((m_X7_sign 100 27919044925468987 7 0 (fun _ => 0)).bind fun q => (m_X7_check 100 q.2.2.1 q.2.2.2).map fun w => (q.1, w.1)) = some (7, 2) := by decide +kernel
