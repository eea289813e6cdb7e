def lwCs : List (List Cond) := [k2_sels lw_privs, tables_1_1, tables_1_2, tables_1_3, tables_1_4]
theorem lwCs_in : ∀ w ∈ lwCs.flatten, w ∈ lw_tbl := by
  intro w h
  have e : lw_tbl = lwCs.flatten := by
    simp only [lw_tbl, tables_1, lwCs, List.flatten_cons, List.flatten_nil, List.append_assoc, List.nil_append, List.append_nil]
  rw [e]; exact h
def lwAt (q : Nat × Nat) : Option Cond := match lwCs[q.1]? with
  | some c => c[q.2]?
  | none => none
theorem in_c (ws : List Cond) (ps : List (Nat × Nat)) (hp : ws = ps.filterMap lwAt) : ∀ w ∈ ws, w ∈ lw_tbl := by
  intro w hw
  rw [hp] at hw
  obtain ⟨q, -, hq⟩ := List.mem_filterMap.mp hw
  unfold lwAt at hq
  split at hq
  · next c hc => exact lwCs_in w (List.mem_flatten.mpr ⟨c, List.mem_of_getElem? hc, List.mem_of_getElem? hq⟩)
  · exact absurd hq (by simp)
set_option maxHeartbeats 4000000 in
set_option maxRecDepth 20000 in
theorem iwsL_law0_r1 : ∀ w ∈ wsL_law0_r1, w ∈ lw_tbl := in_c _ [(1, 17), (1, 18), (1, 1), (3, 143), (3, 144), (1, 9), (4, 110), (4, 109), (1, 19), (1, 20), (1, 21), (1, 22), (1, 23), (1, 24), (1, 25), (1, 26), (1, 2), (1, 196), (1, 197), (1, 58), (1, 59), (1, 3), (1, 198), (1, 81)] rfl
set_option maxHeartbeats 4000000 in
set_option maxRecDepth 20000 in
theorem iwsL_law0_r2 : ∀ w ∈ wsL_law0_r2, w ∈ lw_tbl := in_c _ [(1, 82), (1, 5), (1, 199), (1, 105), (1, 106), (1, 7), (1, 200), (1, 27), (1, 28), (1, 29), (1, 30), (1, 56), (1, 31), (1, 32), (1, 57), (1, 33), (1, 34), (1, 35), (1, 60), (1, 61), (1, 62), (1, 63), (1, 64), (1, 65)] rfl
set_option maxHeartbeats 4000000 in
set_option maxRecDepth 20000 in
theorem iwsL_law0_r3 : ∀ w ∈ wsL_law0_r3, w ∈ lw_tbl := in_c _ [(1, 4), (1, 77), (1, 66), (1, 67), (1, 68), (1, 69), (1, 70), (1, 71), (1, 83), (1, 84), (1, 85), (1, 86), (1, 87), (1, 88), (1, 6), (1, 100), (1, 89), (1, 90), (1, 91), (1, 92), (1, 93), (1, 107), (1, 108), (1, 109)] rfl
set_option maxHeartbeats 4000000 in
set_option maxRecDepth 20000 in
theorem iwsL_law0_r4 : ∀ w ∈ wsL_law0_r4, w ∈ lw_tbl := in_c _ [(1, 110), (1, 111), (1, 113), (1, 115), (1, 112), (1, 133), (1, 134), (1, 135), (1, 136), (1, 36), (1, 37), (1, 137), (1, 139), (0, 0), (1, 140), (1, 38), (1, 141), (1, 143), (0, 1), (1, 144), (1, 145), (1, 147), (0, 2), (1, 148)] rfl
set_option maxHeartbeats 4000000 in
set_option maxRecDepth 20000 in
theorem iwsL_law0_r5 : ∀ w ∈ wsL_law0_r5, w ∈ lw_tbl := in_c _ [(1, 149), (1, 150), (1, 151), (1, 152), (1, 153), (1, 154), (1, 155), (1, 157), (0, 3), (1, 158), (1, 159), (1, 160), (1, 8), (1, 161), (1, 162), (1, 163), (1, 164), (1, 165), (1, 167), (0, 4), (1, 168), (1, 170), (1, 171), (1, 172)] rfl
set_option maxHeartbeats 4000000 in
set_option maxRecDepth 20000 in
theorem iwsL_law0_r6 : ∀ w ∈ wsL_law0_r6, w ∈ lw_tbl := in_c _ [(1, 174), (0, 5), (1, 175), (1, 176), (1, 177), (1, 178), (1, 179), (1, 180), (1, 182), (0, 6), (1, 183), (1, 184), (1, 185), (1, 186), (1, 187), (1, 188), (1, 190), (0, 7), (1, 191), (1, 192), (1, 193), (1, 194), (1, 195), (3, 145)] rfl
set_option maxHeartbeats 4000000 in
set_option maxRecDepth 20000 in
theorem iwsL_law0_r7 : ∀ w ∈ wsL_law0_r7, w ∈ lw_tbl := in_c _ [(3, 146), (3, 147), (3, 148), (3, 172), (3, 173), (3, 174), (3, 175), (3, 176), (3, 177), (3, 178), (3, 179), (3, 181), (3, 149), (3, 151), (0, 21), (3, 152), (3, 171), (3, 168), (3, 169), (3, 170), (3, 153), (3, 155), (0, 22), (3, 156)] rfl
