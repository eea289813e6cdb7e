set_option maxHeartbeats 4000000 in
set_option maxRecDepth 20000 in
theorem iwsL_law0_r1 : ∀ w ∈ wsL_law0_r1, w ∈ lw_tbl := fun w h => (goodIn_p wsL_law0_r1 [62, 65] rfl (by decide +kernel) w h).1
set_option maxHeartbeats 4000000 in
set_option maxRecDepth 20000 in
theorem iwsL_law0_r2 : ∀ w ∈ wsL_law0_r2, w ∈ lw_tbl := fun w h => (goodIn_p wsL_law0_r2 [70, 103] rfl (by decide +kernel) w h).1
set_option maxHeartbeats 4000000 in
set_option maxRecDepth 20000 in
theorem iwsL_law0_r3 : ∀ w ∈ wsL_law0_r3, w ∈ lw_tbl := fun w h => (goodIn_p wsL_law0_r3 [109, 126, 132, 150] rfl (by decide +kernel) w h).1
set_option maxHeartbeats 4000000 in
set_option maxRecDepth 20000 in
theorem iwsL_law0_r4 : ∀ w ∈ wsL_law0_r4, w ∈ lw_tbl := fun w h => (goodIn_p wsL_law0_r4 [177, 181, 185, 189] rfl (by decide +kernel) w h).1
set_option maxHeartbeats 4000000 in
set_option maxRecDepth 20000 in
theorem iwsL_law0_r5 : ∀ w ∈ wsL_law0_r5, w ∈ lw_tbl := fun w h => (goodIn_p wsL_law0_r5 [193, 199, 202, 205, 209, 212] rfl (by decide +kernel) w h).1
set_option maxHeartbeats 4000000 in
set_option maxRecDepth 20000 in
theorem iwsL_law0_r6 : ∀ w ∈ wsL_law0_r6, w ∈ lw_tbl := fun w h => (goodIn_p wsL_law0_r6 [216, 220, 224, 228, 232, 236] rfl (by decide +kernel) w h).1
set_option maxHeartbeats 4000000 in
set_option maxRecDepth 20000 in
theorem iwsL_law0_r7 : ∀ w ∈ wsL_law0_r7, w ∈ lw_tbl := fun w h => (goodIn_p wsL_law0_r7 [668, 673, 677] rfl (by decide +kernel) w h).1
