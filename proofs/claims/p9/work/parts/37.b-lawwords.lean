set_option maxHeartbeats 4000000 in
set_option maxRecDepth 20000 in
theorem iwsL_law0_r8 : ∀ w ∈ wsL_law0_r8, w ∈ lw_tbl := fun w h => (goodIn_p wsL_law0_r8 [681, 685, 358, 361] rfl (by decide +kernel) w h).1
set_option maxHeartbeats 4000000 in
set_option maxRecDepth 20000 in
theorem iwsL_law0_r9 : ∀ w ∈ wsL_law0_r9, w ∈ lw_tbl := fun w h => (goodIn_p wsL_law0_r9 [434, 749, 752, 756, 760, 764] rfl (by decide +kernel) w h).1
set_option maxHeartbeats 4000000 in
set_option maxRecDepth 20000 in
theorem iwsL_law0_r10 : ∀ w ∈ wsL_law0_r10, w ∈ lw_tbl := fun w h => (goodIn_p wsL_law0_r10 [442, 268, 464, 275] rfl (by decide +kernel) w h).1
set_option maxHeartbeats 4000000 in
set_option maxRecDepth 20000 in
theorem iwsL_law0_r11 : ∀ w ∈ wsL_law0_r11, w ∈ lw_tbl := fun w h => (goodIn_p wsL_law0_r11 [283, 291, 295, 768, 771] rfl (by decide +kernel) w h).1
set_option maxHeartbeats 4000000 in
set_option maxRecDepth 20000 in
theorem iwsL_law0_r12 : ∀ w ∈ wsL_law0_r12, w ∈ lw_tbl := fun w h => (goodIn_p wsL_law0_r12 [477, 498, 775, 506, 509] rfl (by decide +kernel) w h).1
set_option maxHeartbeats 4000000 in
set_option maxRecDepth 20000 in
theorem iwsL_law0_r13 : ∀ w ∈ wsL_law0_r13, w ∈ lw_tbl := fun w h => (goodIn_p wsL_law0_r13 [514, 518, 522, 527, 532] rfl (by decide +kernel) w h).1
set_option maxHeartbeats 4000000 in
set_option maxRecDepth 20000 in
theorem iwsL_law0_r14 : ∀ w ∈ wsL_law0_r14, w ∈ lw_tbl := fun w h => (goodIn_p wsL_law0_r14 [539, 543, 547, 550, 554, 558] rfl (by decide +kernel) w h).1
