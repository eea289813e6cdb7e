set_option maxHeartbeats 4000000 in
set_option maxRecDepth 20000 in
theorem iwsL_law0_r22 : ∀ w ∈ wsL_law0_r22, w ∈ lw_tbl := fun w h => (goodIn_p wsL_law0_r22 [307, 312, 319, 322, 326] rfl (by decide +kernel) w h).1
set_option maxHeartbeats 4000000 in
set_option maxRecDepth 20000 in
theorem iwsL_law0_r23 : ∀ w ∈ wsL_law0_r23, w ∈ lw_tbl := fun w h => (goodIn_p wsL_law0_r23 [330, 334, 337, 341, 345, 349] rfl (by decide +kernel) w h).1
set_option maxHeartbeats 4000000 in
set_option maxRecDepth 20000 in
theorem iwsL_law0_r24 : ∀ w ∈ wsL_law0_r24, w ∈ lw_tbl := fun w h => (goodIn_p wsL_law0_r24 [837, 841, 845, 849, 853] rfl (by decide +kernel) w h).1
set_option maxHeartbeats 4000000 in
set_option maxRecDepth 20000 in
theorem iwsL_law0_r25 : ∀ w ∈ wsL_law0_r25, w ∈ lw_tbl := fun w h => (goodIn_p wsL_law0_r25 [857, 861, 865, 653, 660] rfl (by decide +kernel) w h).1
set_option maxHeartbeats 4000000 in
set_option maxRecDepth 20000 in
theorem iwsL_law0_r26 : ∀ w ∈ wsL_law0_r26, w ∈ lw_tbl := fun w h => (goodIn_p wsL_law0_r26 [663, 869] rfl (by decide +kernel) w h).1
theorem iwsX60 : ∀ w ∈ wsX60, w ∈ lw_tbl := by decide +kernel
theorem iwsX70 : ∀ w ∈ wsX70, w ∈ lw_tbl := by decide +kernel
