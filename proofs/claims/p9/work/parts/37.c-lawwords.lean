set_option maxHeartbeats 4000000 in
set_option maxRecDepth 20000 in
theorem iwsL_law0_r15 : ∀ w ∈ wsL_law0_r15, w ∈ lw_tbl := fun w h => (goodIn_p wsL_law0_r15 [562, 568, 572, 575, 779, 783] rfl (by decide +kernel) w h).1
set_option maxHeartbeats 4000000 in
set_option maxRecDepth 20000 in
theorem iwsL_law0_r16 : ∀ w ∈ wsL_law0_r16, w ∈ lw_tbl := fun w h => (goodIn_p wsL_law0_r16 [787, 791, 796, 800, 582] rfl (by decide +kernel) w h).1
set_option maxHeartbeats 4000000 in
set_option maxRecDepth 20000 in
theorem iwsL_law0_r17 : ∀ w ∈ wsL_law0_r17, w ∈ lw_tbl := fun w h => (goodIn_p wsL_law0_r17 [589, 805, 596, 601] rfl (by decide +kernel) w h).1
set_option maxHeartbeats 4000000 in
set_option maxRecDepth 20000 in
theorem iwsL_law0_r18 : ∀ w ∈ wsL_law0_r18, w ∈ lw_tbl := fun w h => (goodIn_p wsL_law0_r18 [809, 610, 813, 256, 260] rfl (by decide +kernel) w h).1
set_option maxHeartbeats 4000000 in
set_option maxRecDepth 20000 in
theorem iwsL_law0_r19 : ∀ w ∈ wsL_law0_r19, w ∈ lw_tbl := fun w h => (goodIn_p wsL_law0_r19 [264, 272, 279, 287, 299] rfl (by decide +kernel) w h).1
set_option maxHeartbeats 4000000 in
set_option maxRecDepth 20000 in
theorem iwsL_law0_r20 : ∀ w ∈ wsL_law0_r20, w ∈ lw_tbl := fun w h => (goodIn_p wsL_law0_r20 [817, 821, 825, 618, 316] rfl (by decide +kernel) w h).1
set_option maxHeartbeats 4000000 in
set_option maxRecDepth 20000 in
theorem iwsL_law0_r21 : ∀ w ∈ wsL_law0_r21, w ∈ lw_tbl := fun w h => (goodIn_p wsL_law0_r21 [829, 628, 833, 303] rfl (by decide +kernel) w h).1
