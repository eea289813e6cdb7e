set_option maxHeartbeats 4000000 in
set_option maxRecDepth 20000 in
theorem iwsL_law0_r22 : ∀ w ∈ wsL_law0_r22, w ∈ lw_tbl := in_c _ [(2, 25), (2, 26), (1, 116), (1, 117), (1, 119), (2, 27), (2, 28), (2, 30), (0, 10), (2, 31), (2, 32), (2, 36), (2, 37), (2, 38), (2, 39), (2, 40), (2, 41), (2, 42), (2, 44), (0, 11), (2, 45), (2, 46), (2, 48), (0, 12)] rfl
set_option maxHeartbeats 4000000 in
set_option maxRecDepth 20000 in
theorem iwsL_law0_r23 : ∀ w ∈ wsL_law0_r23, w ∈ lw_tbl := in_c _ [(2, 49), (1, 118), (2, 50), (2, 52), (0, 13), (2, 53), (2, 54), (2, 55), (2, 56), (2, 57), (2, 59), (0, 14), (2, 60), (2, 61), (2, 63), (0, 15), (2, 64), (2, 65), (2, 67), (0, 16), (2, 68), (2, 69), (4, 73), (4, 74)] rfl
set_option maxHeartbeats 4000000 in
set_option maxRecDepth 20000 in
theorem iwsL_law0_r24 : ∀ w ∈ wsL_law0_r24, w ∈ lw_tbl := in_c _ [(4, 75), (4, 76), (3, 183), (3, 184), (3, 185), (4, 77), (4, 79), (0, 34), (4, 80), (4, 81), (4, 83), (0, 35), (4, 84), (4, 85), (4, 87), (0, 36), (4, 88), (4, 89), (4, 91), (0, 37), (4, 92), (4, 93), (4, 95), (0, 38)] rfl
set_option maxHeartbeats 4000000 in
set_option maxRecDepth 20000 in
theorem iwsL_law0_r25 : ∀ w ∈ wsL_law0_r25, w ∈ lw_tbl := in_c _ [(4, 96), (4, 97), (4, 99), (0, 39), (4, 100), (4, 101), (4, 103), (0, 40), (4, 104), (3, 126), (3, 127), (3, 128), (3, 129), (3, 130), (3, 131), (3, 132), (3, 133), (3, 134), (3, 135), (3, 136), (3, 137), (3, 138), (3, 139), (3, 140)] rfl
set_option maxHeartbeats 4000000 in
set_option maxRecDepth 20000 in
theorem iwsL_law0_r26 : ∀ w ∈ wsL_law0_r26, w ∈ lw_tbl := in_c _ [(3, 141), (3, 142), (4, 105), (4, 106), (4, 107), (4, 108)] rfl
theorem iwsX60 : ∀ w ∈ wsX60, w ∈ lw_tbl := by decide +kernel
theorem iwsX70 : ∀ w ∈ wsX70, w ∈ lw_tbl := by decide +kernel
