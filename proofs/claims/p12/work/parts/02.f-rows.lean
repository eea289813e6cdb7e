theorem dX4_length_4 : decode cX4_length 4 = .ok (.ireturn, 1) := by decide +kernel
set_option maxRecDepth 20000 in
theorem zdX4_add_0 : dAll cX4_add [(0, .aload_n 0, 1), (1, .getfield 15, 3), (4, .ifCond .lt 33, 3), (7, .aload_n 0, 1), (8, .getfield 15, 3), (11, .sipush 600, 3), (14, .if_icmp .ge 23, 3), (17, .aload_n 0, 1), (18, .getfield 9, 3), (21, .aload_n 0, 1), (22, .getfield 15, 3), (25, .iload_n 1, 1), (26, .iastore, 1), (27, .aload_n 0, 1), (28, .dup, 1), (29, .getfield 15, 3), (32, .iconst 1, 1), (33, .iadd, 1), (34, .putfield 15, 3), (37, .return_, 1)] := dAll_of (by decide +kernel)
theorem dX4_add_0 : decode cX4_add 0 = .ok (.aload_n 0, 1) := zdX4_add_0.1
theorem dX4_add_1 : decode cX4_add 1 = .ok (.getfield 15, 3) := zdX4_add_0.2.1
theorem dX4_add_4 : decode cX4_add 4 = .ok (.ifCond .lt 33, 3) := zdX4_add_0.2.2.1
theorem dX4_add_7 : decode cX4_add 7 = .ok (.aload_n 0, 1) := zdX4_add_0.2.2.2.1
theorem dX4_add_8 : decode cX4_add 8 = .ok (.getfield 15, 3) := zdX4_add_0.2.2.2.2.1
theorem dX4_add_11 : decode cX4_add 11 = .ok (.sipush 600, 3) := zdX4_add_0.2.2.2.2.2.1
theorem dX4_add_14 : decode cX4_add 14 = .ok (.if_icmp .ge 23, 3) := zdX4_add_0.2.2.2.2.2.2.1
theorem dX4_add_17 : decode cX4_add 17 = .ok (.aload_n 0, 1) := zdX4_add_0.2.2.2.2.2.2.2.1
theorem dX4_add_18 : decode cX4_add 18 = .ok (.getfield 9, 3) := zdX4_add_0.2.2.2.2.2.2.2.2.1
theorem dX4_add_21 : decode cX4_add 21 = .ok (.aload_n 0, 1) := zdX4_add_0.2.2.2.2.2.2.2.2.2.1
theorem dX4_add_22 : decode cX4_add 22 = .ok (.getfield 15, 3) := zdX4_add_0.2.2.2.2.2.2.2.2.2.2.1
theorem dX4_add_25 : decode cX4_add 25 = .ok (.iload_n 1, 1) := zdX4_add_0.2.2.2.2.2.2.2.2.2.2.2.1
theorem dX4_add_26 : decode cX4_add 26 = .ok (.iastore, 1) := zdX4_add_0.2.2.2.2.2.2.2.2.2.2.2.2.1
theorem dX4_add_27 : decode cX4_add 27 = .ok (.aload_n 0, 1) := zdX4_add_0.2.2.2.2.2.2.2.2.2.2.2.2.2.1
theorem dX4_add_28 : decode cX4_add 28 = .ok (.dup, 1) := zdX4_add_0.2.2.2.2.2.2.2.2.2.2.2.2.2.2.1
theorem dX4_add_29 : decode cX4_add 29 = .ok (.getfield 15, 3) := zdX4_add_0.2.2.2.2.2.2.2.2.2.2.2.2.2.2.2.1
theorem dX4_add_32 : decode cX4_add 32 = .ok (.iconst 1, 1) := zdX4_add_0.2.2.2.2.2.2.2.2.2.2.2.2.2.2.2.2.1
theorem dX4_add_33 : decode cX4_add 33 = .ok (.iadd, 1) := zdX4_add_0.2.2.2.2.2.2.2.2.2.2.2.2.2.2.2.2.2.1
theorem dX4_add_34 : decode cX4_add 34 = .ok (.putfield 15, 3) := zdX4_add_0.2.2.2.2.2.2.2.2.2.2.2.2.2.2.2.2.2.2.1
theorem dX4_add_37 : decode cX4_add 37 = .ok (.return_, 1) := zdX4_add_0.2.2.2.2.2.2.2.2.2.2.2.2.2.2.2.2.2.2.2.1
set_option maxRecDepth 20000 in
theorem zdX4_byteAt_0 : dAll cX4_byteAt [(0, .iload_n 1, 1), (1, .ifCond .lt 27, 3), (4, .iload_n 1, 1), (5, .aload_n 0, 1), (6, .getfield 15, 3), (9, .if_icmp .ge 19, 3), (12, .iload_n 1, 1), (13, .sipush 600, 3), (16, .if_icmp .ge 12, 3), (19, .aload_n 0, 1), (20, .getfield 9, 3), (23, .iload_n 1, 1), (24, .iaload, 1), (25, .goto 4, 3), (28, .iconst (-1), 1), (29, .ireturn, 1)] := dAll_of (by decide +kernel)
theorem dX4_byteAt_0 : decode cX4_byteAt 0 = .ok (.iload_n 1, 1) := zdX4_byteAt_0.1
theorem dX4_byteAt_1 : decode cX4_byteAt 1 = .ok (.ifCond .lt 27, 3) := zdX4_byteAt_0.2.1
theorem dX4_byteAt_4 : decode cX4_byteAt 4 = .ok (.iload_n 1, 1) := zdX4_byteAt_0.2.2.1
theorem dX4_byteAt_5 : decode cX4_byteAt 5 = .ok (.aload_n 0, 1) := zdX4_byteAt_0.2.2.2.1
theorem dX4_byteAt_6 : decode cX4_byteAt 6 = .ok (.getfield 15, 3) := zdX4_byteAt_0.2.2.2.2.1
theorem dX4_byteAt_9 : decode cX4_byteAt 9 = .ok (.if_icmp .ge 19, 3) := zdX4_byteAt_0.2.2.2.2.2.1
theorem dX4_byteAt_12 : decode cX4_byteAt 12 = .ok (.iload_n 1, 1) := zdX4_byteAt_0.2.2.2.2.2.2.1
theorem dX4_byteAt_13 : decode cX4_byteAt 13 = .ok (.sipush 600, 3) := zdX4_byteAt_0.2.2.2.2.2.2.2.1
theorem dX4_byteAt_16 : decode cX4_byteAt 16 = .ok (.if_icmp .ge 12, 3) := zdX4_byteAt_0.2.2.2.2.2.2.2.2.1
theorem dX4_byteAt_19 : decode cX4_byteAt 19 = .ok (.aload_n 0, 1) := zdX4_byteAt_0.2.2.2.2.2.2.2.2.2.1
theorem dX4_byteAt_20 : decode cX4_byteAt 20 = .ok (.getfield 9, 3) := zdX4_byteAt_0.2.2.2.2.2.2.2.2.2.2.1
theorem dX4_byteAt_23 : decode cX4_byteAt 23 = .ok (.iload_n 1, 1) := zdX4_byteAt_0.2.2.2.2.2.2.2.2.2.2.2.1
theorem dX4_byteAt_24 : decode cX4_byteAt 24 = .ok (.iaload, 1) := zdX4_byteAt_0.2.2.2.2.2.2.2.2.2.2.2.2.1
theorem dX4_byteAt_25 : decode cX4_byteAt 25 = .ok (.goto 4, 3) := zdX4_byteAt_0.2.2.2.2.2.2.2.2.2.2.2.2.2.1
theorem dX4_byteAt_28 : decode cX4_byteAt 28 = .ok (.iconst (-1), 1) := zdX4_byteAt_0.2.2.2.2.2.2.2.2.2.2.2.2.2.2.1
theorem dX4_byteAt_29 : decode cX4_byteAt 29 = .ok (.ireturn, 1) := zdX4_byteAt_0.2.2.2.2.2.2.2.2.2.2.2.2.2.2.2.1
set_option maxRecDepth 20000 in
theorem zdX5_init_0 : dAll cX5_init [(0, .aload_n 0, 1), (1, .invokespecial 3, 3), (4, .aload_n 0, 1), (5, .bipush 62, 2), (7, .newarray .boolean, 2), (9, .putfield 9, 3), (12, .aload_n 0, 1), (13, .bipush 62, 2), (15, .newarray .boolean, 2), (17, .putfield 15, 3), (20, .aload_n 0, 1), (21, .bipush 62, 2), (23, .newarray .int, 2), (25, .putfield 18, 3), (28, .aload_n 0, 1), (29, .bipush 62, 2), (31, .newarray .int, 2), (33, .putfield 22, 3), (36, .aload_n 0, 1), (37, .bipush 62, 2), (39, .newarray .int, 2), (41, .putfield 25, 3), (44, .return_, 1)] := dAll_of (by decide +kernel)
theorem dX5_init_0 : decode cX5_init 0 = .ok (.aload_n 0, 1) := zdX5_init_0.1
theorem dX5_init_1 : decode cX5_init 1 = .ok (.invokespecial 3, 3) := zdX5_init_0.2.1
theorem dX5_init_4 : decode cX5_init 4 = .ok (.aload_n 0, 1) := zdX5_init_0.2.2.1
theorem dX5_init_5 : decode cX5_init 5 = .ok (.bipush 62, 2) := zdX5_init_0.2.2.2.1
theorem dX5_init_7 : decode cX5_init 7 = .ok (.newarray .boolean, 2) := zdX5_init_0.2.2.2.2.1
theorem dX5_init_9 : decode cX5_init 9 = .ok (.putfield 9, 3) := zdX5_init_0.2.2.2.2.2.1
theorem dX5_init_12 : decode cX5_init 12 = .ok (.aload_n 0, 1) := zdX5_init_0.2.2.2.2.2.2.1
theorem dX5_init_13 : decode cX5_init 13 = .ok (.bipush 62, 2) := zdX5_init_0.2.2.2.2.2.2.2.1
theorem dX5_init_15 : decode cX5_init 15 = .ok (.newarray .boolean, 2) := zdX5_init_0.2.2.2.2.2.2.2.2.1
theorem dX5_init_17 : decode cX5_init 17 = .ok (.putfield 15, 3) := zdX5_init_0.2.2.2.2.2.2.2.2.2.1
theorem dX5_init_20 : decode cX5_init 20 = .ok (.aload_n 0, 1) := zdX5_init_0.2.2.2.2.2.2.2.2.2.2.1
theorem dX5_init_21 : decode cX5_init 21 = .ok (.bipush 62, 2) := zdX5_init_0.2.2.2.2.2.2.2.2.2.2.2.1
theorem dX5_init_23 : decode cX5_init 23 = .ok (.newarray .int, 2) := zdX5_init_0.2.2.2.2.2.2.2.2.2.2.2.2.1
theorem dX5_init_25 : decode cX5_init 25 = .ok (.putfield 18, 3) := zdX5_init_0.2.2.2.2.2.2.2.2.2.2.2.2.2.1
theorem dX5_init_28 : decode cX5_init 28 = .ok (.aload_n 0, 1) := zdX5_init_0.2.2.2.2.2.2.2.2.2.2.2.2.2.2.1
theorem dX5_init_29 : decode cX5_init 29 = .ok (.bipush 62, 2) := zdX5_init_0.2.2.2.2.2.2.2.2.2.2.2.2.2.2.2.1
theorem dX5_init_31 : decode cX5_init 31 = .ok (.newarray .int, 2) := zdX5_init_0.2.2.2.2.2.2.2.2.2.2.2.2.2.2.2.2.1
theorem dX5_init_33 : decode cX5_init 33 = .ok (.putfield 22, 3) := zdX5_init_0.2.2.2.2.2.2.2.2.2.2.2.2.2.2.2.2.2.1
theorem dX5_init_36 : decode cX5_init 36 = .ok (.aload_n 0, 1) := zdX5_init_0.2.2.2.2.2.2.2.2.2.2.2.2.2.2.2.2.2.2.1
theorem dX5_init_37 : decode cX5_init 37 = .ok (.bipush 62, 2) := zdX5_init_0.2.2.2.2.2.2.2.2.2.2.2.2.2.2.2.2.2.2.2.1
theorem dX5_init_39 : decode cX5_init 39 = .ok (.newarray .int, 2) := zdX5_init_0.2.2.2.2.2.2.2.2.2.2.2.2.2.2.2.2.2.2.2.2.1
theorem dX5_init_41 : decode cX5_init 41 = .ok (.putfield 25, 3) := zdX5_init_0.2.2.2.2.2.2.2.2.2.2.2.2.2.2.2.2.2.2.2.2.2.1
theorem dX5_init_44 : decode cX5_init 44 = .ok (.return_, 1) := zdX5_init_0.2.2.2.2.2.2.2.2.2.2.2.2.2.2.2.2.2.2.2.2.2.2.1
set_option maxRecDepth 20000 in
theorem ggX5_become_X5_forget : GoodIn wsX5_become wsX5_forget := goodIn_r _ [7, 8, 9, 10, 11, 12, 13, 70, 71, 72, 73, 74, 75, 76, 77] rfl (by decide +kernel)
set_option maxRecDepth 20000 in
theorem gX5_become_X5_forget : GoodIn wsX5_become (wsV RX5 35 RX5 yX5_forget wsX5_forget) := goodIn_app (goodIn_of _ (by decide +kernel)) ggX5_become_X5_forget
set_option maxRecDepth 20000 in
theorem ggX5_become_X5_drawStreets : GoodIn wsX5_become wsX5_drawStreets := goodIn_r _ [17, 2, 18, 19, 20, 6, 21, 1, 22, 23, 24, 25, 26, 27, 28, 29, 30, 31, 32, 33, 34, 35, 36, 37, 38, 39, 40, 41, 42, 9, 10, 11, 12, 13, 8, 43, 44, 45, 70, 71, 72, 73, 74, 75, 76, 77] rfl (by decide +kernel)
set_option maxRecDepth 20000 in
theorem gX5_become_X5_drawStreets : GoodIn wsX5_become (wsV RX5 38 RX5 yX5_drawStreets wsX5_drawStreets) := goodIn_app (goodIn_of _ (by decide +kernel)) ggX5_become_X5_drawStreets
set_option maxRecDepth 20000 in
theorem ggX5_become_X5_drawFurtherStreets : GoodIn wsX5_become wsX5_drawFurtherStreets := goodIn_r _ [49, 2, 50, 51, 52, 6, 53, 18, 19, 20, 21, 1, 22, 23, 24, 25, 26, 27, 28, 29, 30, 31, 32, 33, 34, 35, 36, 37, 38, 39, 40, 41, 42, 9, 10, 11, 12, 13, 8, 43, 44, 45, 70, 71, 72, 73, 74, 75, 76, 77] rfl (by decide +kernel)
set_option maxRecDepth 20000 in
theorem gX5_become_X5_drawFurtherStreets : GoodIn wsX5_become (wsV RX5 41 RX5 yX5_drawFurtherStreets wsX5_drawFurtherStreets) := goodIn_app (goodIn_of _ (by decide +kernel)) ggX5_become_X5_drawFurtherStreets
set_option maxRecDepth 20000 in
theorem ggX5_become_X5_drawUnits : GoodIn wsX5_become wsX5_drawUnits := goodIn_r _ [57, 58, 59, 60, 6, 61, 2, 50, 51, 52, 53, 18, 19, 20, 21, 1, 22, 23, 24, 25, 26, 27, 39, 40, 41, 42, 9, 10, 11, 12, 13, 8, 43, 44, 45, 70, 71, 72, 73, 74, 75, 76, 77] rfl (by decide +kernel)
set_option maxRecDepth 20000 in
theorem gX5_become_X5_drawUnits : GoodIn wsX5_become (wsV RX5 44 RX5 yX5_drawUnits wsX5_drawUnits) := goodIn_app (goodIn_of _ (by decide +kernel)) ggX5_become_X5_drawUnits
set_option maxRecDepth 20000 in
theorem ggX5_become_X5_drawCalls : GoodIn wsX5_become wsX5_drawCalls := goodIn_r _ [65, 66, 67, 68, 6, 69, 2, 18, 19, 20, 21, 1, 22, 23, 24, 25, 26, 27, 50, 51, 52, 53, 39, 40, 41, 42, 9, 10, 11, 12, 13, 8, 43, 44, 45, 70, 71, 72, 73, 74, 75, 76, 77] rfl (by decide +kernel)
set_option maxRecDepth 20000 in
theorem gX5_become_X5_drawCalls : GoodIn wsX5_become (wsV RX5 47 RX5 yX5_drawCalls wsX5_drawCalls) := goodIn_app (goodIn_of _ (by decide +kernel)) ggX5_become_X5_drawCalls
set_option maxRecDepth 20000 in
theorem zdX5_become_0 : dAll cX5_become [(0, .aload_n 0, 1), (1, .iload_n 1, 1), (2, .putfield 28, 3), (5, .aload_n 0, 1), (6, .iload_n 2, 1), (7, .putfield 32, 3), (10, .aload_n 0, 1), (11, .invokevirtual 35, 3), (14, .aload_n 0, 1), (15, .invokevirtual 38, 3), (18, .aload_n 0, 1), (19, .invokevirtual 41, 3), (22, .aload_n 0, 1), (23, .invokevirtual 44, 3), (26, .aload_n 0, 1), (27, .invokevirtual 47, 3), (30, .return_, 1)] := dAll_of (by decide +kernel)
theorem dX5_become_0 : decode cX5_become 0 = .ok (.aload_n 0, 1) := zdX5_become_0.1
theorem dX5_become_1 : decode cX5_become 1 = .ok (.iload_n 1, 1) := zdX5_become_0.2.1
theorem dX5_become_2 : decode cX5_become 2 = .ok (.putfield 28, 3) := zdX5_become_0.2.2.1
theorem dX5_become_5 : decode cX5_become 5 = .ok (.aload_n 0, 1) := zdX5_become_0.2.2.2.1
theorem dX5_become_6 : decode cX5_become 6 = .ok (.iload_n 2, 1) := zdX5_become_0.2.2.2.2.1
theorem dX5_become_7 : decode cX5_become 7 = .ok (.putfield 32, 3) := zdX5_become_0.2.2.2.2.2.1
theorem dX5_become_10 : decode cX5_become 10 = .ok (.aload_n 0, 1) := zdX5_become_0.2.2.2.2.2.2.1
theorem dX5_become_11 : decode cX5_become 11 = .ok (.invokevirtual 35, 3) := zdX5_become_0.2.2.2.2.2.2.2.1
theorem dX5_become_14 : decode cX5_become 14 = .ok (.aload_n 0, 1) := zdX5_become_0.2.2.2.2.2.2.2.2.1
theorem dX5_become_15 : decode cX5_become 15 = .ok (.invokevirtual 38, 3) := zdX5_become_0.2.2.2.2.2.2.2.2.2.1
theorem dX5_become_18 : decode cX5_become 18 = .ok (.aload_n 0, 1) := zdX5_become_0.2.2.2.2.2.2.2.2.2.2.1
theorem dX5_become_19 : decode cX5_become 19 = .ok (.invokevirtual 41, 3) := zdX5_become_0.2.2.2.2.2.2.2.2.2.2.2.1
theorem dX5_become_22 : decode cX5_become 22 = .ok (.aload_n 0, 1) := zdX5_become_0.2.2.2.2.2.2.2.2.2.2.2.2.1
theorem dX5_become_23 : decode cX5_become 23 = .ok (.invokevirtual 44, 3) := zdX5_become_0.2.2.2.2.2.2.2.2.2.2.2.2.2.1
theorem dX5_become_26 : decode cX5_become 26 = .ok (.aload_n 0, 1) := zdX5_become_0.2.2.2.2.2.2.2.2.2.2.2.2.2.2.1
theorem dX5_become_27 : decode cX5_become 27 = .ok (.invokevirtual 47, 3) := zdX5_become_0.2.2.2.2.2.2.2.2.2.2.2.2.2.2.2.1
theorem dX5_become_30 : decode cX5_become 30 = .ok (.return_, 1) := zdX5_become_0.2.2.2.2.2.2.2.2.2.2.2.2.2.2.2.2.1
set_option maxRecDepth 20000 in
theorem zdX5_forget_0 : dAll cX5_forget [(0, .aload_n 0, 1), (1, .iconst 0, 1), (2, .putfield 50, 3), (5, .iconst 0, 1), (6, .istore_n 1, 1), (7, .iload_n 1, 1), (8, .bipush 62, 2), (10, .if_icmp .ge 44, 3), (13, .aload_n 0, 1), (14, .getfield 9, 3), (17, .iload_n 1, 1), (18, .iconst 0, 1), (19, .bastore, 1), (20, .aload_n 0, 1), (21, .getfield 15, 3), (24, .iload_n 1, 1), (25, .iconst 0, 1), (26, .bastore, 1), (27, .aload_n 0, 1), (28, .getfield 18, 3), (31, .iload_n 1, 1), (32, .iconst 0, 1), (33, .iastore, 1), (34, .aload_n 0, 1), (35, .getfield 22, 3), (38, .iload_n 1, 1), (39, .iconst 0, 1), (40, .iastore, 1), (41, .aload_n 0, 1), (42, .getfield 25, 3)] := dAll_of (by decide +kernel)
theorem dX5_forget_0 : decode cX5_forget 0 = .ok (.aload_n 0, 1) := zdX5_forget_0.1
theorem dX5_forget_1 : decode cX5_forget 1 = .ok (.iconst 0, 1) := zdX5_forget_0.2.1
theorem dX5_forget_2 : decode cX5_forget 2 = .ok (.putfield 50, 3) := zdX5_forget_0.2.2.1
theorem dX5_forget_5 : decode cX5_forget 5 = .ok (.iconst 0, 1) := zdX5_forget_0.2.2.2.1
theorem dX5_forget_6 : decode cX5_forget 6 = .ok (.istore_n 1, 1) := zdX5_forget_0.2.2.2.2.1
theorem dX5_forget_7 : decode cX5_forget 7 = .ok (.iload_n 1, 1) := zdX5_forget_0.2.2.2.2.2.1
theorem dX5_forget_8 : decode cX5_forget 8 = .ok (.bipush 62, 2) := zdX5_forget_0.2.2.2.2.2.2.1
theorem dX5_forget_10 : decode cX5_forget 10 = .ok (.if_icmp .ge 44, 3) := zdX5_forget_0.2.2.2.2.2.2.2.1
theorem dX5_forget_13 : decode cX5_forget 13 = .ok (.aload_n 0, 1) := zdX5_forget_0.2.2.2.2.2.2.2.2.1
theorem dX5_forget_14 : decode cX5_forget 14 = .ok (.getfield 9, 3) := zdX5_forget_0.2.2.2.2.2.2.2.2.2.1
theorem dX5_forget_17 : decode cX5_forget 17 = .ok (.iload_n 1, 1) := zdX5_forget_0.2.2.2.2.2.2.2.2.2.2.1
theorem dX5_forget_18 : decode cX5_forget 18 = .ok (.iconst 0, 1) := zdX5_forget_0.2.2.2.2.2.2.2.2.2.2.2.1
theorem dX5_forget_19 : decode cX5_forget 19 = .ok (.bastore, 1) := zdX5_forget_0.2.2.2.2.2.2.2.2.2.2.2.2.1
theorem dX5_forget_20 : decode cX5_forget 20 = .ok (.aload_n 0, 1) := zdX5_forget_0.2.2.2.2.2.2.2.2.2.2.2.2.2.1
theorem dX5_forget_21 : decode cX5_forget 21 = .ok (.getfield 15, 3) := zdX5_forget_0.2.2.2.2.2.2.2.2.2.2.2.2.2.2.1
theorem dX5_forget_24 : decode cX5_forget 24 = .ok (.iload_n 1, 1) := zdX5_forget_0.2.2.2.2.2.2.2.2.2.2.2.2.2.2.2.1
theorem dX5_forget_25 : decode cX5_forget 25 = .ok (.iconst 0, 1) := zdX5_forget_0.2.2.2.2.2.2.2.2.2.2.2.2.2.2.2.2.1
theorem dX5_forget_26 : decode cX5_forget 26 = .ok (.bastore, 1) := zdX5_forget_0.2.2.2.2.2.2.2.2.2.2.2.2.2.2.2.2.2.1
theorem dX5_forget_27 : decode cX5_forget 27 = .ok (.aload_n 0, 1) := zdX5_forget_0.2.2.2.2.2.2.2.2.2.2.2.2.2.2.2.2.2.2.1
theorem dX5_forget_28 : decode cX5_forget 28 = .ok (.getfield 18, 3) := zdX5_forget_0.2.2.2.2.2.2.2.2.2.2.2.2.2.2.2.2.2.2.2.1
theorem dX5_forget_31 : decode cX5_forget 31 = .ok (.iload_n 1, 1) := zdX5_forget_0.2.2.2.2.2.2.2.2.2.2.2.2.2.2.2.2.2.2.2.2.1
theorem dX5_forget_32 : decode cX5_forget 32 = .ok (.iconst 0, 1) := zdX5_forget_0.2.2.2.2.2.2.2.2.2.2.2.2.2.2.2.2.2.2.2.2.2.1
theorem dX5_forget_33 : decode cX5_forget 33 = .ok (.iastore, 1) := zdX5_forget_0.2.2.2.2.2.2.2.2.2.2.2.2.2.2.2.2.2.2.2.2.2.2.1
theorem dX5_forget_34 : decode cX5_forget 34 = .ok (.aload_n 0, 1) := zdX5_forget_0.2.2.2.2.2.2.2.2.2.2.2.2.2.2.2.2.2.2.2.2.2.2.2.1
theorem dX5_forget_35 : decode cX5_forget 35 = .ok (.getfield 22, 3) := zdX5_forget_0.2.2.2.2.2.2.2.2.2.2.2.2.2.2.2.2.2.2.2.2.2.2.2.2.1
theorem dX5_forget_38 : decode cX5_forget 38 = .ok (.iload_n 1, 1) := zdX5_forget_0.2.2.2.2.2.2.2.2.2.2.2.2.2.2.2.2.2.2.2.2.2.2.2.2.2.1
theorem dX5_forget_39 : decode cX5_forget 39 = .ok (.iconst 0, 1) := zdX5_forget_0.2.2.2.2.2.2.2.2.2.2.2.2.2.2.2.2.2.2.2.2.2.2.2.2.2.2.1
theorem dX5_forget_40 : decode cX5_forget 40 = .ok (.iastore, 1) := zdX5_forget_0.2.2.2.2.2.2.2.2.2.2.2.2.2.2.2.2.2.2.2.2.2.2.2.2.2.2.2.1
theorem dX5_forget_41 : decode cX5_forget 41 = .ok (.aload_n 0, 1) := zdX5_forget_0.2.2.2.2.2.2.2.2.2.2.2.2.2.2.2.2.2.2.2.2.2.2.2.2.2.2.2.2.1
theorem dX5_forget_42 : decode cX5_forget 42 = .ok (.getfield 25, 3) := zdX5_forget_0.2.2.2.2.2.2.2.2.2.2.2.2.2.2.2.2.2.2.2.2.2.2.2.2.2.2.2.2.2.1
set_option maxRecDepth 20000 in
theorem zdX5_forget_45 : dAll cX5_forget [(45, .iload_n 1, 1), (46, .iconst 0, 1), (47, .iastore, 1), (48, .iinc 1 1, 3), (51, .goto (-44), 3), (54, .return_, 1)] := dAll_of (by decide +kernel)
theorem dX5_forget_45 : decode cX5_forget 45 = .ok (.iload_n 1, 1) := zdX5_forget_45.1
theorem dX5_forget_46 : decode cX5_forget 46 = .ok (.iconst 0, 1) := zdX5_forget_45.2.1
theorem dX5_forget_47 : decode cX5_forget 47 = .ok (.iastore, 1) := zdX5_forget_45.2.2.1
theorem dX5_forget_48 : decode cX5_forget 48 = .ok (.iinc 1 1, 3) := zdX5_forget_45.2.2.2.1
theorem dX5_forget_51 : decode cX5_forget 51 = .ok (.goto (-44), 3) := zdX5_forget_45.2.2.2.2.1
theorem dX5_forget_54 : decode cX5_forget 54 = .ok (.return_, 1) := zdX5_forget_45.2.2.2.2.2.1
set_option maxRecDepth 20000 in
theorem ggX5_drawStreets_X5_drawn : GoodIn wsX5_drawStreets wsX5_drawn := goodIn_r _ [6, 7, 8, 9, 10, 5, 11, 12, 13, 38, 39, 40, 41, 42, 43, 44, 45] rfl (by decide +kernel)
set_option maxRecDepth 20000 in
theorem gX5_drawStreets_X5_drawn : GoodIn wsX5_drawStreets (wsV RX5 53 RX5 yX5_drawn wsX5_drawn) := goodIn_app (goodIn_of _ (by decide +kernel)) ggX5_drawStreets_X5_drawn
set_option maxRecDepth 20000 in
theorem ggX5_drawStreets_X5_putStreet : GoodIn wsX5_drawStreets wsX5_putStreet := goodIn_r _ [17, 18, 19, 20, 21, 22, 23, 24, 25, 26, 27, 5, 28, 29, 30, 31, 32, 33, 34, 35, 36, 37, 38, 39, 40, 41, 42, 43, 44, 45] rfl (by decide +kernel)
set_option maxRecDepth 20000 in
theorem gX5_drawStreets_X5_putStreet : GoodIn wsX5_drawStreets (wsV RX5 57 RX5 yX5_putStreet wsX5_putStreet) := goodIn_app (goodIn_of _ (by decide +kernel)) ggX5_drawStreets_X5_putStreet
set_option maxRecDepth 20000 in
theorem zdX5_drawStreets_0 : dAll cX5_drawStreets [(0, .iconst 1, 1), (1, .istore_n 1, 1), (2, .iload_n 1, 1), (3, .aload_n 0, 1), (4, .getfield 32, 3), (7, .if_icmp .gt 34, 3), (10, .aload_n 0, 1), (11, .iload_n 1, 1), (12, .iconst 1, 1), (13, .isub, 1), (14, .iload_n 1, 1), (15, .aload_n 0, 1), (16, .iconst 0, 1), (17, .iload_n 1, 1), (18, .iload_n 1, 1), (19, .invokevirtual 53, 3), (22, .iconst 1, 1), (23, .aload_n 0, 1), (24, .iconst 1, 1), (25, .iload_n 1, 1), (26, .bipush 99, 2), (28, .invokevirtual 53, 3), (31, .iadd, 1), (32, .invokevirtual 57, 3), (35, .iinc 1 1, 3), (38, .goto (-36), 3), (41, .return_, 1)] := dAll_of (by decide +kernel)
theorem dX5_drawStreets_0 : decode cX5_drawStreets 0 = .ok (.iconst 1, 1) := zdX5_drawStreets_0.1
theorem dX5_drawStreets_1 : decode cX5_drawStreets 1 = .ok (.istore_n 1, 1) := zdX5_drawStreets_0.2.1
theorem dX5_drawStreets_2 : decode cX5_drawStreets 2 = .ok (.iload_n 1, 1) := zdX5_drawStreets_0.2.2.1
theorem dX5_drawStreets_3 : decode cX5_drawStreets 3 = .ok (.aload_n 0, 1) := zdX5_drawStreets_0.2.2.2.1
theorem dX5_drawStreets_4 : decode cX5_drawStreets 4 = .ok (.getfield 32, 3) := zdX5_drawStreets_0.2.2.2.2.1
theorem dX5_drawStreets_7 : decode cX5_drawStreets 7 = .ok (.if_icmp .gt 34, 3) := zdX5_drawStreets_0.2.2.2.2.2.1
theorem dX5_drawStreets_10 : decode cX5_drawStreets 10 = .ok (.aload_n 0, 1) := zdX5_drawStreets_0.2.2.2.2.2.2.1
theorem dX5_drawStreets_11 : decode cX5_drawStreets 11 = .ok (.iload_n 1, 1) := zdX5_drawStreets_0.2.2.2.2.2.2.2.1
theorem dX5_drawStreets_12 : decode cX5_drawStreets 12 = .ok (.iconst 1, 1) := zdX5_drawStreets_0.2.2.2.2.2.2.2.2.1
theorem dX5_drawStreets_13 : decode cX5_drawStreets 13 = .ok (.isub, 1) := zdX5_drawStreets_0.2.2.2.2.2.2.2.2.2.1
theorem dX5_drawStreets_14 : decode cX5_drawStreets 14 = .ok (.iload_n 1, 1) := zdX5_drawStreets_0.2.2.2.2.2.2.2.2.2.2.1
theorem dX5_drawStreets_15 : decode cX5_drawStreets 15 = .ok (.aload_n 0, 1) := zdX5_drawStreets_0.2.2.2.2.2.2.2.2.2.2.2.1
theorem dX5_drawStreets_16 : decode cX5_drawStreets 16 = .ok (.iconst 0, 1) := zdX5_drawStreets_0.2.2.2.2.2.2.2.2.2.2.2.2.1
theorem dX5_drawStreets_17 : decode cX5_drawStreets 17 = .ok (.iload_n 1, 1) := zdX5_drawStreets_0.2.2.2.2.2.2.2.2.2.2.2.2.2.1
theorem dX5_drawStreets_18 : decode cX5_drawStreets 18 = .ok (.iload_n 1, 1) := zdX5_drawStreets_0.2.2.2.2.2.2.2.2.2.2.2.2.2.2.1
theorem dX5_drawStreets_19 : decode cX5_drawStreets 19 = .ok (.invokevirtual 53, 3) := zdX5_drawStreets_0.2.2.2.2.2.2.2.2.2.2.2.2.2.2.2.1
theorem dX5_drawStreets_22 : decode cX5_drawStreets 22 = .ok (.iconst 1, 1) := zdX5_drawStreets_0.2.2.2.2.2.2.2.2.2.2.2.2.2.2.2.2.1
theorem dX5_drawStreets_23 : decode cX5_drawStreets 23 = .ok (.aload_n 0, 1) := zdX5_drawStreets_0.2.2.2.2.2.2.2.2.2.2.2.2.2.2.2.2.2.1
theorem dX5_drawStreets_24 : decode cX5_drawStreets 24 = .ok (.iconst 1, 1) := zdX5_drawStreets_0.2.2.2.2.2.2.2.2.2.2.2.2.2.2.2.2.2.2.1
theorem dX5_drawStreets_25 : decode cX5_drawStreets 25 = .ok (.iload_n 1, 1) := zdX5_drawStreets_0.2.2.2.2.2.2.2.2.2.2.2.2.2.2.2.2.2.2.2.1
theorem dX5_drawStreets_26 : decode cX5_drawStreets 26 = .ok (.bipush 99, 2) := zdX5_drawStreets_0.2.2.2.2.2.2.2.2.2.2.2.2.2.2.2.2.2.2.2.2.1
theorem dX5_drawStreets_28 : decode cX5_drawStreets 28 = .ok (.invokevirtual 53, 3) := zdX5_drawStreets_0.2.2.2.2.2.2.2.2.2.2.2.2.2.2.2.2.2.2.2.2.2.1
theorem dX5_drawStreets_31 : decode cX5_drawStreets 31 = .ok (.iadd, 1) := zdX5_drawStreets_0.2.2.2.2.2.2.2.2.2.2.2.2.2.2.2.2.2.2.2.2.2.2.1
theorem dX5_drawStreets_32 : decode cX5_drawStreets 32 = .ok (.invokevirtual 57, 3) := zdX5_drawStreets_0.2.2.2.2.2.2.2.2.2.2.2.2.2.2.2.2.2.2.2.2.2.2.2.1
theorem dX5_drawStreets_35 : decode cX5_drawStreets 35 = .ok (.iinc 1 1, 3) := zdX5_drawStreets_0.2.2.2.2.2.2.2.2.2.2.2.2.2.2.2.2.2.2.2.2.2.2.2.2.1
theorem dX5_drawStreets_38 : decode cX5_drawStreets 38 = .ok (.goto (-36), 3) := zdX5_drawStreets_0.2.2.2.2.2.2.2.2.2.2.2.2.2.2.2.2.2.2.2.2.2.2.2.2.2.1
theorem dX5_drawStreets_41 : decode cX5_drawStreets 41 = .ok (.return_, 1) := zdX5_drawStreets_0.2.2.2.2.2.2.2.2.2.2.2.2.2.2.2.2.2.2.2.2.2.2.2.2.2.2.1
set_option maxRecDepth 20000 in
theorem ggX5_drawFurtherStreets_X5_corners : GoodIn wsX5_drawFurtherStreets wsX5_corners := goodIn_r _ [6, 1, 42, 43, 44, 45, 46, 47, 48, 49] rfl (by decide +kernel)
set_option maxRecDepth 20000 in
theorem gX5_drawFurtherStreets_X5_corners : GoodIn wsX5_drawFurtherStreets (wsV RX5 61 RX5 yX5_corners wsX5_corners) := goodIn_app (goodIn_of _ (by decide +kernel)) ggX5_drawFurtherStreets_X5_corners
set_option maxRecDepth 20000 in
theorem ggX5_drawFurtherStreets_X5_drawn : GoodIn wsX5_drawFurtherStreets wsX5_drawn := goodIn_r _ [10, 11, 12, 13, 14, 5, 15, 16, 17, 42, 43, 44, 45, 46, 47, 48, 49] rfl (by decide +kernel)
set_option maxRecDepth 20000 in
theorem gX5_drawFurtherStreets_X5_drawn : GoodIn wsX5_drawFurtherStreets (wsV RX5 53 RX5 yX5_drawn wsX5_drawn) := goodIn_app (goodIn_of _ (by decide +kernel)) ggX5_drawFurtherStreets_X5_drawn
set_option maxRecDepth 20000 in
theorem ggX5_drawFurtherStreets_X5_putStreet : GoodIn wsX5_drawFurtherStreets wsX5_putStreet := goodIn_r _ [21, 22, 23, 24, 25, 26, 27, 28, 29, 30, 31, 5, 32, 33, 34, 35, 36, 37, 38, 39, 40, 41, 42, 43, 44, 45, 46, 47, 48, 49] rfl (by decide +kernel)
set_option maxRecDepth 20000 in
theorem gX5_drawFurtherStreets_X5_putStreet : GoodIn wsX5_drawFurtherStreets (wsV RX5 57 RX5 yX5_putStreet wsX5_putStreet) := goodIn_app (goodIn_of _ (by decide +kernel)) ggX5_drawFurtherStreets_X5_putStreet
set_option maxRecDepth 20000 in
theorem zdX5_drawFurtherStreets_0 : dAll cX5_drawFurtherStreets [(0, .iconst 0, 1), (1, .istore_n 1, 1), (2, .iload_n 1, 1), (3, .aload_n 0, 1), (4, .getfield 32, 3), (7, .iconst 2, 1), (8, .idiv, 1), (9, .if_icmp .ge 59, 3), (12, .aload_n 0, 1), (13, .iconst 2, 1), (14, .iload_n 1, 1), (15, .aload_n 0, 1), (16, .invokevirtual 61, 3), (19, .invokevirtual 53, 3), (22, .istore_n 2, 1), (23, .aload_n 0, 1), (24, .iconst 3, 1), (25, .iload_n 1, 1), (26, .aload_n 0, 1), (27, .invokevirtual 61, 3), (30, .invokevirtual 53, 3), (33, .istore_n 3, 1), (34, .iload_n 2, 1), (35, .iload_n 3, 1), (36, .if_icmp .eq 26, 3), (39, .aload_n 0, 1), (40, .bipush 20, 2), (42, .iload_n 1, 1), (43, .iadd, 1), (44, .iload_n 2, 1)] := dAll_of (by decide +kernel)
theorem dX5_drawFurtherStreets_0 : decode cX5_drawFurtherStreets 0 = .ok (.iconst 0, 1) := zdX5_drawFurtherStreets_0.1
theorem dX5_drawFurtherStreets_1 : decode cX5_drawFurtherStreets 1 = .ok (.istore_n 1, 1) := zdX5_drawFurtherStreets_0.2.1
theorem dX5_drawFurtherStreets_2 : decode cX5_drawFurtherStreets 2 = .ok (.iload_n 1, 1) := zdX5_drawFurtherStreets_0.2.2.1
theorem dX5_drawFurtherStreets_3 : decode cX5_drawFurtherStreets 3 = .ok (.aload_n 0, 1) := zdX5_drawFurtherStreets_0.2.2.2.1
theorem dX5_drawFurtherStreets_4 : decode cX5_drawFurtherStreets 4 = .ok (.getfield 32, 3) := zdX5_drawFurtherStreets_0.2.2.2.2.1
theorem dX5_drawFurtherStreets_7 : decode cX5_drawFurtherStreets 7 = .ok (.iconst 2, 1) := zdX5_drawFurtherStreets_0.2.2.2.2.2.1
theorem dX5_drawFurtherStreets_8 : decode cX5_drawFurtherStreets 8 = .ok (.idiv, 1) := zdX5_drawFurtherStreets_0.2.2.2.2.2.2.1
theorem dX5_drawFurtherStreets_9 : decode cX5_drawFurtherStreets 9 = .ok (.if_icmp .ge 59, 3) := zdX5_drawFurtherStreets_0.2.2.2.2.2.2.2.1
theorem dX5_drawFurtherStreets_12 : decode cX5_drawFurtherStreets 12 = .ok (.aload_n 0, 1) := zdX5_drawFurtherStreets_0.2.2.2.2.2.2.2.2.1
theorem dX5_drawFurtherStreets_13 : decode cX5_drawFurtherStreets 13 = .ok (.iconst 2, 1) := zdX5_drawFurtherStreets_0.2.2.2.2.2.2.2.2.2.1
theorem dX5_drawFurtherStreets_14 : decode cX5_drawFurtherStreets 14 = .ok (.iload_n 1, 1) := zdX5_drawFurtherStreets_0.2.2.2.2.2.2.2.2.2.2.1
theorem dX5_drawFurtherStreets_15 : decode cX5_drawFurtherStreets 15 = .ok (.aload_n 0, 1) := zdX5_drawFurtherStreets_0.2.2.2.2.2.2.2.2.2.2.2.1
theorem dX5_drawFurtherStreets_16 : decode cX5_drawFurtherStreets 16 = .ok (.invokevirtual 61, 3) := zdX5_drawFurtherStreets_0.2.2.2.2.2.2.2.2.2.2.2.2.1
theorem dX5_drawFurtherStreets_19 : decode cX5_drawFurtherStreets 19 = .ok (.invokevirtual 53, 3) := zdX5_drawFurtherStreets_0.2.2.2.2.2.2.2.2.2.2.2.2.2.1
theorem dX5_drawFurtherStreets_22 : decode cX5_drawFurtherStreets 22 = .ok (.istore_n 2, 1) := zdX5_drawFurtherStreets_0.2.2.2.2.2.2.2.2.2.2.2.2.2.2.1
theorem dX5_drawFurtherStreets_23 : decode cX5_drawFurtherStreets 23 = .ok (.aload_n 0, 1) := zdX5_drawFurtherStreets_0.2.2.2.2.2.2.2.2.2.2.2.2.2.2.2.1
theorem dX5_drawFurtherStreets_24 : decode cX5_drawFurtherStreets 24 = .ok (.iconst 3, 1) := zdX5_drawFurtherStreets_0.2.2.2.2.2.2.2.2.2.2.2.2.2.2.2.2.1
theorem dX5_drawFurtherStreets_25 : decode cX5_drawFurtherStreets 25 = .ok (.iload_n 1, 1) := zdX5_drawFurtherStreets_0.2.2.2.2.2.2.2.2.2.2.2.2.2.2.2.2.2.1
theorem dX5_drawFurtherStreets_26 : decode cX5_drawFurtherStreets 26 = .ok (.aload_n 0, 1) := zdX5_drawFurtherStreets_0.2.2.2.2.2.2.2.2.2.2.2.2.2.2.2.2.2.2.1
theorem dX5_drawFurtherStreets_27 : decode cX5_drawFurtherStreets 27 = .ok (.invokevirtual 61, 3) := zdX5_drawFurtherStreets_0.2.2.2.2.2.2.2.2.2.2.2.2.2.2.2.2.2.2.2.1
theorem dX5_drawFurtherStreets_30 : decode cX5_drawFurtherStreets 30 = .ok (.invokevirtual 53, 3) := zdX5_drawFurtherStreets_0.2.2.2.2.2.2.2.2.2.2.2.2.2.2.2.2.2.2.2.2.1
theorem dX5_drawFurtherStreets_33 : decode cX5_drawFurtherStreets 33 = .ok (.istore_n 3, 1) := zdX5_drawFurtherStreets_0.2.2.2.2.2.2.2.2.2.2.2.2.2.2.2.2.2.2.2.2.2.1
theorem dX5_drawFurtherStreets_34 : decode cX5_drawFurtherStreets 34 = .ok (.iload_n 2, 1) := zdX5_drawFurtherStreets_0.2.2.2.2.2.2.2.2.2.2.2.2.2.2.2.2.2.2.2.2.2.2.1
theorem dX5_drawFurtherStreets_35 : decode cX5_drawFurtherStreets 35 = .ok (.iload_n 3, 1) := zdX5_drawFurtherStreets_0.2.2.2.2.2.2.2.2.2.2.2.2.2.2.2.2.2.2.2.2.2.2.2.1
theorem dX5_drawFurtherStreets_36 : decode cX5_drawFurtherStreets 36 = .ok (.if_icmp .eq 26, 3) := zdX5_drawFurtherStreets_0.2.2.2.2.2.2.2.2.2.2.2.2.2.2.2.2.2.2.2.2.2.2.2.2.1
theorem dX5_drawFurtherStreets_39 : decode cX5_drawFurtherStreets 39 = .ok (.aload_n 0, 1) := zdX5_drawFurtherStreets_0.2.2.2.2.2.2.2.2.2.2.2.2.2.2.2.2.2.2.2.2.2.2.2.2.2.1
theorem dX5_drawFurtherStreets_40 : decode cX5_drawFurtherStreets 40 = .ok (.bipush 20, 2) := zdX5_drawFurtherStreets_0.2.2.2.2.2.2.2.2.2.2.2.2.2.2.2.2.2.2.2.2.2.2.2.2.2.2.1
theorem dX5_drawFurtherStreets_42 : decode cX5_drawFurtherStreets 42 = .ok (.iload_n 1, 1) := zdX5_drawFurtherStreets_0.2.2.2.2.2.2.2.2.2.2.2.2.2.2.2.2.2.2.2.2.2.2.2.2.2.2.2.1
theorem dX5_drawFurtherStreets_43 : decode cX5_drawFurtherStreets 43 = .ok (.iadd, 1) := zdX5_drawFurtherStreets_0.2.2.2.2.2.2.2.2.2.2.2.2.2.2.2.2.2.2.2.2.2.2.2.2.2.2.2.2.1
theorem dX5_drawFurtherStreets_44 : decode cX5_drawFurtherStreets 44 = .ok (.iload_n 2, 1) := zdX5_drawFurtherStreets_0.2.2.2.2.2.2.2.2.2.2.2.2.2.2.2.2.2.2.2.2.2.2.2.2.2.2.2.2.2.1
set_option maxRecDepth 20000 in
theorem zdX5_drawFurtherStreets_45 : dAll cX5_drawFurtherStreets [(45, .iload_n 3, 1), (46, .iconst 1, 1), (47, .aload_n 0, 1), (48, .iconst 1, 1), (49, .bipush 100, 2), (51, .iload_n 1, 1), (52, .iadd, 1), (53, .bipush 99, 2), (55, .invokevirtual 53, 3), (58, .iadd, 1), (59, .invokevirtual 57, 3), (62, .iinc 1 1, 3), (65, .goto (-63), 3), (68, .return_, 1)] := dAll_of (by decide +kernel)
theorem dX5_drawFurtherStreets_45 : decode cX5_drawFurtherStreets 45 = .ok (.iload_n 3, 1) := zdX5_drawFurtherStreets_45.1
theorem dX5_drawFurtherStreets_46 : decode cX5_drawFurtherStreets 46 = .ok (.iconst 1, 1) := zdX5_drawFurtherStreets_45.2.1
theorem dX5_drawFurtherStreets_47 : decode cX5_drawFurtherStreets 47 = .ok (.aload_n 0, 1) := zdX5_drawFurtherStreets_45.2.2.1
theorem dX5_drawFurtherStreets_48 : decode cX5_drawFurtherStreets 48 = .ok (.iconst 1, 1) := zdX5_drawFurtherStreets_45.2.2.2.1
theorem dX5_drawFurtherStreets_49 : decode cX5_drawFurtherStreets 49 = .ok (.bipush 100, 2) := zdX5_drawFurtherStreets_45.2.2.2.2.1
theorem dX5_drawFurtherStreets_51 : decode cX5_drawFurtherStreets 51 = .ok (.iload_n 1, 1) := zdX5_drawFurtherStreets_45.2.2.2.2.2.1
theorem dX5_drawFurtherStreets_52 : decode cX5_drawFurtherStreets 52 = .ok (.iadd, 1) := zdX5_drawFurtherStreets_45.2.2.2.2.2.2.1
theorem dX5_drawFurtherStreets_53 : decode cX5_drawFurtherStreets 53 = .ok (.bipush 99, 2) := zdX5_drawFurtherStreets_45.2.2.2.2.2.2.2.1
theorem dX5_drawFurtherStreets_55 : decode cX5_drawFurtherStreets 55 = .ok (.invokevirtual 53, 3) := zdX5_drawFurtherStreets_45.2.2.2.2.2.2.2.2.1
theorem dX5_drawFurtherStreets_58 : decode cX5_drawFurtherStreets 58 = .ok (.iadd, 1) := zdX5_drawFurtherStreets_45.2.2.2.2.2.2.2.2.2.1
theorem dX5_drawFurtherStreets_59 : decode cX5_drawFurtherStreets 59 = .ok (.invokevirtual 57, 3) := zdX5_drawFurtherStreets_45.2.2.2.2.2.2.2.2.2.2.1
theorem dX5_drawFurtherStreets_62 : decode cX5_drawFurtherStreets 62 = .ok (.iinc 1 1, 3) := zdX5_drawFurtherStreets_45.2.2.2.2.2.2.2.2.2.2.2.1
theorem dX5_drawFurtherStreets_65 : decode cX5_drawFurtherStreets 65 = .ok (.goto (-63), 3) := zdX5_drawFurtherStreets_45.2.2.2.2.2.2.2.2.2.2.2.2.1
theorem dX5_drawFurtherStreets_68 : decode cX5_drawFurtherStreets 68 = .ok (.return_, 1) := zdX5_drawFurtherStreets_45.2.2.2.2.2.2.2.2.2.2.2.2.2.1
set_option maxRecDepth 20000 in
theorem ggX5_drawUnits_X5_units : GoodIn wsX5_drawUnits wsX5_units := goodIn_r _ [5, 6, 35, 36, 37, 38, 39, 40, 41, 42] rfl (by decide +kernel)
set_option maxRecDepth 20000 in
theorem gX5_drawUnits_X5_units : GoodIn wsX5_drawUnits (wsV RX5 65 RX5 yX5_units wsX5_units) := goodIn_app (goodIn_of _ (by decide +kernel)) ggX5_drawUnits_X5_units
set_option maxRecDepth 20000 in
theorem ggX5_drawUnits_X5_corners : GoodIn wsX5_drawUnits wsX5_corners := goodIn_r _ [10, 6, 35, 36, 37, 38, 39, 40, 41, 42] rfl (by decide +kernel)
set_option maxRecDepth 20000 in
theorem gX5_drawUnits_X5_corners : GoodIn wsX5_drawUnits (wsV RX5 61 RX5 yX5_corners wsX5_corners) := goodIn_app (goodIn_of _ (by decide +kernel)) ggX5_drawUnits_X5_corners
set_option maxRecDepth 20000 in
theorem ggX5_drawUnits_X5_drawn : GoodIn wsX5_drawUnits wsX5_drawn := goodIn_r _ [14, 15, 16, 17, 18, 4, 19, 20, 21, 35, 36, 37, 38, 39, 40, 41, 42] rfl (by decide +kernel)
set_option maxRecDepth 20000 in
theorem gX5_drawUnits_X5_drawn : GoodIn wsX5_drawUnits (wsV RX5 53 RX5 yX5_drawn wsX5_drawn) := goodIn_app (goodIn_of _ (by decide +kernel)) ggX5_drawUnits_X5_drawn
set_option maxRecDepth 20000 in
theorem ggX5_drawUnits_X5_put : GoodIn wsX5_drawUnits wsX5_put := goodIn_r _ [25, 26, 27, 28, 29, 30, 31, 32, 33, 34, 35, 36, 37, 38, 39, 40, 41, 42] rfl (by decide +kernel)
set_option maxRecDepth 20000 in
theorem gX5_drawUnits_X5_put : GoodIn wsX5_drawUnits (wsV RX5 68 RX5 yX5_put wsX5_put) := goodIn_app (goodIn_of _ (by decide +kernel)) ggX5_drawUnits_X5_put
set_option maxRecDepth 20000 in
theorem zdX5_drawUnits_0 : dAll cX5_drawUnits [(0, .iconst 0, 1), (1, .istore_n 1, 1), (2, .iload_n 1, 1), (3, .aload_n 0, 1), (4, .invokevirtual 65, 3), (7, .if_icmp .ge 38, 3), (10, .aload_n 0, 1), (11, .bipush 30, 2), (13, .iload_n 1, 1), (14, .iadd, 1), (15, .aload_n 0, 1), (16, .iconst 4, 1), (17, .iload_n 1, 1), (18, .aload_n 0, 1), (19, .invokevirtual 61, 3), (22, .invokevirtual 53, 3), (25, .iconst 1, 1), (26, .aload_n 0, 1), (27, .iconst 5, 1), (28, .iload_n 1, 1), (29, .bipush 7, 2), (31, .invokevirtual 53, 3), (34, .iadd, 1), (35, .iconst 0, 1), (36, .invokevirtual 68, 3), (39, .iinc 1 1, 3), (42, .goto (-40), 3), (45, .return_, 1)] := dAll_of (by decide +kernel)
theorem dX5_drawUnits_0 : decode cX5_drawUnits 0 = .ok (.iconst 0, 1) := zdX5_drawUnits_0.1
theorem dX5_drawUnits_1 : decode cX5_drawUnits 1 = .ok (.istore_n 1, 1) := zdX5_drawUnits_0.2.1
theorem dX5_drawUnits_2 : decode cX5_drawUnits 2 = .ok (.iload_n 1, 1) := zdX5_drawUnits_0.2.2.1
theorem dX5_drawUnits_3 : decode cX5_drawUnits 3 = .ok (.aload_n 0, 1) := zdX5_drawUnits_0.2.2.2.1
theorem dX5_drawUnits_4 : decode cX5_drawUnits 4 = .ok (.invokevirtual 65, 3) := zdX5_drawUnits_0.2.2.2.2.1
theorem dX5_drawUnits_7 : decode cX5_drawUnits 7 = .ok (.if_icmp .ge 38, 3) := zdX5_drawUnits_0.2.2.2.2.2.1
theorem dX5_drawUnits_10 : decode cX5_drawUnits 10 = .ok (.aload_n 0, 1) := zdX5_drawUnits_0.2.2.2.2.2.2.1
theorem dX5_drawUnits_11 : decode cX5_drawUnits 11 = .ok (.bipush 30, 2) := zdX5_drawUnits_0.2.2.2.2.2.2.2.1
theorem dX5_drawUnits_13 : decode cX5_drawUnits 13 = .ok (.iload_n 1, 1) := zdX5_drawUnits_0.2.2.2.2.2.2.2.2.1
theorem dX5_drawUnits_14 : decode cX5_drawUnits 14 = .ok (.iadd, 1) := zdX5_drawUnits_0.2.2.2.2.2.2.2.2.2.1
theorem dX5_drawUnits_15 : decode cX5_drawUnits 15 = .ok (.aload_n 0, 1) := zdX5_drawUnits_0.2.2.2.2.2.2.2.2.2.2.1
theorem dX5_drawUnits_16 : decode cX5_drawUnits 16 = .ok (.iconst 4, 1) := zdX5_drawUnits_0.2.2.2.2.2.2.2.2.2.2.2.1
theorem dX5_drawUnits_17 : decode cX5_drawUnits 17 = .ok (.iload_n 1, 1) := zdX5_drawUnits_0.2.2.2.2.2.2.2.2.2.2.2.2.1
theorem dX5_drawUnits_18 : decode cX5_drawUnits 18 = .ok (.aload_n 0, 1) := zdX5_drawUnits_0.2.2.2.2.2.2.2.2.2.2.2.2.2.1
theorem dX5_drawUnits_19 : decode cX5_drawUnits 19 = .ok (.invokevirtual 61, 3) := zdX5_drawUnits_0.2.2.2.2.2.2.2.2.2.2.2.2.2.2.1
theorem dX5_drawUnits_22 : decode cX5_drawUnits 22 = .ok (.invokevirtual 53, 3) := zdX5_drawUnits_0.2.2.2.2.2.2.2.2.2.2.2.2.2.2.2.1
theorem dX5_drawUnits_25 : decode cX5_drawUnits 25 = .ok (.iconst 1, 1) := zdX5_drawUnits_0.2.2.2.2.2.2.2.2.2.2.2.2.2.2.2.2.1
theorem dX5_drawUnits_26 : decode cX5_drawUnits 26 = .ok (.aload_n 0, 1) := zdX5_drawUnits_0.2.2.2.2.2.2.2.2.2.2.2.2.2.2.2.2.2.1
theorem dX5_drawUnits_27 : decode cX5_drawUnits 27 = .ok (.iconst 5, 1) := zdX5_drawUnits_0.2.2.2.2.2.2.2.2.2.2.2.2.2.2.2.2.2.2.1
theorem dX5_drawUnits_28 : decode cX5_drawUnits 28 = .ok (.iload_n 1, 1) := zdX5_drawUnits_0.2.2.2.2.2.2.2.2.2.2.2.2.2.2.2.2.2.2.2.1
theorem dX5_drawUnits_29 : decode cX5_drawUnits 29 = .ok (.bipush 7, 2) := zdX5_drawUnits_0.2.2.2.2.2.2.2.2.2.2.2.2.2.2.2.2.2.2.2.2.1
theorem dX5_drawUnits_31 : decode cX5_drawUnits 31 = .ok (.invokevirtual 53, 3) := zdX5_drawUnits_0.2.2.2.2.2.2.2.2.2.2.2.2.2.2.2.2.2.2.2.2.2.1
theorem dX5_drawUnits_34 : decode cX5_drawUnits 34 = .ok (.iadd, 1) := zdX5_drawUnits_0.2.2.2.2.2.2.2.2.2.2.2.2.2.2.2.2.2.2.2.2.2.2.1
theorem dX5_drawUnits_35 : decode cX5_drawUnits 35 = .ok (.iconst 0, 1) := zdX5_drawUnits_0.2.2.2.2.2.2.2.2.2.2.2.2.2.2.2.2.2.2.2.2.2.2.2.1
theorem dX5_drawUnits_36 : decode cX5_drawUnits 36 = .ok (.invokevirtual 68, 3) := zdX5_drawUnits_0.2.2.2.2.2.2.2.2.2.2.2.2.2.2.2.2.2.2.2.2.2.2.2.2.1
theorem dX5_drawUnits_39 : decode cX5_drawUnits 39 = .ok (.iinc 1 1, 3) := zdX5_drawUnits_0.2.2.2.2.2.2.2.2.2.2.2.2.2.2.2.2.2.2.2.2.2.2.2.2.2.1
theorem dX5_drawUnits_42 : decode cX5_drawUnits 42 = .ok (.goto (-40), 3) := zdX5_drawUnits_0.2.2.2.2.2.2.2.2.2.2.2.2.2.2.2.2.2.2.2.2.2.2.2.2.2.2.1
theorem dX5_drawUnits_45 : decode cX5_drawUnits 45 = .ok (.return_, 1) := zdX5_drawUnits_0.2.2.2.2.2.2.2.2.2.2.2.2.2.2.2.2.2.2.2.2.2.2.2.2.2.2.2.1
set_option maxRecDepth 20000 in
theorem ggX5_drawCalls_X5_calls : GoodIn wsX5_drawCalls wsX5_calls := goodIn_r _ [5, 6, 35, 36, 37, 38, 39, 40, 41, 42] rfl (by decide +kernel)
set_option maxRecDepth 20000 in
theorem gX5_drawCalls_X5_calls : GoodIn wsX5_drawCalls (wsV RX5 71 RX5 yX5_calls wsX5_calls) := goodIn_app (goodIn_of _ (by decide +kernel)) ggX5_drawCalls_X5_calls
set_option maxRecDepth 20000 in
theorem ggX5_drawCalls_X5_drawn : GoodIn wsX5_drawCalls wsX5_drawn := goodIn_r _ [10, 11, 12, 13, 14, 4, 15, 16, 17, 35, 36, 37, 38, 39, 40, 41, 42] rfl (by decide +kernel)
set_option maxRecDepth 20000 in
theorem gX5_drawCalls_X5_drawn : GoodIn wsX5_drawCalls (wsV RX5 53 RX5 yX5_drawn wsX5_drawn) := goodIn_app (goodIn_of _ (by decide +kernel)) ggX5_drawCalls_X5_drawn
set_option maxRecDepth 20000 in
theorem ggX5_drawCalls_X5_corners : GoodIn wsX5_drawCalls wsX5_corners := goodIn_r _ [21, 6, 35, 36, 37, 38, 39, 40, 41, 42] rfl (by decide +kernel)
set_option maxRecDepth 20000 in
theorem gX5_drawCalls_X5_corners : GoodIn wsX5_drawCalls (wsV RX5 61 RX5 yX5_corners wsX5_corners) := goodIn_app (goodIn_of _ (by decide +kernel)) ggX5_drawCalls_X5_corners
set_option maxRecDepth 20000 in
theorem ggX5_drawCalls_X5_put : GoodIn wsX5_drawCalls wsX5_put := goodIn_r _ [25, 26, 27, 28, 29, 30, 31, 32, 33, 34, 35, 36, 37, 38, 39, 40, 41, 42] rfl (by decide +kernel)
set_option maxRecDepth 20000 in
theorem gX5_drawCalls_X5_put : GoodIn wsX5_drawCalls (wsV RX5 68 RX5 yX5_put wsX5_put) := goodIn_app (goodIn_of _ (by decide +kernel)) ggX5_drawCalls_X5_put
set_option maxRecDepth 20000 in
theorem zdX5_drawCalls_0 : dAll cX5_drawCalls [(0, .iconst 0, 1), (1, .istore_n 1, 1), (2, .iconst 0, 1), (3, .istore_n 2, 1), (4, .iload_n 2, 1), (5, .aload_n 0, 1), (6, .invokevirtual 71, 3), (9, .if_icmp .ge 77, 3), (12, .iload_n 2, 1), (13, .ifCond .le 18, 3), (16, .aload_n 0, 1), (17, .bipush 8, 2), (19, .iload_n 2, 1), (20, .iconst 3, 1), (21, .invokevirtual 53, 3), (24, .ifCond .ne 7, 3), (27, .iconst 1, 1), (28, .goto 4, 3), (31, .iconst 0, 1), (32, .istore_n 3, 1), (33, .iload_n 3, 1), (34, .ifCond .eq 7, 3), (37, .iload_n 1, 1), (38, .goto 13, 3), (41, .aload_n 0, 1), (42, .bipush 9, 2), (44, .iload_n 2, 1), (45, .sipush 1440, 3), (48, .invokevirtual 53, 3), (51, .istore_n 1, 1)] := dAll_of (by decide +kernel)
theorem dX5_drawCalls_0 : decode cX5_drawCalls 0 = .ok (.iconst 0, 1) := zdX5_drawCalls_0.1
theorem dX5_drawCalls_1 : decode cX5_drawCalls 1 = .ok (.istore_n 1, 1) := zdX5_drawCalls_0.2.1
theorem dX5_drawCalls_2 : decode cX5_drawCalls 2 = .ok (.iconst 0, 1) := zdX5_drawCalls_0.2.2.1
theorem dX5_drawCalls_3 : decode cX5_drawCalls 3 = .ok (.istore_n 2, 1) := zdX5_drawCalls_0.2.2.2.1
theorem dX5_drawCalls_4 : decode cX5_drawCalls 4 = .ok (.iload_n 2, 1) := zdX5_drawCalls_0.2.2.2.2.1
theorem dX5_drawCalls_5 : decode cX5_drawCalls 5 = .ok (.aload_n 0, 1) := zdX5_drawCalls_0.2.2.2.2.2.1
theorem dX5_drawCalls_6 : decode cX5_drawCalls 6 = .ok (.invokevirtual 71, 3) := zdX5_drawCalls_0.2.2.2.2.2.2.1
theorem dX5_drawCalls_9 : decode cX5_drawCalls 9 = .ok (.if_icmp .ge 77, 3) := zdX5_drawCalls_0.2.2.2.2.2.2.2.1
theorem dX5_drawCalls_12 : decode cX5_drawCalls 12 = .ok (.iload_n 2, 1) := zdX5_drawCalls_0.2.2.2.2.2.2.2.2.1
theorem dX5_drawCalls_13 : decode cX5_drawCalls 13 = .ok (.ifCond .le 18, 3) := zdX5_drawCalls_0.2.2.2.2.2.2.2.2.2.1
theorem dX5_drawCalls_16 : decode cX5_drawCalls 16 = .ok (.aload_n 0, 1) := zdX5_drawCalls_0.2.2.2.2.2.2.2.2.2.2.1
theorem dX5_drawCalls_17 : decode cX5_drawCalls 17 = .ok (.bipush 8, 2) := zdX5_drawCalls_0.2.2.2.2.2.2.2.2.2.2.2.1
theorem dX5_drawCalls_19 : decode cX5_drawCalls 19 = .ok (.iload_n 2, 1) := zdX5_drawCalls_0.2.2.2.2.2.2.2.2.2.2.2.2.1
theorem dX5_drawCalls_20 : decode cX5_drawCalls 20 = .ok (.iconst 3, 1) := zdX5_drawCalls_0.2.2.2.2.2.2.2.2.2.2.2.2.2.1
theorem dX5_drawCalls_21 : decode cX5_drawCalls 21 = .ok (.invokevirtual 53, 3) := zdX5_drawCalls_0.2.2.2.2.2.2.2.2.2.2.2.2.2.2.1
theorem dX5_drawCalls_24 : decode cX5_drawCalls 24 = .ok (.ifCond .ne 7, 3) := zdX5_drawCalls_0.2.2.2.2.2.2.2.2.2.2.2.2.2.2.2.1
theorem dX5_drawCalls_27 : decode cX5_drawCalls 27 = .ok (.iconst 1, 1) := zdX5_drawCalls_0.2.2.2.2.2.2.2.2.2.2.2.2.2.2.2.2.1
theorem dX5_drawCalls_28 : decode cX5_drawCalls 28 = .ok (.goto 4, 3) := zdX5_drawCalls_0.2.2.2.2.2.2.2.2.2.2.2.2.2.2.2.2.2.1
theorem dX5_drawCalls_31 : decode cX5_drawCalls 31 = .ok (.iconst 0, 1) := zdX5_drawCalls_0.2.2.2.2.2.2.2.2.2.2.2.2.2.2.2.2.2.2.1
theorem dX5_drawCalls_32 : decode cX5_drawCalls 32 = .ok (.istore_n 3, 1) := zdX5_drawCalls_0.2.2.2.2.2.2.2.2.2.2.2.2.2.2.2.2.2.2.2.1
theorem dX5_drawCalls_33 : decode cX5_drawCalls 33 = .ok (.iload_n 3, 1) := zdX5_drawCalls_0.2.2.2.2.2.2.2.2.2.2.2.2.2.2.2.2.2.2.2.2.1
theorem dX5_drawCalls_34 : decode cX5_drawCalls 34 = .ok (.ifCond .eq 7, 3) := zdX5_drawCalls_0.2.2.2.2.2.2.2.2.2.2.2.2.2.2.2.2.2.2.2.2.2.1
theorem dX5_drawCalls_37 : decode cX5_drawCalls 37 = .ok (.iload_n 1, 1) := zdX5_drawCalls_0.2.2.2.2.2.2.2.2.2.2.2.2.2.2.2.2.2.2.2.2.2.2.1
theorem dX5_drawCalls_38 : decode cX5_drawCalls 38 = .ok (.goto 13, 3) := zdX5_drawCalls_0.2.2.2.2.2.2.2.2.2.2.2.2.2.2.2.2.2.2.2.2.2.2.2.1
theorem dX5_drawCalls_41 : decode cX5_drawCalls 41 = .ok (.aload_n 0, 1) := zdX5_drawCalls_0.2.2.2.2.2.2.2.2.2.2.2.2.2.2.2.2.2.2.2.2.2.2.2.2.1
theorem dX5_drawCalls_42 : decode cX5_drawCalls 42 = .ok (.bipush 9, 2) := zdX5_drawCalls_0.2.2.2.2.2.2.2.2.2.2.2.2.2.2.2.2.2.2.2.2.2.2.2.2.2.1
theorem dX5_drawCalls_44 : decode cX5_drawCalls 44 = .ok (.iload_n 2, 1) := zdX5_drawCalls_0.2.2.2.2.2.2.2.2.2.2.2.2.2.2.2.2.2.2.2.2.2.2.2.2.2.2.1
theorem dX5_drawCalls_45 : decode cX5_drawCalls 45 = .ok (.sipush 1440, 3) := zdX5_drawCalls_0.2.2.2.2.2.2.2.2.2.2.2.2.2.2.2.2.2.2.2.2.2.2.2.2.2.2.2.1
theorem dX5_drawCalls_48 : decode cX5_drawCalls 48 = .ok (.invokevirtual 53, 3) := zdX5_drawCalls_0.2.2.2.2.2.2.2.2.2.2.2.2.2.2.2.2.2.2.2.2.2.2.2.2.2.2.2.2.1
theorem dX5_drawCalls_51 : decode cX5_drawCalls 51 = .ok (.istore_n 1, 1) := zdX5_drawCalls_0.2.2.2.2.2.2.2.2.2.2.2.2.2.2.2.2.2.2.2.2.2.2.2.2.2.2.2.2.2.1
set_option maxRecDepth 20000 in
theorem zdX5_drawCalls_52 : dAll cX5_drawCalls [(52, .aload_n 0, 1), (53, .bipush 41, 2), (55, .iload_n 2, 1), (56, .iadd, 1), (57, .aload_n 0, 1), (58, .bipush 6, 2), (60, .iload_n 2, 1), (61, .aload_n 0, 1), (62, .invokevirtual 61, 3), (65, .invokevirtual 53, 3), (68, .aload_n 0, 1), (69, .bipush 7, 2), (71, .iload_n 2, 1), (72, .iconst 3, 1), (73, .invokevirtual 53, 3), (76, .iload_n 1, 1), (77, .invokevirtual 68, 3), (80, .iinc 2 1, 3), (83, .goto (-79), 3), (86, .return_, 1)] := dAll_of (by decide +kernel)
theorem dX5_drawCalls_52 : decode cX5_drawCalls 52 = .ok (.aload_n 0, 1) := zdX5_drawCalls_52.1
theorem dX5_drawCalls_53 : decode cX5_drawCalls 53 = .ok (.bipush 41, 2) := zdX5_drawCalls_52.2.1
theorem dX5_drawCalls_55 : decode cX5_drawCalls 55 = .ok (.iload_n 2, 1) := zdX5_drawCalls_52.2.2.1
theorem dX5_drawCalls_56 : decode cX5_drawCalls 56 = .ok (.iadd, 1) := zdX5_drawCalls_52.2.2.2.1
theorem dX5_drawCalls_57 : decode cX5_drawCalls 57 = .ok (.aload_n 0, 1) := zdX5_drawCalls_52.2.2.2.2.1
theorem dX5_drawCalls_58 : decode cX5_drawCalls 58 = .ok (.bipush 6, 2) := zdX5_drawCalls_52.2.2.2.2.2.1
theorem dX5_drawCalls_60 : decode cX5_drawCalls 60 = .ok (.iload_n 2, 1) := zdX5_drawCalls_52.2.2.2.2.2.2.1
theorem dX5_drawCalls_61 : decode cX5_drawCalls 61 = .ok (.aload_n 0, 1) := zdX5_drawCalls_52.2.2.2.2.2.2.2.1
theorem dX5_drawCalls_62 : decode cX5_drawCalls 62 = .ok (.invokevirtual 61, 3) := zdX5_drawCalls_52.2.2.2.2.2.2.2.2.1
theorem dX5_drawCalls_65 : decode cX5_drawCalls 65 = .ok (.invokevirtual 53, 3) := zdX5_drawCalls_52.2.2.2.2.2.2.2.2.2.1
theorem dX5_drawCalls_68 : decode cX5_drawCalls 68 = .ok (.aload_n 0, 1) := zdX5_drawCalls_52.2.2.2.2.2.2.2.2.2.2.1
theorem dX5_drawCalls_69 : decode cX5_drawCalls 69 = .ok (.bipush 7, 2) := zdX5_drawCalls_52.2.2.2.2.2.2.2.2.2.2.2.1
theorem dX5_drawCalls_71 : decode cX5_drawCalls 71 = .ok (.iload_n 2, 1) := zdX5_drawCalls_52.2.2.2.2.2.2.2.2.2.2.2.2.1
theorem dX5_drawCalls_72 : decode cX5_drawCalls 72 = .ok (.iconst 3, 1) := zdX5_drawCalls_52.2.2.2.2.2.2.2.2.2.2.2.2.2.1
theorem dX5_drawCalls_73 : decode cX5_drawCalls 73 = .ok (.invokevirtual 53, 3) := zdX5_drawCalls_52.2.2.2.2.2.2.2.2.2.2.2.2.2.2.1
theorem dX5_drawCalls_76 : decode cX5_drawCalls 76 = .ok (.iload_n 1, 1) := zdX5_drawCalls_52.2.2.2.2.2.2.2.2.2.2.2.2.2.2.2.1
theorem dX5_drawCalls_77 : decode cX5_drawCalls 77 = .ok (.invokevirtual 68, 3) := zdX5_drawCalls_52.2.2.2.2.2.2.2.2.2.2.2.2.2.2.2.2.1
theorem dX5_drawCalls_80 : decode cX5_drawCalls 80 = .ok (.iinc 2 1, 3) := zdX5_drawCalls_52.2.2.2.2.2.2.2.2.2.2.2.2.2.2.2.2.2.1
theorem dX5_drawCalls_83 : decode cX5_drawCalls 83 = .ok (.goto (-79), 3) := zdX5_drawCalls_52.2.2.2.2.2.2.2.2.2.2.2.2.2.2.2.2.2.2.1
theorem dX5_drawCalls_86 : decode cX5_drawCalls 86 = .ok (.return_, 1) := zdX5_drawCalls_52.2.2.2.2.2.2.2.2.2.2.2.2.2.2.2.2.2.2.2.1
set_option maxRecDepth 20000 in
theorem ggX5_putStreet_X5_put : GoodIn wsX5_putStreet wsX5_put := goodIn_r _ [12, 13, 14, 15, 16, 17, 18, 19, 20, 21, 22, 23, 24, 25, 26, 27, 28, 29] rfl (by decide +kernel)
set_option maxRecDepth 20000 in
theorem gX5_putStreet_X5_put : GoodIn wsX5_putStreet (wsV RX5 68 RX5 yX5_put wsX5_put) := goodIn_app (goodIn_of _ (by decide +kernel)) ggX5_putStreet_X5_put
set_option maxRecDepth 20000 in
theorem zdX5_putStreet_0 : dAll cX5_putStreet [(0, .aload_n 0, 1), (1, .iload_n 1, 1), (2, .iload_n 2, 1), (3, .iload_n 3, 1), (4, .invokestatic 74, 3), (7, .iload_n 2, 1), (8, .iload_n 3, 1), (9, .invokestatic 80, 3), (12, .iload 4, 2), (14, .invokevirtual 68, 3), (17, .return_, 1)] := dAll_of (by decide +kernel)
theorem dX5_putStreet_0 : decode cX5_putStreet 0 = .ok (.aload_n 0, 1) := zdX5_putStreet_0.1
theorem dX5_putStreet_1 : decode cX5_putStreet 1 = .ok (.iload_n 1, 1) := zdX5_putStreet_0.2.1
theorem dX5_putStreet_2 : decode cX5_putStreet 2 = .ok (.iload_n 2, 1) := zdX5_putStreet_0.2.2.1
theorem dX5_putStreet_3 : decode cX5_putStreet 3 = .ok (.iload_n 3, 1) := zdX5_putStreet_0.2.2.2.1
theorem dX5_putStreet_4 : decode cX5_putStreet 4 = .ok (.invokestatic 74, 3) := zdX5_putStreet_0.2.2.2.2.1
theorem dX5_putStreet_7 : decode cX5_putStreet 7 = .ok (.iload_n 2, 1) := zdX5_putStreet_0.2.2.2.2.2.1
theorem dX5_putStreet_8 : decode cX5_putStreet 8 = .ok (.iload_n 3, 1) := zdX5_putStreet_0.2.2.2.2.2.2.1
theorem dX5_putStreet_9 : decode cX5_putStreet 9 = .ok (.invokestatic 80, 3) := zdX5_putStreet_0.2.2.2.2.2.2.2.1
theorem dX5_putStreet_12 : decode cX5_putStreet 12 = .ok (.iload 4, 2) := zdX5_putStreet_0.2.2.2.2.2.2.2.2.1
theorem dX5_putStreet_14 : decode cX5_putStreet 14 = .ok (.invokevirtual 68, 3) := zdX5_putStreet_0.2.2.2.2.2.2.2.2.2.1
theorem dX5_putStreet_17 : decode cX5_putStreet 17 = .ok (.return_, 1) := zdX5_putStreet_0.2.2.2.2.2.2.2.2.2.2.1
set_option maxRecDepth 20000 in
theorem ggX5_put_X6_isPart : GoodIn wsX5_put wsX6_isPart := goodIn_r _ [9] rfl (by decide +kernel)
set_option maxRecDepth 20000 in
theorem gX5_put_X6_isPart_n83 : GoodIn wsX5_put (wsX6_isPart) := ggX5_put_X6_isPart
set_option maxRecDepth 20000 in
theorem zdX5_put_0 : dAll cX5_put [(0, .iload_n 1, 1), (1, .invokestatic 83, 3), (4, .ifCond .eq 49, 3), (7, .aload_n 0, 1), (8, .getfield 9, 3), (11, .iload_n 1, 1), (12, .iconst 1, 1), (13, .bastore, 1), (14, .aload_n 0, 1), (15, .getfield 15, 3), (18, .iload_n 1, 1), (19, .iconst 1, 1), (20, .bastore, 1), (21, .aload_n 0, 1), (22, .getfield 18, 3), (25, .iload_n 1, 1), (26, .iload_n 2, 1), (27, .iastore, 1), (28, .aload_n 0, 1), (29, .getfield 22, 3), (32, .iload_n 1, 1), (33, .iload_n 3, 1), (34, .iastore, 1), (35, .aload_n 0, 1), (36, .getfield 25, 3), (39, .iload_n 1, 1), (40, .iload 4, 2), (42, .iastore, 1), (43, .aload_n 0, 1), (44, .dup, 1)] := dAll_of (by decide +kernel)
theorem dX5_put_0 : decode cX5_put 0 = .ok (.iload_n 1, 1) := zdX5_put_0.1
theorem dX5_put_1 : decode cX5_put 1 = .ok (.invokestatic 83, 3) := zdX5_put_0.2.1
theorem dX5_put_4 : decode cX5_put 4 = .ok (.ifCond .eq 49, 3) := zdX5_put_0.2.2.1
theorem dX5_put_7 : decode cX5_put 7 = .ok (.aload_n 0, 1) := zdX5_put_0.2.2.2.1
theorem dX5_put_8 : decode cX5_put 8 = .ok (.getfield 9, 3) := zdX5_put_0.2.2.2.2.1
theorem dX5_put_11 : decode cX5_put 11 = .ok (.iload_n 1, 1) := zdX5_put_0.2.2.2.2.2.1
theorem dX5_put_12 : decode cX5_put 12 = .ok (.iconst 1, 1) := zdX5_put_0.2.2.2.2.2.2.1
theorem dX5_put_13 : decode cX5_put 13 = .ok (.bastore, 1) := zdX5_put_0.2.2.2.2.2.2.2.1
theorem dX5_put_14 : decode cX5_put 14 = .ok (.aload_n 0, 1) := zdX5_put_0.2.2.2.2.2.2.2.2.1
theorem dX5_put_15 : decode cX5_put 15 = .ok (.getfield 15, 3) := zdX5_put_0.2.2.2.2.2.2.2.2.2.1
theorem dX5_put_18 : decode cX5_put 18 = .ok (.iload_n 1, 1) := zdX5_put_0.2.2.2.2.2.2.2.2.2.2.1
theorem dX5_put_19 : decode cX5_put 19 = .ok (.iconst 1, 1) := zdX5_put_0.2.2.2.2.2.2.2.2.2.2.2.1
theorem dX5_put_20 : decode cX5_put 20 = .ok (.bastore, 1) := zdX5_put_0.2.2.2.2.2.2.2.2.2.2.2.2.1
theorem dX5_put_21 : decode cX5_put 21 = .ok (.aload_n 0, 1) := zdX5_put_0.2.2.2.2.2.2.2.2.2.2.2.2.2.1
theorem dX5_put_22 : decode cX5_put 22 = .ok (.getfield 18, 3) := zdX5_put_0.2.2.2.2.2.2.2.2.2.2.2.2.2.2.1
theorem dX5_put_25 : decode cX5_put 25 = .ok (.iload_n 1, 1) := zdX5_put_0.2.2.2.2.2.2.2.2.2.2.2.2.2.2.2.1
theorem dX5_put_26 : decode cX5_put 26 = .ok (.iload_n 2, 1) := zdX5_put_0.2.2.2.2.2.2.2.2.2.2.2.2.2.2.2.2.1
theorem dX5_put_27 : decode cX5_put 27 = .ok (.iastore, 1) := zdX5_put_0.2.2.2.2.2.2.2.2.2.2.2.2.2.2.2.2.2.1
theorem dX5_put_28 : decode cX5_put 28 = .ok (.aload_n 0, 1) := zdX5_put_0.2.2.2.2.2.2.2.2.2.2.2.2.2.2.2.2.2.2.1
theorem dX5_put_29 : decode cX5_put 29 = .ok (.getfield 22, 3) := zdX5_put_0.2.2.2.2.2.2.2.2.2.2.2.2.2.2.2.2.2.2.2.1
theorem dX5_put_32 : decode cX5_put 32 = .ok (.iload_n 1, 1) := zdX5_put_0.2.2.2.2.2.2.2.2.2.2.2.2.2.2.2.2.2.2.2.2.1
theorem dX5_put_33 : decode cX5_put 33 = .ok (.iload_n 3, 1) := zdX5_put_0.2.2.2.2.2.2.2.2.2.2.2.2.2.2.2.2.2.2.2.2.2.1
theorem dX5_put_34 : decode cX5_put 34 = .ok (.iastore, 1) := zdX5_put_0.2.2.2.2.2.2.2.2.2.2.2.2.2.2.2.2.2.2.2.2.2.2.1
theorem dX5_put_35 : decode cX5_put 35 = .ok (.aload_n 0, 1) := zdX5_put_0.2.2.2.2.2.2.2.2.2.2.2.2.2.2.2.2.2.2.2.2.2.2.2.1
theorem dX5_put_36 : decode cX5_put 36 = .ok (.getfield 25, 3) := zdX5_put_0.2.2.2.2.2.2.2.2.2.2.2.2.2.2.2.2.2.2.2.2.2.2.2.2.1
theorem dX5_put_39 : decode cX5_put 39 = .ok (.iload_n 1, 1) := zdX5_put_0.2.2.2.2.2.2.2.2.2.2.2.2.2.2.2.2.2.2.2.2.2.2.2.2.2.1
theorem dX5_put_40 : decode cX5_put 40 = .ok (.iload 4, 2) := zdX5_put_0.2.2.2.2.2.2.2.2.2.2.2.2.2.2.2.2.2.2.2.2.2.2.2.2.2.2.1
theorem dX5_put_42 : decode cX5_put 42 = .ok (.iastore, 1) := zdX5_put_0.2.2.2.2.2.2.2.2.2.2.2.2.2.2.2.2.2.2.2.2.2.2.2.2.2.2.2.1
theorem dX5_put_43 : decode cX5_put 43 = .ok (.aload_n 0, 1) := zdX5_put_0.2.2.2.2.2.2.2.2.2.2.2.2.2.2.2.2.2.2.2.2.2.2.2.2.2.2.2.2.1
theorem dX5_put_44 : decode cX5_put 44 = .ok (.dup, 1) := zdX5_put_0.2.2.2.2.2.2.2.2.2.2.2.2.2.2.2.2.2.2.2.2.2.2.2.2.2.2.2.2.2.1
set_option maxRecDepth 20000 in
theorem zdX5_put_45 : dAll cX5_put [(45, .getfield 50, 3), (48, .iconst 1, 1), (49, .iadd, 1), (50, .putfield 50, 3), (53, .return_, 1)] := dAll_of (by decide +kernel)
theorem dX5_put_45 : decode cX5_put 45 = .ok (.getfield 50, 3) := zdX5_put_45.1
theorem dX5_put_48 : decode cX5_put 48 = .ok (.iconst 1, 1) := zdX5_put_45.2.1
theorem dX5_put_49 : decode cX5_put 49 = .ok (.iadd, 1) := zdX5_put_45.2.2.1
theorem dX5_put_50 : decode cX5_put 50 = .ok (.putfield 50, 3) := zdX5_put_45.2.2.2.1
theorem dX5_put_53 : decode cX5_put 53 = .ok (.return_, 1) := zdX5_put_45.2.2.2.2.1
set_option maxRecDepth 20000 in
theorem ggX5_drawn_X5_mixed : GoodIn wsX5_drawn wsX5_mixed := goodIn_r _ [6, 7, 8] rfl (by decide +kernel)
set_option maxRecDepth 20000 in
theorem gX5_drawn_X5_mixed : GoodIn wsX5_drawn (va_wsS RX5 88 yX5_mixed wsX5_mixed) := goodIn_app (goodIn_of _ (by decide +kernel)) ggX5_drawn_X5_mixed
set_option maxRecDepth 20000 in
theorem zdX5_drawn_0 : dAll cX5_drawn [(0, .iload_n 3, 1), (1, .iconst 1, 1), (2, .if_icmp .ge 5, 3), (5, .iconst 0, 1), (6, .ireturn, 1), (7, .aload_n 0, 1), (8, .getfield 28, 3), (11, .ldc 87, 2), (13, .iload_n 1, 1), (14, .imul, 1), (15, .iadd, 1), (16, .bipush 31, 2), (18, .iload_n 2, 1), (19, .imul, 1), (20, .iadd, 1), (21, .invokestatic 88, 3), (24, .iconst 4, 1), (25, .iushr, 1), (26, .iload_n 3, 1), (27, .irem, 1), (28, .ireturn, 1)] := dAll_of (by decide +kernel)
theorem dX5_drawn_0 : decode cX5_drawn 0 = .ok (.iload_n 3, 1) := zdX5_drawn_0.1
theorem dX5_drawn_1 : decode cX5_drawn 1 = .ok (.iconst 1, 1) := zdX5_drawn_0.2.1
theorem dX5_drawn_2 : decode cX5_drawn 2 = .ok (.if_icmp .ge 5, 3) := zdX5_drawn_0.2.2.1
theorem dX5_drawn_5 : decode cX5_drawn 5 = .ok (.iconst 0, 1) := zdX5_drawn_0.2.2.2.1
theorem dX5_drawn_6 : decode cX5_drawn 6 = .ok (.ireturn, 1) := zdX5_drawn_0.2.2.2.2.1
theorem dX5_drawn_7 : decode cX5_drawn 7 = .ok (.aload_n 0, 1) := zdX5_drawn_0.2.2.2.2.2.1
theorem dX5_drawn_8 : decode cX5_drawn 8 = .ok (.getfield 28, 3) := zdX5_drawn_0.2.2.2.2.2.2.1
theorem dX5_drawn_11 : decode cX5_drawn 11 = .ok (.ldc 87, 2) := zdX5_drawn_0.2.2.2.2.2.2.2.1
theorem dX5_drawn_13 : decode cX5_drawn 13 = .ok (.iload_n 1, 1) := zdX5_drawn_0.2.2.2.2.2.2.2.2.1
theorem dX5_drawn_14 : decode cX5_drawn 14 = .ok (.imul, 1) := zdX5_drawn_0.2.2.2.2.2.2.2.2.2.1
theorem dX5_drawn_15 : decode cX5_drawn 15 = .ok (.iadd, 1) := zdX5_drawn_0.2.2.2.2.2.2.2.2.2.2.1
theorem dX5_drawn_16 : decode cX5_drawn 16 = .ok (.bipush 31, 2) := zdX5_drawn_0.2.2.2.2.2.2.2.2.2.2.2.1
theorem dX5_drawn_18 : decode cX5_drawn 18 = .ok (.iload_n 2, 1) := zdX5_drawn_0.2.2.2.2.2.2.2.2.2.2.2.2.1
theorem dX5_drawn_19 : decode cX5_drawn 19 = .ok (.imul, 1) := zdX5_drawn_0.2.2.2.2.2.2.2.2.2.2.2.2.2.1
theorem dX5_drawn_20 : decode cX5_drawn 20 = .ok (.iadd, 1) := zdX5_drawn_0.2.2.2.2.2.2.2.2.2.2.2.2.2.2.1
theorem dX5_drawn_21 : decode cX5_drawn 21 = .ok (.invokestatic 88, 3) := zdX5_drawn_0.2.2.2.2.2.2.2.2.2.2.2.2.2.2.2.1
theorem dX5_drawn_24 : decode cX5_drawn 24 = .ok (.iconst 4, 1) := zdX5_drawn_0.2.2.2.2.2.2.2.2.2.2.2.2.2.2.2.2.1
theorem dX5_drawn_25 : decode cX5_drawn 25 = .ok (.iushr, 1) := zdX5_drawn_0.2.2.2.2.2.2.2.2.2.2.2.2.2.2.2.2.2.1
theorem dX5_drawn_26 : decode cX5_drawn 26 = .ok (.iload_n 3, 1) := zdX5_drawn_0.2.2.2.2.2.2.2.2.2.2.2.2.2.2.2.2.2.2.1
theorem dX5_drawn_27 : decode cX5_drawn 27 = .ok (.irem, 1) := zdX5_drawn_0.2.2.2.2.2.2.2.2.2.2.2.2.2.2.2.2.2.2.2.1
theorem dX5_drawn_28 : decode cX5_drawn 28 = .ok (.ireturn, 1) := zdX5_drawn_0.2.2.2.2.2.2.2.2.2.2.2.2.2.2.2.2.2.2.2.2.1
set_option maxRecDepth 20000 in
theorem zdX5_mixed_0 : dAll cX5_mixed [(0, .iload_n 0, 1), (1, .iload_n 0, 1), (2, .bipush 15, 2), (4, .iushr, 1), (5, .ixor, 1), (6, .ldc 92, 2), (8, .imul, 1), (9, .istore_n 1, 1), (10, .iload_n 1, 1), (11, .iload_n 1, 1), (12, .bipush 13, 2), (14, .iushr, 1), (15, .ixor, 1), (16, .ldc 93, 2), (18, .imul, 1), (19, .istore_n 1, 1), (20, .iload_n 1, 1), (21, .iload_n 1, 1), (22, .bipush 16, 2), (24, .iushr, 1), (25, .ixor, 1), (26, .ireturn, 1)] := dAll_of (by decide +kernel)
theorem dX5_mixed_0 : decode cX5_mixed 0 = .ok (.iload_n 0, 1) := zdX5_mixed_0.1
theorem dX5_mixed_1 : decode cX5_mixed 1 = .ok (.iload_n 0, 1) := zdX5_mixed_0.2.1
theorem dX5_mixed_2 : decode cX5_mixed 2 = .ok (.bipush 15, 2) := zdX5_mixed_0.2.2.1
theorem dX5_mixed_4 : decode cX5_mixed 4 = .ok (.iushr, 1) := zdX5_mixed_0.2.2.2.1
theorem dX5_mixed_5 : decode cX5_mixed 5 = .ok (.ixor, 1) := zdX5_mixed_0.2.2.2.2.1
theorem dX5_mixed_6 : decode cX5_mixed 6 = .ok (.ldc 92, 2) := zdX5_mixed_0.2.2.2.2.2.1
theorem dX5_mixed_8 : decode cX5_mixed 8 = .ok (.imul, 1) := zdX5_mixed_0.2.2.2.2.2.2.1
theorem dX5_mixed_9 : decode cX5_mixed 9 = .ok (.istore_n 1, 1) := zdX5_mixed_0.2.2.2.2.2.2.2.1
theorem dX5_mixed_10 : decode cX5_mixed 10 = .ok (.iload_n 1, 1) := zdX5_mixed_0.2.2.2.2.2.2.2.2.1
theorem dX5_mixed_11 : decode cX5_mixed 11 = .ok (.iload_n 1, 1) := zdX5_mixed_0.2.2.2.2.2.2.2.2.2.1
theorem dX5_mixed_12 : decode cX5_mixed 12 = .ok (.bipush 13, 2) := zdX5_mixed_0.2.2.2.2.2.2.2.2.2.2.1
theorem dX5_mixed_14 : decode cX5_mixed 14 = .ok (.iushr, 1) := zdX5_mixed_0.2.2.2.2.2.2.2.2.2.2.2.1
theorem dX5_mixed_15 : decode cX5_mixed 15 = .ok (.ixor, 1) := zdX5_mixed_0.2.2.2.2.2.2.2.2.2.2.2.2.1
theorem dX5_mixed_16 : decode cX5_mixed 16 = .ok (.ldc 93, 2) := zdX5_mixed_0.2.2.2.2.2.2.2.2.2.2.2.2.2.1
theorem dX5_mixed_18 : decode cX5_mixed 18 = .ok (.imul, 1) := zdX5_mixed_0.2.2.2.2.2.2.2.2.2.2.2.2.2.2.1
theorem dX5_mixed_19 : decode cX5_mixed 19 = .ok (.istore_n 1, 1) := zdX5_mixed_0.2.2.2.2.2.2.2.2.2.2.2.2.2.2.2.1
theorem dX5_mixed_20 : decode cX5_mixed 20 = .ok (.iload_n 1, 1) := zdX5_mixed_0.2.2.2.2.2.2.2.2.2.2.2.2.2.2.2.2.1
theorem dX5_mixed_21 : decode cX5_mixed 21 = .ok (.iload_n 1, 1) := zdX5_mixed_0.2.2.2.2.2.2.2.2.2.2.2.2.2.2.2.2.2.1
theorem dX5_mixed_22 : decode cX5_mixed 22 = .ok (.bipush 16, 2) := zdX5_mixed_0.2.2.2.2.2.2.2.2.2.2.2.2.2.2.2.2.2.2.1
theorem dX5_mixed_24 : decode cX5_mixed 24 = .ok (.iushr, 1) := zdX5_mixed_0.2.2.2.2.2.2.2.2.2.2.2.2.2.2.2.2.2.2.2.1
theorem dX5_mixed_25 : decode cX5_mixed 25 = .ok (.ixor, 1) := zdX5_mixed_0.2.2.2.2.2.2.2.2.2.2.2.2.2.2.2.2.2.2.2.2.1
theorem dX5_mixed_26 : decode cX5_mixed 26 = .ok (.ireturn, 1) := zdX5_mixed_0.2.2.2.2.2.2.2.2.2.2.2.2.2.2.2.2.2.2.2.2.2.1
set_option maxRecDepth 20000 in
theorem zdX5_corners_0 : dAll cX5_corners [(0, .iconst 1, 1), (1, .aload_n 0, 1), (2, .getfield 32, 3), (5, .iadd, 1), (6, .ireturn, 1)] := dAll_of (by decide +kernel)
theorem dX5_corners_0 : decode cX5_corners 0 = .ok (.iconst 1, 1) := zdX5_corners_0.1
theorem dX5_corners_1 : decode cX5_corners 1 = .ok (.aload_n 0, 1) := zdX5_corners_0.2.1
theorem dX5_corners_2 : decode cX5_corners 2 = .ok (.getfield 32, 3) := zdX5_corners_0.2.2.1
theorem dX5_corners_5 : decode cX5_corners 5 = .ok (.iadd, 1) := zdX5_corners_0.2.2.2.1
theorem dX5_corners_6 : decode cX5_corners 6 = .ok (.ireturn, 1) := zdX5_corners_0.2.2.2.2.1
set_option maxRecDepth 20000 in
theorem zdX5_units_0 : dAll cX5_units [(0, .iconst 1, 1), (1, .aload_n 0, 1), (2, .getfield 32, 3), (5, .iconst 2, 1), (6, .idiv, 1), (7, .iadd, 1), (8, .ireturn, 1)] := dAll_of (by decide +kernel)
theorem dX5_units_0 : decode cX5_units 0 = .ok (.iconst 1, 1) := zdX5_units_0.1
theorem dX5_units_1 : decode cX5_units 1 = .ok (.aload_n 0, 1) := zdX5_units_0.2.1
theorem dX5_units_2 : decode cX5_units 2 = .ok (.getfield 32, 3) := zdX5_units_0.2.2.1
theorem dX5_units_5 : decode cX5_units 5 = .ok (.iconst 2, 1) := zdX5_units_0.2.2.2.1
theorem dX5_units_6 : decode cX5_units 6 = .ok (.idiv, 1) := zdX5_units_0.2.2.2.2.1
theorem dX5_units_7 : decode cX5_units 7 = .ok (.iadd, 1) := zdX5_units_0.2.2.2.2.2.1
theorem dX5_units_8 : decode cX5_units 8 = .ok (.ireturn, 1) := zdX5_units_0.2.2.2.2.2.2.1
set_option maxRecDepth 20000 in
theorem zdX5_calls_0 : dAll cX5_calls [(0, .iconst 1, 1), (1, .aload_n 0, 1), (2, .getfield 32, 3), (5, .iadd, 1), (6, .ireturn, 1)] := dAll_of (by decide +kernel)
theorem dX5_calls_0 : decode cX5_calls 0 = .ok (.iconst 1, 1) := zdX5_calls_0.1
theorem dX5_calls_1 : decode cX5_calls 1 = .ok (.aload_n 0, 1) := zdX5_calls_0.2.1
theorem dX5_calls_2 : decode cX5_calls 2 = .ok (.getfield 32, 3) := zdX5_calls_0.2.2.1
theorem dX5_calls_5 : decode cX5_calls 5 = .ok (.iadd, 1) := zdX5_calls_0.2.2.2.1
theorem dX5_calls_6 : decode cX5_calls 6 = .ok (.ireturn, 1) := zdX5_calls_0.2.2.2.2.1
set_option maxRecDepth 20000 in
theorem zdX5_partsHad_0 : dAll cX5_partsHad [(0, .aload_n 0, 1), (1, .getfield 50, 3), (4, .ireturn, 1)] := dAll_of (by decide +kernel)
theorem dX5_partsHad_0 : decode cX5_partsHad 0 = .ok (.aload_n 0, 1) := zdX5_partsHad_0.1
theorem dX5_partsHad_1 : decode cX5_partsHad 1 = .ok (.getfield 50, 3) := zdX5_partsHad_0.2.1
theorem dX5_partsHad_4 : decode cX5_partsHad 4 = .ok (.ireturn, 1) := zdX5_partsHad_0.2.2.1
set_option maxRecDepth 20000 in
theorem ggX5_has_X6_isPart : GoodIn wsX5_has wsX6_isPart := goodIn_r _ [4] rfl (by decide +kernel)
set_option maxRecDepth 20000 in
theorem gX5_has_X6_isPart_n83 : GoodIn wsX5_has (wsX6_isPart) := ggX5_has_X6_isPart
set_option maxRecDepth 20000 in
theorem zdX5_has_0 : dAll cX5_has [(0, .iload_n 1, 1), (1, .invokestatic 83, 3), (4, .ifCond .eq 16, 3), (7, .aload_n 0, 1), (8, .getfield 9, 3)] := dAll_of (by decide +kernel)
theorem dX5_has_0 : decode cX5_has 0 = .ok (.iload_n 1, 1) := zdX5_has_0.1
theorem dX5_has_1 : decode cX5_has 1 = .ok (.invokestatic 83, 3) := zdX5_has_0.2.1
theorem dX5_has_4 : decode cX5_has 4 = .ok (.ifCond .eq 16, 3) := zdX5_has_0.2.2.1
theorem dX5_has_7 : decode cX5_has 7 = .ok (.aload_n 0, 1) := zdX5_has_0.2.2.2.1
theorem dX5_has_8 : decode cX5_has 8 = .ok (.getfield 9, 3) := zdX5_has_0.2.2.2.2.1
