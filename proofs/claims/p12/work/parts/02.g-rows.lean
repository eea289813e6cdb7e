set_option maxRecDepth 20000 in
theorem zdX5_has_11 : dAll cX5_has [(11, .iload_n 1, 1), (12, .baload, 1), (13, .ifCond .eq 7, 3), (16, .iconst 1, 1), (17, .goto 4, 3), (20, .iconst 0, 1), (21, .ireturn, 1)] := dAll_of (by decide +kernel)
theorem dX5_has_11 : decode cX5_has 11 = .ok (.iload_n 1, 1) := zdX5_has_11.1
theorem dX5_has_12 : decode cX5_has 12 = .ok (.baload, 1) := zdX5_has_11.2.1
theorem dX5_has_13 : decode cX5_has 13 = .ok (.ifCond .eq 7, 3) := zdX5_has_11.2.2.1
theorem dX5_has_16 : decode cX5_has 16 = .ok (.iconst 1, 1) := zdX5_has_11.2.2.2.1
theorem dX5_has_17 : decode cX5_has 17 = .ok (.goto 4, 3) := zdX5_has_11.2.2.2.2.1
theorem dX5_has_20 : decode cX5_has 20 = .ok (.iconst 0, 1) := zdX5_has_11.2.2.2.2.2.1
theorem dX5_has_21 : decode cX5_has 21 = .ok (.ireturn, 1) := zdX5_has_11.2.2.2.2.2.2.1
set_option maxRecDepth 20000 in
theorem ggX5_isThere_X6_isPart : GoodIn wsX5_isThere wsX6_isPart := goodIn_r _ [4] rfl (by decide +kernel)
set_option maxRecDepth 20000 in
theorem gX5_isThere_X6_isPart_n83 : GoodIn wsX5_isThere (wsX6_isPart) := ggX5_isThere_X6_isPart
set_option maxRecDepth 20000 in
theorem zdX5_isThere_0 : dAll cX5_isThere [(0, .iload_n 1, 1), (1, .invokestatic 83, 3), (4, .ifCond .eq 16, 3), (7, .aload_n 0, 1), (8, .getfield 15, 3), (11, .iload_n 1, 1), (12, .baload, 1), (13, .ifCond .eq 7, 3), (16, .iconst 1, 1), (17, .goto 4, 3), (20, .iconst 0, 1), (21, .ireturn, 1)] := dAll_of (by decide +kernel)
theorem dX5_isThere_0 : decode cX5_isThere 0 = .ok (.iload_n 1, 1) := zdX5_isThere_0.1
theorem dX5_isThere_1 : decode cX5_isThere 1 = .ok (.invokestatic 83, 3) := zdX5_isThere_0.2.1
theorem dX5_isThere_4 : decode cX5_isThere 4 = .ok (.ifCond .eq 16, 3) := zdX5_isThere_0.2.2.1
theorem dX5_isThere_7 : decode cX5_isThere 7 = .ok (.aload_n 0, 1) := zdX5_isThere_0.2.2.2.1
theorem dX5_isThere_8 : decode cX5_isThere 8 = .ok (.getfield 15, 3) := zdX5_isThere_0.2.2.2.2.1
theorem dX5_isThere_11 : decode cX5_isThere 11 = .ok (.iload_n 1, 1) := zdX5_isThere_0.2.2.2.2.2.1
theorem dX5_isThere_12 : decode cX5_isThere 12 = .ok (.baload, 1) := zdX5_isThere_0.2.2.2.2.2.2.1
theorem dX5_isThere_13 : decode cX5_isThere 13 = .ok (.ifCond .eq 7, 3) := zdX5_isThere_0.2.2.2.2.2.2.2.1
theorem dX5_isThere_16 : decode cX5_isThere 16 = .ok (.iconst 1, 1) := zdX5_isThere_0.2.2.2.2.2.2.2.2.1
theorem dX5_isThere_17 : decode cX5_isThere 17 = .ok (.goto 4, 3) := zdX5_isThere_0.2.2.2.2.2.2.2.2.2.1
theorem dX5_isThere_20 : decode cX5_isThere 20 = .ok (.iconst 0, 1) := zdX5_isThere_0.2.2.2.2.2.2.2.2.2.2.1
theorem dX5_isThere_21 : decode cX5_isThere 21 = .ok (.ireturn, 1) := zdX5_isThere_0.2.2.2.2.2.2.2.2.2.2.2.1
set_option maxRecDepth 20000 in
theorem ggX5_setThere_X5_has : GoodIn wsX5_setThere wsX5_has := goodIn_r _ [6, 7, 8, 9, 10, 11, 12, 13, 14, 15, 16, 17, 18] rfl (by decide +kernel)
set_option maxRecDepth 20000 in
theorem gX5_setThere_X5_has : GoodIn wsX5_setThere (wsV RX5 94 RX5 yX5_has wsX5_has) := goodIn_app (goodIn_of _ (by decide +kernel)) ggX5_setThere_X5_has
set_option maxRecDepth 20000 in
theorem zdX5_setThere_0 : dAll cX5_setThere [(0, .aload_n 0, 1), (1, .iload_n 1, 1), (2, .invokevirtual 94, 3), (5, .ifCond .eq 10, 3), (8, .aload_n 0, 1), (9, .getfield 15, 3), (12, .iload_n 1, 1), (13, .iload_n 2, 1), (14, .bastore, 1), (15, .return_, 1)] := dAll_of (by decide +kernel)
theorem dX5_setThere_0 : decode cX5_setThere 0 = .ok (.aload_n 0, 1) := zdX5_setThere_0.1
theorem dX5_setThere_1 : decode cX5_setThere 1 = .ok (.iload_n 1, 1) := zdX5_setThere_0.2.1
theorem dX5_setThere_2 : decode cX5_setThere 2 = .ok (.invokevirtual 94, 3) := zdX5_setThere_0.2.2.1
theorem dX5_setThere_5 : decode cX5_setThere 5 = .ok (.ifCond .eq 10, 3) := zdX5_setThere_0.2.2.2.1
theorem dX5_setThere_8 : decode cX5_setThere 8 = .ok (.aload_n 0, 1) := zdX5_setThere_0.2.2.2.2.1
theorem dX5_setThere_9 : decode cX5_setThere 9 = .ok (.getfield 15, 3) := zdX5_setThere_0.2.2.2.2.2.1
theorem dX5_setThere_12 : decode cX5_setThere 12 = .ok (.iload_n 1, 1) := zdX5_setThere_0.2.2.2.2.2.2.1
theorem dX5_setThere_13 : decode cX5_setThere 13 = .ok (.iload_n 2, 1) := zdX5_setThere_0.2.2.2.2.2.2.2.1
theorem dX5_setThere_14 : decode cX5_setThere 14 = .ok (.bastore, 1) := zdX5_setThere_0.2.2.2.2.2.2.2.2.1
theorem dX5_setThere_15 : decode cX5_setThere 15 = .ok (.return_, 1) := zdX5_setThere_0.2.2.2.2.2.2.2.2.2.1
set_option maxRecDepth 20000 in
theorem ggX5_cornerOf_X6_isPart : GoodIn wsX5_cornerOf wsX6_isPart := goodIn_r _ [4] rfl (by decide +kernel)
set_option maxRecDepth 20000 in
theorem gX5_cornerOf_X6_isPart_n83 : GoodIn wsX5_cornerOf (wsX6_isPart) := ggX5_cornerOf_X6_isPart
set_option maxRecDepth 20000 in
theorem zdX5_cornerOf_0 : dAll cX5_cornerOf [(0, .iload_n 1, 1), (1, .invokestatic 83, 3), (4, .ifCond .eq 12, 3), (7, .aload_n 0, 1), (8, .getfield 18, 3), (11, .iload_n 1, 1), (12, .iaload, 1), (13, .goto 4, 3), (16, .iconst 0, 1), (17, .ireturn, 1)] := dAll_of (by decide +kernel)
theorem dX5_cornerOf_0 : decode cX5_cornerOf 0 = .ok (.iload_n 1, 1) := zdX5_cornerOf_0.1
theorem dX5_cornerOf_1 : decode cX5_cornerOf 1 = .ok (.invokestatic 83, 3) := zdX5_cornerOf_0.2.1
theorem dX5_cornerOf_4 : decode cX5_cornerOf 4 = .ok (.ifCond .eq 12, 3) := zdX5_cornerOf_0.2.2.1
theorem dX5_cornerOf_7 : decode cX5_cornerOf 7 = .ok (.aload_n 0, 1) := zdX5_cornerOf_0.2.2.2.1
theorem dX5_cornerOf_8 : decode cX5_cornerOf 8 = .ok (.getfield 18, 3) := zdX5_cornerOf_0.2.2.2.2.1
theorem dX5_cornerOf_11 : decode cX5_cornerOf 11 = .ok (.iload_n 1, 1) := zdX5_cornerOf_0.2.2.2.2.2.1
theorem dX5_cornerOf_12 : decode cX5_cornerOf 12 = .ok (.iaload, 1) := zdX5_cornerOf_0.2.2.2.2.2.2.1
theorem dX5_cornerOf_13 : decode cX5_cornerOf 13 = .ok (.goto 4, 3) := zdX5_cornerOf_0.2.2.2.2.2.2.2.1
theorem dX5_cornerOf_16 : decode cX5_cornerOf 16 = .ok (.iconst 0, 1) := zdX5_cornerOf_0.2.2.2.2.2.2.2.2.1
theorem dX5_cornerOf_17 : decode cX5_cornerOf 17 = .ok (.ireturn, 1) := zdX5_cornerOf_0.2.2.2.2.2.2.2.2.2.1
set_option maxRecDepth 20000 in
theorem ggX5_secondOf_X6_isPart : GoodIn wsX5_secondOf wsX6_isPart := goodIn_r _ [4] rfl (by decide +kernel)
set_option maxRecDepth 20000 in
theorem gX5_secondOf_X6_isPart_n83 : GoodIn wsX5_secondOf (wsX6_isPart) := ggX5_secondOf_X6_isPart
set_option maxRecDepth 20000 in
theorem zdX5_secondOf_0 : dAll cX5_secondOf [(0, .iload_n 1, 1), (1, .invokestatic 83, 3), (4, .ifCond .eq 12, 3), (7, .aload_n 0, 1), (8, .getfield 22, 3), (11, .iload_n 1, 1), (12, .iaload, 1), (13, .goto 4, 3), (16, .iconst 0, 1), (17, .ireturn, 1)] := dAll_of (by decide +kernel)
theorem dX5_secondOf_0 : decode cX5_secondOf 0 = .ok (.iload_n 1, 1) := zdX5_secondOf_0.1
theorem dX5_secondOf_1 : decode cX5_secondOf 1 = .ok (.invokestatic 83, 3) := zdX5_secondOf_0.2.1
theorem dX5_secondOf_4 : decode cX5_secondOf 4 = .ok (.ifCond .eq 12, 3) := zdX5_secondOf_0.2.2.1
theorem dX5_secondOf_7 : decode cX5_secondOf 7 = .ok (.aload_n 0, 1) := zdX5_secondOf_0.2.2.2.1
theorem dX5_secondOf_8 : decode cX5_secondOf 8 = .ok (.getfield 22, 3) := zdX5_secondOf_0.2.2.2.2.1
theorem dX5_secondOf_11 : decode cX5_secondOf 11 = .ok (.iload_n 1, 1) := zdX5_secondOf_0.2.2.2.2.2.1
theorem dX5_secondOf_12 : decode cX5_secondOf 12 = .ok (.iaload, 1) := zdX5_secondOf_0.2.2.2.2.2.2.1
theorem dX5_secondOf_13 : decode cX5_secondOf 13 = .ok (.goto 4, 3) := zdX5_secondOf_0.2.2.2.2.2.2.2.1
theorem dX5_secondOf_16 : decode cX5_secondOf 16 = .ok (.iconst 0, 1) := zdX5_secondOf_0.2.2.2.2.2.2.2.2.1
theorem dX5_secondOf_17 : decode cX5_secondOf 17 = .ok (.ireturn, 1) := zdX5_secondOf_0.2.2.2.2.2.2.2.2.2.1
set_option maxRecDepth 20000 in
theorem ggX5_thirdOf_X6_isPart : GoodIn wsX5_thirdOf wsX6_isPart := goodIn_r _ [4] rfl (by decide +kernel)
set_option maxRecDepth 20000 in
theorem gX5_thirdOf_X6_isPart_n83 : GoodIn wsX5_thirdOf (wsX6_isPart) := ggX5_thirdOf_X6_isPart
set_option maxRecDepth 20000 in
theorem zdX5_thirdOf_0 : dAll cX5_thirdOf [(0, .iload_n 1, 1), (1, .invokestatic 83, 3), (4, .ifCond .eq 12, 3), (7, .aload_n 0, 1), (8, .getfield 25, 3), (11, .iload_n 1, 1), (12, .iaload, 1), (13, .goto 4, 3), (16, .iconst 0, 1), (17, .ireturn, 1)] := dAll_of (by decide +kernel)
theorem dX5_thirdOf_0 : decode cX5_thirdOf 0 = .ok (.iload_n 1, 1) := zdX5_thirdOf_0.1
theorem dX5_thirdOf_1 : decode cX5_thirdOf 1 = .ok (.invokestatic 83, 3) := zdX5_thirdOf_0.2.1
theorem dX5_thirdOf_4 : decode cX5_thirdOf 4 = .ok (.ifCond .eq 12, 3) := zdX5_thirdOf_0.2.2.1
theorem dX5_thirdOf_7 : decode cX5_thirdOf 7 = .ok (.aload_n 0, 1) := zdX5_thirdOf_0.2.2.2.1
theorem dX5_thirdOf_8 : decode cX5_thirdOf 8 = .ok (.getfield 25, 3) := zdX5_thirdOf_0.2.2.2.2.1
theorem dX5_thirdOf_11 : decode cX5_thirdOf 11 = .ok (.iload_n 1, 1) := zdX5_thirdOf_0.2.2.2.2.2.1
theorem dX5_thirdOf_12 : decode cX5_thirdOf 12 = .ok (.iaload, 1) := zdX5_thirdOf_0.2.2.2.2.2.2.1
theorem dX5_thirdOf_13 : decode cX5_thirdOf 13 = .ok (.goto 4, 3) := zdX5_thirdOf_0.2.2.2.2.2.2.2.1
theorem dX5_thirdOf_16 : decode cX5_thirdOf 16 = .ok (.iconst 0, 1) := zdX5_thirdOf_0.2.2.2.2.2.2.2.2.1
theorem dX5_thirdOf_17 : decode cX5_thirdOf 17 = .ok (.ireturn, 1) := zdX5_thirdOf_0.2.2.2.2.2.2.2.2.2.1
set_option maxRecDepth 20000 in
theorem ggX5_howManyThere_X5_isThere : GoodIn wsX5_howManyThere wsX5_isThere := goodIn_r _ [5, 6, 7, 8, 9, 10, 11, 12, 13, 14, 15, 16, 17] rfl (by decide +kernel)
set_option maxRecDepth 20000 in
theorem gX5_howManyThere_X5_isThere : GoodIn wsX5_howManyThere (wsV RX5 97 RX5 yX5_isThere wsX5_isThere) := goodIn_app (goodIn_of _ (by decide +kernel)) ggX5_howManyThere_X5_isThere
set_option maxRecDepth 20000 in
theorem zdX5_howManyThere_0 : dAll cX5_howManyThere [(0, .iconst 0, 1), (1, .istore_n 3, 1), (2, .iload_n 1, 1), (3, .istore 4, 2), (5, .iload 4, 2), (7, .iload_n 2, 1), (8, .if_icmp .ge 21, 3), (11, .aload_n 0, 1), (12, .iload 4, 2), (14, .invokevirtual 97, 3), (17, .ifCond .eq 6, 3), (20, .iinc 3 1, 3), (23, .iinc 4 1, 3), (26, .goto (-21), 3), (29, .iload_n 3, 1), (30, .ireturn, 1)] := dAll_of (by decide +kernel)
theorem dX5_howManyThere_0 : decode cX5_howManyThere 0 = .ok (.iconst 0, 1) := zdX5_howManyThere_0.1
theorem dX5_howManyThere_1 : decode cX5_howManyThere 1 = .ok (.istore_n 3, 1) := zdX5_howManyThere_0.2.1
theorem dX5_howManyThere_2 : decode cX5_howManyThere 2 = .ok (.iload_n 1, 1) := zdX5_howManyThere_0.2.2.1
theorem dX5_howManyThere_3 : decode cX5_howManyThere 3 = .ok (.istore 4, 2) := zdX5_howManyThere_0.2.2.2.1
theorem dX5_howManyThere_5 : decode cX5_howManyThere 5 = .ok (.iload 4, 2) := zdX5_howManyThere_0.2.2.2.2.1
theorem dX5_howManyThere_7 : decode cX5_howManyThere 7 = .ok (.iload_n 2, 1) := zdX5_howManyThere_0.2.2.2.2.2.1
theorem dX5_howManyThere_8 : decode cX5_howManyThere 8 = .ok (.if_icmp .ge 21, 3) := zdX5_howManyThere_0.2.2.2.2.2.2.1
theorem dX5_howManyThere_11 : decode cX5_howManyThere 11 = .ok (.aload_n 0, 1) := zdX5_howManyThere_0.2.2.2.2.2.2.2.1
theorem dX5_howManyThere_12 : decode cX5_howManyThere 12 = .ok (.iload 4, 2) := zdX5_howManyThere_0.2.2.2.2.2.2.2.2.1
theorem dX5_howManyThere_14 : decode cX5_howManyThere 14 = .ok (.invokevirtual 97, 3) := zdX5_howManyThere_0.2.2.2.2.2.2.2.2.2.1
theorem dX5_howManyThere_17 : decode cX5_howManyThere 17 = .ok (.ifCond .eq 6, 3) := zdX5_howManyThere_0.2.2.2.2.2.2.2.2.2.2.1
theorem dX5_howManyThere_20 : decode cX5_howManyThere 20 = .ok (.iinc 3 1, 3) := zdX5_howManyThere_0.2.2.2.2.2.2.2.2.2.2.2.1
theorem dX5_howManyThere_23 : decode cX5_howManyThere 23 = .ok (.iinc 4 1, 3) := zdX5_howManyThere_0.2.2.2.2.2.2.2.2.2.2.2.2.1
theorem dX5_howManyThere_26 : decode cX5_howManyThere 26 = .ok (.goto (-21), 3) := zdX5_howManyThere_0.2.2.2.2.2.2.2.2.2.2.2.2.2.1
theorem dX5_howManyThere_29 : decode cX5_howManyThere 29 = .ok (.iload_n 3, 1) := zdX5_howManyThere_0.2.2.2.2.2.2.2.2.2.2.2.2.2.2.1
theorem dX5_howManyThere_30 : decode cX5_howManyThere 30 = .ok (.ireturn, 1) := zdX5_howManyThere_0.2.2.2.2.2.2.2.2.2.2.2.2.2.2.2.1
set_option maxRecDepth 20000 in
theorem ggX6_init_X5_init : GoodIn wsX6_init wsX5_init := goodIn_r _ [23, 24, 2, 3, 25, 26, 27, 28, 29, 30, 31, 134, 135, 136, 137, 138, 139, 140, 141] rfl (by decide +kernel)
set_option maxRecDepth 20000 in
theorem gX6_init_X5_init : GoodIn wsX6_init (wsX5_init) := ggX6_init_X5_init
set_option maxRecDepth 20000 in
theorem ggX6_init_X0_init : GoodIn wsX6_init wsX0_init := goodIn_r _ [34, 35, 2, 3, 36, 37, 38, 39, 40, 41, 42, 43, 28, 44, 45, 155, 156, 147] rfl (by decide +kernel)
set_option maxRecDepth 20000 in
theorem gX6_init_X0_init : GoodIn wsX6_init (wsX0_init) := ggX6_init_X0_init
set_option maxRecDepth 20000 in
theorem ggX6_init_X1_init : GoodIn wsX6_init wsX1_init := goodIn_r _ [48, 49, 2, 3, 50, 51, 52, 53, 54, 55, 56, 57, 28, 58, 157, 158, 148] rfl (by decide +kernel)
set_option maxRecDepth 20000 in
theorem gX6_init_X1_init : GoodIn wsX6_init (wsX1_init) := ggX6_init_X1_init
set_option maxRecDepth 20000 in
theorem ggX6_init_X2_init : GoodIn wsX6_init wsX2_init := goodIn_r _ [61, 62, 2, 3, 63, 51, 52, 64, 28, 65, 66, 55, 56, 57, 58, 157, 158, 149, 150, 151, 152, 153, 154] rfl (by decide +kernel)
set_option maxRecDepth 20000 in
theorem gX6_init_X2_init : GoodIn wsX6_init (wsX2_init) := ggX6_init_X2_init
set_option maxRecDepth 20000 in
theorem ggX6_init_X5_become : GoodIn wsX6_init wsX5_become := goodIn_r _ [70, 71, 72, 73, 74, 75, 6, 76, 77, 26, 27, 29, 30, 31, 78, 79, 80, 81, 82, 83, 84, 85, 86, 87, 88, 89, 90, 91, 92, 93, 94, 95, 96, 97, 98, 99, 100, 101, 102, 103, 104, 105, 106, 107, 108, 109, 110, 111, 112, 113, 114, 115, 116, 117, 118, 119, 120, 121, 122, 123, 124, 125, 126, 127, 128, 129, 130, 131, 132, 133, 134, 135, 136, 137, 138, 139, 140, 141] rfl (by decide +kernel)
set_option maxRecDepth 20000 in
theorem gX6_init_X5_become : GoodIn wsX6_init (wsV RX6 40 RX5 yX5_become wsX5_become) := goodIn_app (goodIn_of _ (by decide +kernel)) ggX6_init_X5_become
set_option maxRecDepth 20000 in
theorem zdX6_init_0 : dAll cX6_init [(0, .aload_n 0, 1), (1, .invokespecial 1, 3), (4, .aload_n 0, 1), (5, .new 7, 3), (8, .dup, 1), (9, .invokespecial 9, 3), (12, .putfield 10, 3), (15, .aload_n 0, 1), (16, .new 7, 3), (19, .dup, 1), (20, .invokespecial 9, 3), (23, .putfield 16, 3), (26, .aload_n 0, 1), (27, .new 19, 3), (30, .dup, 1), (31, .invokespecial 21, 3), (34, .putfield 22, 3), (37, .aload_n 0, 1), (38, .new 26, 3), (41, .dup, 1), (42, .invokespecial 28, 3), (45, .putfield 29, 3), (48, .aload_n 0, 1), (49, .new 33, 3), (52, .dup, 1), (53, .invokespecial 35, 3), (56, .putfield 36, 3), (59, .aload_n 0, 1), (60, .getfield 10, 3), (63, .iconst 0, 1)] := dAll_of (by decide +kernel)
theorem dX6_init_0 : decode cX6_init 0 = .ok (.aload_n 0, 1) := zdX6_init_0.1
theorem dX6_init_1 : decode cX6_init 1 = .ok (.invokespecial 1, 3) := zdX6_init_0.2.1
theorem dX6_init_4 : decode cX6_init 4 = .ok (.aload_n 0, 1) := zdX6_init_0.2.2.1
theorem dX6_init_5 : decode cX6_init 5 = .ok (.new 7, 3) := zdX6_init_0.2.2.2.1
theorem dX6_init_8 : decode cX6_init 8 = .ok (.dup, 1) := zdX6_init_0.2.2.2.2.1
theorem dX6_init_9 : decode cX6_init 9 = .ok (.invokespecial 9, 3) := zdX6_init_0.2.2.2.2.2.1
theorem dX6_init_12 : decode cX6_init 12 = .ok (.putfield 10, 3) := zdX6_init_0.2.2.2.2.2.2.1
theorem dX6_init_15 : decode cX6_init 15 = .ok (.aload_n 0, 1) := zdX6_init_0.2.2.2.2.2.2.2.1
theorem dX6_init_16 : decode cX6_init 16 = .ok (.new 7, 3) := zdX6_init_0.2.2.2.2.2.2.2.2.1
theorem dX6_init_19 : decode cX6_init 19 = .ok (.dup, 1) := zdX6_init_0.2.2.2.2.2.2.2.2.2.1
theorem dX6_init_20 : decode cX6_init 20 = .ok (.invokespecial 9, 3) := zdX6_init_0.2.2.2.2.2.2.2.2.2.2.1
theorem dX6_init_23 : decode cX6_init 23 = .ok (.putfield 16, 3) := zdX6_init_0.2.2.2.2.2.2.2.2.2.2.2.1
theorem dX6_init_26 : decode cX6_init 26 = .ok (.aload_n 0, 1) := zdX6_init_0.2.2.2.2.2.2.2.2.2.2.2.2.1
theorem dX6_init_27 : decode cX6_init 27 = .ok (.new 19, 3) := zdX6_init_0.2.2.2.2.2.2.2.2.2.2.2.2.2.1
theorem dX6_init_30 : decode cX6_init 30 = .ok (.dup, 1) := zdX6_init_0.2.2.2.2.2.2.2.2.2.2.2.2.2.2.1
theorem dX6_init_31 : decode cX6_init 31 = .ok (.invokespecial 21, 3) := zdX6_init_0.2.2.2.2.2.2.2.2.2.2.2.2.2.2.2.1
theorem dX6_init_34 : decode cX6_init 34 = .ok (.putfield 22, 3) := zdX6_init_0.2.2.2.2.2.2.2.2.2.2.2.2.2.2.2.2.1
theorem dX6_init_37 : decode cX6_init 37 = .ok (.aload_n 0, 1) := zdX6_init_0.2.2.2.2.2.2.2.2.2.2.2.2.2.2.2.2.2.1
theorem dX6_init_38 : decode cX6_init 38 = .ok (.new 26, 3) := zdX6_init_0.2.2.2.2.2.2.2.2.2.2.2.2.2.2.2.2.2.2.1
theorem dX6_init_41 : decode cX6_init 41 = .ok (.dup, 1) := zdX6_init_0.2.2.2.2.2.2.2.2.2.2.2.2.2.2.2.2.2.2.2.1
theorem dX6_init_42 : decode cX6_init 42 = .ok (.invokespecial 28, 3) := zdX6_init_0.2.2.2.2.2.2.2.2.2.2.2.2.2.2.2.2.2.2.2.2.1
theorem dX6_init_45 : decode cX6_init 45 = .ok (.putfield 29, 3) := zdX6_init_0.2.2.2.2.2.2.2.2.2.2.2.2.2.2.2.2.2.2.2.2.2.1
theorem dX6_init_48 : decode cX6_init 48 = .ok (.aload_n 0, 1) := zdX6_init_0.2.2.2.2.2.2.2.2.2.2.2.2.2.2.2.2.2.2.2.2.2.2.1
theorem dX6_init_49 : decode cX6_init 49 = .ok (.new 33, 3) := zdX6_init_0.2.2.2.2.2.2.2.2.2.2.2.2.2.2.2.2.2.2.2.2.2.2.2.1
theorem dX6_init_52 : decode cX6_init 52 = .ok (.dup, 1) := zdX6_init_0.2.2.2.2.2.2.2.2.2.2.2.2.2.2.2.2.2.2.2.2.2.2.2.2.1
theorem dX6_init_53 : decode cX6_init 53 = .ok (.invokespecial 35, 3) := zdX6_init_0.2.2.2.2.2.2.2.2.2.2.2.2.2.2.2.2.2.2.2.2.2.2.2.2.2.1
theorem dX6_init_56 : decode cX6_init 56 = .ok (.putfield 36, 3) := zdX6_init_0.2.2.2.2.2.2.2.2.2.2.2.2.2.2.2.2.2.2.2.2.2.2.2.2.2.2.1
theorem dX6_init_59 : decode cX6_init 59 = .ok (.aload_n 0, 1) := zdX6_init_0.2.2.2.2.2.2.2.2.2.2.2.2.2.2.2.2.2.2.2.2.2.2.2.2.2.2.2.1
theorem dX6_init_60 : decode cX6_init 60 = .ok (.getfield 10, 3) := zdX6_init_0.2.2.2.2.2.2.2.2.2.2.2.2.2.2.2.2.2.2.2.2.2.2.2.2.2.2.2.2.1
theorem dX6_init_63 : decode cX6_init 63 = .ok (.iconst 0, 1) := zdX6_init_0.2.2.2.2.2.2.2.2.2.2.2.2.2.2.2.2.2.2.2.2.2.2.2.2.2.2.2.2.2.1
set_option maxRecDepth 20000 in
theorem zdX6_init_64 : dAll cX6_init [(64, .iconst 0, 1), (65, .invokevirtual 40, 3), (68, .return_, 1)] := dAll_of (by decide +kernel)
theorem dX6_init_64 : decode cX6_init 64 = .ok (.iconst 0, 1) := zdX6_init_64.1
theorem dX6_init_65 : decode cX6_init 65 = .ok (.invokevirtual 40, 3) := zdX6_init_64.2.1
theorem dX6_init_68 : decode cX6_init 68 = .ok (.return_, 1) := zdX6_init_64.2.2.1
set_option maxRecDepth 20000 in
theorem ggX6_draw_X6_isSize : GoodIn wsX6_draw wsX6_isSize := goodIn_r _ [7] rfl (by decide +kernel)
set_option maxRecDepth 20000 in
theorem gX6_draw_X6_isSize : GoodIn wsX6_draw (va_wsS RX6 44 yX6_isSize wsX6_isSize) := goodIn_app (goodIn_of _ (by decide +kernel)) ggX6_draw_X6_isSize
set_option maxRecDepth 20000 in
theorem ggX6_draw_X5_become : GoodIn wsX6_draw wsX5_become := goodIn_r _ [12, 13, 14, 15, 16, 17, 11, 18, 19, 20, 21, 22, 23, 24, 25, 26, 27, 28, 29, 30, 31, 32, 33, 34, 35, 36, 37, 38, 39, 40, 41, 42, 43, 44, 45, 46, 47, 48, 49, 50, 51, 52, 53, 54, 6, 55, 56, 57, 58, 59, 60, 61, 62, 63, 64, 65, 66, 67, 68, 69, 70, 71, 72, 73, 74, 75, 76, 77, 78, 79, 89, 90, 91, 92, 93, 94, 95, 96] rfl (by decide +kernel)
set_option maxRecDepth 20000 in
theorem gX6_draw_X5_become : GoodIn wsX6_draw (wsV RX6 40 RX5 yX5_become wsX5_become) := goodIn_app (goodIn_of _ (by decide +kernel)) ggX6_draw_X5_become
set_option maxRecDepth 20000 in
theorem ggX6_draw_X5_partsHad : GoodIn wsX6_draw wsX5_partsHad := goodIn_r _ [83, 19, 89, 90, 91, 92, 93, 94, 95, 96] rfl (by decide +kernel)
set_option maxRecDepth 20000 in
theorem gX6_draw_X5_partsHad : GoodIn wsX6_draw (wsV RX6 55 RX5 yX5_partsHad wsX5_partsHad) := goodIn_app (goodIn_of _ (by decide +kernel)) ggX6_draw_X5_partsHad
set_option maxRecDepth 20000 in
theorem zdX6_draw_0 : dAll cX6_draw [(0, .iload_n 2, 1), (1, .invokestatic 44, 3), (4, .ifCond .ne 13, 3), (7, .new 48, 3), (10, .dup, 1), (11, .ldc 50, 2), (13, .invokespecial 52, 3), (16, .athrow, 1), (17, .aload_n 0, 1), (18, .getfield 10, 3), (21, .iload_n 1, 1), (22, .iload_n 2, 1), (23, .invokevirtual 40, 3), (26, .aload_n 0, 1), (27, .getfield 10, 3), (30, .invokevirtual 55, 3), (33, .ireturn, 1)] := dAll_of (by decide +kernel)
theorem dX6_draw_0 : decode cX6_draw 0 = .ok (.iload_n 2, 1) := zdX6_draw_0.1
theorem dX6_draw_1 : decode cX6_draw 1 = .ok (.invokestatic 44, 3) := zdX6_draw_0.2.1
theorem dX6_draw_4 : decode cX6_draw 4 = .ok (.ifCond .ne 13, 3) := zdX6_draw_0.2.2.1
theorem dX6_draw_7 : decode cX6_draw 7 = .ok (.new 48, 3) := zdX6_draw_0.2.2.2.1
theorem dX6_draw_10 : decode cX6_draw 10 = .ok (.dup, 1) := zdX6_draw_0.2.2.2.2.1
theorem dX6_draw_11 : decode cX6_draw 11 = .ok (.ldc 50, 2) := zdX6_draw_0.2.2.2.2.2.1
theorem dX6_draw_13 : decode cX6_draw 13 = .ok (.invokespecial 52, 3) := zdX6_draw_0.2.2.2.2.2.2.1
theorem dX6_draw_16 : decode cX6_draw 16 = .ok (.athrow, 1) := zdX6_draw_0.2.2.2.2.2.2.2.1
theorem dX6_draw_17 : decode cX6_draw 17 = .ok (.aload_n 0, 1) := zdX6_draw_0.2.2.2.2.2.2.2.2.1
theorem dX6_draw_18 : decode cX6_draw 18 = .ok (.getfield 10, 3) := zdX6_draw_0.2.2.2.2.2.2.2.2.2.1
theorem dX6_draw_21 : decode cX6_draw 21 = .ok (.iload_n 1, 1) := zdX6_draw_0.2.2.2.2.2.2.2.2.2.2.1
theorem dX6_draw_22 : decode cX6_draw 22 = .ok (.iload_n 2, 1) := zdX6_draw_0.2.2.2.2.2.2.2.2.2.2.2.1
theorem dX6_draw_23 : decode cX6_draw 23 = .ok (.invokevirtual 40, 3) := zdX6_draw_0.2.2.2.2.2.2.2.2.2.2.2.2.1
theorem dX6_draw_26 : decode cX6_draw 26 = .ok (.aload_n 0, 1) := zdX6_draw_0.2.2.2.2.2.2.2.2.2.2.2.2.2.1
theorem dX6_draw_27 : decode cX6_draw 27 = .ok (.getfield 10, 3) := zdX6_draw_0.2.2.2.2.2.2.2.2.2.2.2.2.2.2.1
theorem dX6_draw_30 : decode cX6_draw 30 = .ok (.invokevirtual 55, 3) := zdX6_draw_0.2.2.2.2.2.2.2.2.2.2.2.2.2.2.2.1
theorem dX6_draw_33 : decode cX6_draw 33 = .ok (.ireturn, 1) := zdX6_draw_0.2.2.2.2.2.2.2.2.2.2.2.2.2.2.2.2.1
set_option maxRecDepth 20000 in
theorem ggX6_part_X6_isPart : GoodIn wsX6_part wsX6_isPart := goodIn_r _ [7] rfl (by decide +kernel)
set_option maxRecDepth 20000 in
theorem gX6_part_X6_isPart : GoodIn wsX6_part (va_wsS RX6 59 yX6_isPart wsX6_isPart) := goodIn_app (goodIn_of _ (by decide +kernel)) ggX6_part_X6_isPart
set_option maxRecDepth 20000 in
theorem ggX6_part_X5_isThere : GoodIn wsX6_part wsX5_isThere := goodIn_r _ [12, 13, 5, 6, 7, 42, 43, 44, 45, 46, 47, 48, 49] rfl (by decide +kernel)
set_option maxRecDepth 20000 in
theorem gX6_part_X5_isThere : GoodIn wsX6_part (wsV RX6 67 RX5 yX5_isThere wsX5_isThere) := goodIn_app (goodIn_of _ (by decide +kernel)) ggX6_part_X5_isThere
set_option maxRecDepth 20000 in
theorem ggX6_part_X5_has : GoodIn wsX6_part wsX5_has := goodIn_r _ [17, 18, 5, 6, 7, 42, 43, 44, 45, 46, 47, 48, 49] rfl (by decide +kernel)
set_option maxRecDepth 20000 in
theorem gX6_part_X5_has : GoodIn wsX6_part (wsV RX6 70 RX5 yX5_has wsX5_has) := goodIn_app (goodIn_of _ (by decide +kernel)) ggX6_part_X5_has
set_option maxRecDepth 20000 in
theorem ggX6_part_X6_kindOf : GoodIn wsX6_part wsX6_kindOf := goodIn_r _ [21] rfl (by decide +kernel)
set_option maxRecDepth 20000 in
theorem gX6_part_X6_kindOf : GoodIn wsX6_part (va_wsS RX6 73 yX6_kindOf wsX6_kindOf) := goodIn_app (goodIn_of _ (by decide +kernel)) ggX6_part_X6_kindOf
set_option maxRecDepth 20000 in
theorem ggX6_part_X5_cornerOf : GoodIn wsX6_part wsX5_cornerOf := goodIn_r _ [25, 26, 5, 6, 7, 42, 43, 44, 45, 46, 47, 48, 49] rfl (by decide +kernel)
set_option maxRecDepth 20000 in
theorem gX6_part_X5_cornerOf : GoodIn wsX6_part (wsV RX6 77 RX5 yX5_cornerOf wsX5_cornerOf) := goodIn_app (goodIn_of _ (by decide +kernel)) ggX6_part_X5_cornerOf
set_option maxRecDepth 20000 in
theorem ggX6_part_X5_secondOf : GoodIn wsX6_part wsX5_secondOf := goodIn_r _ [30, 31, 5, 6, 7, 42, 43, 44, 45, 46, 47, 48, 49] rfl (by decide +kernel)
set_option maxRecDepth 20000 in
theorem gX6_part_X5_secondOf : GoodIn wsX6_part (wsV RX6 80 RX5 yX5_secondOf wsX5_secondOf) := goodIn_app (goodIn_of _ (by decide +kernel)) ggX6_part_X5_secondOf
set_option maxRecDepth 20000 in
theorem ggX6_part_X5_thirdOf : GoodIn wsX6_part wsX5_thirdOf := goodIn_r _ [35, 36, 5, 6, 7, 42, 43, 44, 45, 46, 47, 48, 49] rfl (by decide +kernel)
set_option maxRecDepth 20000 in
theorem gX6_part_X5_thirdOf : GoodIn wsX6_part (wsV RX6 83 RX5 yX5_thirdOf wsX5_thirdOf) := goodIn_app (goodIn_of _ (by decide +kernel)) ggX6_part_X5_thirdOf
set_option maxRecDepth 20000 in
theorem zdX6_part_0 : dAll cX6_part [(0, .iload_n 1, 1), (1, .invokestatic 59, 3), (4, .ifCond .ne 13, 3), (7, .new 62, 3), (10, .dup, 1), (11, .ldc 64, 2), (13, .invokespecial 66, 3), (16, .athrow, 1), (17, .iload_n 2, 1), (18, .tableswitch 98 0 4 #[34, 51, 71, 80, 89], 34), (52, .aload_n 0, 1), (53, .getfield 10, 3), (56, .iload_n 1, 1), (57, .invokevirtual 67, 3), (60, .ifCond .eq 7, 3), (63, .iconst 1, 1), (64, .goto 4, 3), (67, .iconst 0, 1), (68, .ireturn, 1), (69, .aload_n 0, 1), (70, .getfield 10, 3), (73, .iload_n 1, 1), (74, .invokevirtual 70, 3), (77, .ifCond .eq 10, 3), (80, .iload_n 1, 1), (81, .invokestatic 73, 3), (84, .goto 4, 3), (87, .iconst (-1), 1), (88, .ireturn, 1), (89, .aload_n 0, 1)] := dAll_of (by decide +kernel)
theorem dX6_part_0 : decode cX6_part 0 = .ok (.iload_n 1, 1) := zdX6_part_0.1
theorem dX6_part_1 : decode cX6_part 1 = .ok (.invokestatic 59, 3) := zdX6_part_0.2.1
theorem dX6_part_4 : decode cX6_part 4 = .ok (.ifCond .ne 13, 3) := zdX6_part_0.2.2.1
theorem dX6_part_7 : decode cX6_part 7 = .ok (.new 62, 3) := zdX6_part_0.2.2.2.1
theorem dX6_part_10 : decode cX6_part 10 = .ok (.dup, 1) := zdX6_part_0.2.2.2.2.1
theorem dX6_part_11 : decode cX6_part 11 = .ok (.ldc 64, 2) := zdX6_part_0.2.2.2.2.2.1
theorem dX6_part_13 : decode cX6_part 13 = .ok (.invokespecial 66, 3) := zdX6_part_0.2.2.2.2.2.2.1
theorem dX6_part_16 : decode cX6_part 16 = .ok (.athrow, 1) := zdX6_part_0.2.2.2.2.2.2.2.1
theorem dX6_part_17 : decode cX6_part 17 = .ok (.iload_n 2, 1) := zdX6_part_0.2.2.2.2.2.2.2.2.1
theorem dX6_part_18 : decode cX6_part 18 = .ok (.tableswitch 98 0 4 #[34, 51, 71, 80, 89], 34) := zdX6_part_0.2.2.2.2.2.2.2.2.2.1
theorem dX6_part_52 : decode cX6_part 52 = .ok (.aload_n 0, 1) := zdX6_part_0.2.2.2.2.2.2.2.2.2.2.1
theorem dX6_part_53 : decode cX6_part 53 = .ok (.getfield 10, 3) := zdX6_part_0.2.2.2.2.2.2.2.2.2.2.2.1
theorem dX6_part_56 : decode cX6_part 56 = .ok (.iload_n 1, 1) := zdX6_part_0.2.2.2.2.2.2.2.2.2.2.2.2.1
theorem dX6_part_57 : decode cX6_part 57 = .ok (.invokevirtual 67, 3) := zdX6_part_0.2.2.2.2.2.2.2.2.2.2.2.2.2.1
theorem dX6_part_60 : decode cX6_part 60 = .ok (.ifCond .eq 7, 3) := zdX6_part_0.2.2.2.2.2.2.2.2.2.2.2.2.2.2.1
theorem dX6_part_63 : decode cX6_part 63 = .ok (.iconst 1, 1) := zdX6_part_0.2.2.2.2.2.2.2.2.2.2.2.2.2.2.2.1
theorem dX6_part_64 : decode cX6_part 64 = .ok (.goto 4, 3) := zdX6_part_0.2.2.2.2.2.2.2.2.2.2.2.2.2.2.2.2.1
theorem dX6_part_67 : decode cX6_part 67 = .ok (.iconst 0, 1) := zdX6_part_0.2.2.2.2.2.2.2.2.2.2.2.2.2.2.2.2.2.1
theorem dX6_part_68 : decode cX6_part 68 = .ok (.ireturn, 1) := zdX6_part_0.2.2.2.2.2.2.2.2.2.2.2.2.2.2.2.2.2.2.1
theorem dX6_part_69 : decode cX6_part 69 = .ok (.aload_n 0, 1) := zdX6_part_0.2.2.2.2.2.2.2.2.2.2.2.2.2.2.2.2.2.2.2.1
theorem dX6_part_70 : decode cX6_part 70 = .ok (.getfield 10, 3) := zdX6_part_0.2.2.2.2.2.2.2.2.2.2.2.2.2.2.2.2.2.2.2.2.1
theorem dX6_part_73 : decode cX6_part 73 = .ok (.iload_n 1, 1) := zdX6_part_0.2.2.2.2.2.2.2.2.2.2.2.2.2.2.2.2.2.2.2.2.2.1
theorem dX6_part_74 : decode cX6_part 74 = .ok (.invokevirtual 70, 3) := zdX6_part_0.2.2.2.2.2.2.2.2.2.2.2.2.2.2.2.2.2.2.2.2.2.2.1
theorem dX6_part_77 : decode cX6_part 77 = .ok (.ifCond .eq 10, 3) := zdX6_part_0.2.2.2.2.2.2.2.2.2.2.2.2.2.2.2.2.2.2.2.2.2.2.2.1
theorem dX6_part_80 : decode cX6_part 80 = .ok (.iload_n 1, 1) := zdX6_part_0.2.2.2.2.2.2.2.2.2.2.2.2.2.2.2.2.2.2.2.2.2.2.2.2.1
theorem dX6_part_81 : decode cX6_part 81 = .ok (.invokestatic 73, 3) := zdX6_part_0.2.2.2.2.2.2.2.2.2.2.2.2.2.2.2.2.2.2.2.2.2.2.2.2.2.1
theorem dX6_part_84 : decode cX6_part 84 = .ok (.goto 4, 3) := zdX6_part_0.2.2.2.2.2.2.2.2.2.2.2.2.2.2.2.2.2.2.2.2.2.2.2.2.2.2.1
theorem dX6_part_87 : decode cX6_part 87 = .ok (.iconst (-1), 1) := zdX6_part_0.2.2.2.2.2.2.2.2.2.2.2.2.2.2.2.2.2.2.2.2.2.2.2.2.2.2.2.1
theorem dX6_part_88 : decode cX6_part 88 = .ok (.ireturn, 1) := zdX6_part_0.2.2.2.2.2.2.2.2.2.2.2.2.2.2.2.2.2.2.2.2.2.2.2.2.2.2.2.2.1
theorem dX6_part_89 : decode cX6_part 89 = .ok (.aload_n 0, 1) := zdX6_part_0.2.2.2.2.2.2.2.2.2.2.2.2.2.2.2.2.2.2.2.2.2.2.2.2.2.2.2.2.2.1
set_option maxRecDepth 20000 in
theorem zdX6_part_90 : dAll cX6_part [(90, .getfield 10, 3), (93, .iload_n 1, 1), (94, .invokevirtual 77, 3), (97, .ireturn, 1), (98, .aload_n 0, 1), (99, .getfield 10, 3), (102, .iload_n 1, 1), (103, .invokevirtual 80, 3), (106, .ireturn, 1), (107, .aload_n 0, 1), (108, .getfield 10, 3), (111, .iload_n 1, 1), (112, .invokevirtual 83, 3), (115, .ireturn, 1), (116, .new 62, 3), (119, .dup, 1), (120, .ldc 86, 2), (122, .invokespecial 66, 3), (125, .athrow, 1)] := dAll_of (by decide +kernel)
theorem dX6_part_90 : decode cX6_part 90 = .ok (.getfield 10, 3) := zdX6_part_90.1
theorem dX6_part_93 : decode cX6_part 93 = .ok (.iload_n 1, 1) := zdX6_part_90.2.1
theorem dX6_part_94 : decode cX6_part 94 = .ok (.invokevirtual 77, 3) := zdX6_part_90.2.2.1
theorem dX6_part_97 : decode cX6_part 97 = .ok (.ireturn, 1) := zdX6_part_90.2.2.2.1
theorem dX6_part_98 : decode cX6_part 98 = .ok (.aload_n 0, 1) := zdX6_part_90.2.2.2.2.1
theorem dX6_part_99 : decode cX6_part 99 = .ok (.getfield 10, 3) := zdX6_part_90.2.2.2.2.2.1
theorem dX6_part_102 : decode cX6_part 102 = .ok (.iload_n 1, 1) := zdX6_part_90.2.2.2.2.2.2.1
theorem dX6_part_103 : decode cX6_part 103 = .ok (.invokevirtual 80, 3) := zdX6_part_90.2.2.2.2.2.2.2.1
theorem dX6_part_106 : decode cX6_part 106 = .ok (.ireturn, 1) := zdX6_part_90.2.2.2.2.2.2.2.2.1
theorem dX6_part_107 : decode cX6_part 107 = .ok (.aload_n 0, 1) := zdX6_part_90.2.2.2.2.2.2.2.2.2.1
theorem dX6_part_108 : decode cX6_part 108 = .ok (.getfield 10, 3) := zdX6_part_90.2.2.2.2.2.2.2.2.2.2.1
theorem dX6_part_111 : decode cX6_part 111 = .ok (.iload_n 1, 1) := zdX6_part_90.2.2.2.2.2.2.2.2.2.2.2.1
theorem dX6_part_112 : decode cX6_part 112 = .ok (.invokevirtual 83, 3) := zdX6_part_90.2.2.2.2.2.2.2.2.2.2.2.2.1
theorem dX6_part_115 : decode cX6_part 115 = .ok (.ireturn, 1) := zdX6_part_90.2.2.2.2.2.2.2.2.2.2.2.2.2.1
theorem dX6_part_116 : decode cX6_part 116 = .ok (.new 62, 3) := zdX6_part_90.2.2.2.2.2.2.2.2.2.2.2.2.2.2.1
theorem dX6_part_119 : decode cX6_part 119 = .ok (.dup, 1) := zdX6_part_90.2.2.2.2.2.2.2.2.2.2.2.2.2.2.2.1
theorem dX6_part_120 : decode cX6_part 120 = .ok (.ldc 86, 2) := zdX6_part_90.2.2.2.2.2.2.2.2.2.2.2.2.2.2.2.2.1
theorem dX6_part_122 : decode cX6_part 122 = .ok (.invokespecial 66, 3) := zdX6_part_90.2.2.2.2.2.2.2.2.2.2.2.2.2.2.2.2.2.1
theorem dX6_part_125 : decode cX6_part 125 = .ok (.athrow, 1) := zdX6_part_90.2.2.2.2.2.2.2.2.2.2.2.2.2.2.2.2.2.2.1
set_option maxRecDepth 20000 in
theorem ggX6_leave_X5_has : GoodIn wsX6_leave wsX5_has := goodIn_r _ [10, 11, 12, 13, 14, 30, 31, 32, 33, 34, 35, 36, 37] rfl (by decide +kernel)
set_option maxRecDepth 20000 in
theorem gX6_leave_X5_has : GoodIn wsX6_leave (wsV RX6 70 RX5 yX5_has wsX5_has) := goodIn_app (goodIn_of _ (by decide +kernel)) ggX6_leave_X5_has
set_option maxRecDepth 20000 in
theorem ggX6_leave_X5_isThere : GoodIn wsX6_leave wsX5_isThere := goodIn_r _ [18, 19, 12, 13, 14, 30, 31, 32, 33, 34, 35, 36, 37] rfl (by decide +kernel)
set_option maxRecDepth 20000 in
theorem gX6_leave_X5_isThere : GoodIn wsX6_leave (wsV RX6 67 RX5 yX5_isThere wsX5_isThere) := goodIn_app (goodIn_of _ (by decide +kernel)) ggX6_leave_X5_isThere
set_option maxRecDepth 20000 in
theorem ggX6_leave_X5_setThere : GoodIn wsX6_leave wsX5_setThere := goodIn_r _ [23, 19, 24, 7, 8, 9, 10, 11, 12, 13, 14, 30, 31, 32, 33, 34, 35, 36, 37] rfl (by decide +kernel)
set_option maxRecDepth 20000 in
theorem gX6_leave_X5_setThere : GoodIn wsX6_leave (wsV RX6 95 RX5 yX5_setThere wsX5_setThere) := goodIn_app (goodIn_of _ (by decide +kernel)) ggX6_leave_X5_setThere
set_option maxRecDepth 20000 in
theorem zdX6_leave_0 : dAll cX6_leave [(0, .aload_n 0, 1), (1, .getfield 10, 3), (4, .iload_n 1, 1), (5, .invokevirtual 70, 3), (8, .ifCond .ne 13, 3), (11, .new 62, 3), (14, .dup, 1), (15, .ldc 88, 2), (17, .invokespecial 66, 3), (20, .athrow, 1), (21, .aload_n 0, 1), (22, .getfield 10, 3), (25, .iload_n 1, 1), (26, .invokevirtual 67, 3), (29, .iload_n 2, 1), (30, .if_icmp .eq 13, 3), (33, .new 90, 3), (36, .dup, 1), (37, .ldc 92, 2), (39, .invokespecial 94, 3), (42, .athrow, 1), (43, .aload_n 0, 1), (44, .getfield 10, 3), (47, .iload_n 1, 1), (48, .iload_n 2, 1), (49, .ifCond .ne 7, 3), (52, .iconst 1, 1), (53, .goto 4, 3), (56, .iconst 0, 1), (57, .invokevirtual 95, 3)] := dAll_of (by decide +kernel)
theorem dX6_leave_0 : decode cX6_leave 0 = .ok (.aload_n 0, 1) := zdX6_leave_0.1
theorem dX6_leave_1 : decode cX6_leave 1 = .ok (.getfield 10, 3) := zdX6_leave_0.2.1
theorem dX6_leave_4 : decode cX6_leave 4 = .ok (.iload_n 1, 1) := zdX6_leave_0.2.2.1
theorem dX6_leave_5 : decode cX6_leave 5 = .ok (.invokevirtual 70, 3) := zdX6_leave_0.2.2.2.1
theorem dX6_leave_8 : decode cX6_leave 8 = .ok (.ifCond .ne 13, 3) := zdX6_leave_0.2.2.2.2.1
theorem dX6_leave_11 : decode cX6_leave 11 = .ok (.new 62, 3) := zdX6_leave_0.2.2.2.2.2.1
theorem dX6_leave_14 : decode cX6_leave 14 = .ok (.dup, 1) := zdX6_leave_0.2.2.2.2.2.2.1
theorem dX6_leave_15 : decode cX6_leave 15 = .ok (.ldc 88, 2) := zdX6_leave_0.2.2.2.2.2.2.2.1
theorem dX6_leave_17 : decode cX6_leave 17 = .ok (.invokespecial 66, 3) := zdX6_leave_0.2.2.2.2.2.2.2.2.1
theorem dX6_leave_20 : decode cX6_leave 20 = .ok (.athrow, 1) := zdX6_leave_0.2.2.2.2.2.2.2.2.2.1
theorem dX6_leave_21 : decode cX6_leave 21 = .ok (.aload_n 0, 1) := zdX6_leave_0.2.2.2.2.2.2.2.2.2.2.1
theorem dX6_leave_22 : decode cX6_leave 22 = .ok (.getfield 10, 3) := zdX6_leave_0.2.2.2.2.2.2.2.2.2.2.2.1
theorem dX6_leave_25 : decode cX6_leave 25 = .ok (.iload_n 1, 1) := zdX6_leave_0.2.2.2.2.2.2.2.2.2.2.2.2.1
theorem dX6_leave_26 : decode cX6_leave 26 = .ok (.invokevirtual 67, 3) := zdX6_leave_0.2.2.2.2.2.2.2.2.2.2.2.2.2.1
theorem dX6_leave_29 : decode cX6_leave 29 = .ok (.iload_n 2, 1) := zdX6_leave_0.2.2.2.2.2.2.2.2.2.2.2.2.2.2.1
theorem dX6_leave_30 : decode cX6_leave 30 = .ok (.if_icmp .eq 13, 3) := zdX6_leave_0.2.2.2.2.2.2.2.2.2.2.2.2.2.2.2.1
theorem dX6_leave_33 : decode cX6_leave 33 = .ok (.new 90, 3) := zdX6_leave_0.2.2.2.2.2.2.2.2.2.2.2.2.2.2.2.2.1
theorem dX6_leave_36 : decode cX6_leave 36 = .ok (.dup, 1) := zdX6_leave_0.2.2.2.2.2.2.2.2.2.2.2.2.2.2.2.2.2.1
theorem dX6_leave_37 : decode cX6_leave 37 = .ok (.ldc 92, 2) := zdX6_leave_0.2.2.2.2.2.2.2.2.2.2.2.2.2.2.2.2.2.2.1
theorem dX6_leave_39 : decode cX6_leave 39 = .ok (.invokespecial 94, 3) := zdX6_leave_0.2.2.2.2.2.2.2.2.2.2.2.2.2.2.2.2.2.2.2.1
theorem dX6_leave_42 : decode cX6_leave 42 = .ok (.athrow, 1) := zdX6_leave_0.2.2.2.2.2.2.2.2.2.2.2.2.2.2.2.2.2.2.2.2.1
theorem dX6_leave_43 : decode cX6_leave 43 = .ok (.aload_n 0, 1) := zdX6_leave_0.2.2.2.2.2.2.2.2.2.2.2.2.2.2.2.2.2.2.2.2.2.1
theorem dX6_leave_44 : decode cX6_leave 44 = .ok (.getfield 10, 3) := zdX6_leave_0.2.2.2.2.2.2.2.2.2.2.2.2.2.2.2.2.2.2.2.2.2.2.1
theorem dX6_leave_47 : decode cX6_leave 47 = .ok (.iload_n 1, 1) := zdX6_leave_0.2.2.2.2.2.2.2.2.2.2.2.2.2.2.2.2.2.2.2.2.2.2.2.1
theorem dX6_leave_48 : decode cX6_leave 48 = .ok (.iload_n 2, 1) := zdX6_leave_0.2.2.2.2.2.2.2.2.2.2.2.2.2.2.2.2.2.2.2.2.2.2.2.2.1
theorem dX6_leave_49 : decode cX6_leave 49 = .ok (.ifCond .ne 7, 3) := zdX6_leave_0.2.2.2.2.2.2.2.2.2.2.2.2.2.2.2.2.2.2.2.2.2.2.2.2.2.1
theorem dX6_leave_52 : decode cX6_leave 52 = .ok (.iconst 1, 1) := zdX6_leave_0.2.2.2.2.2.2.2.2.2.2.2.2.2.2.2.2.2.2.2.2.2.2.2.2.2.2.1
theorem dX6_leave_53 : decode cX6_leave 53 = .ok (.goto 4, 3) := zdX6_leave_0.2.2.2.2.2.2.2.2.2.2.2.2.2.2.2.2.2.2.2.2.2.2.2.2.2.2.2.1
theorem dX6_leave_56 : decode cX6_leave 56 = .ok (.iconst 0, 1) := zdX6_leave_0.2.2.2.2.2.2.2.2.2.2.2.2.2.2.2.2.2.2.2.2.2.2.2.2.2.2.2.2.1
theorem dX6_leave_57 : decode cX6_leave 57 = .ok (.invokevirtual 95, 3) := zdX6_leave_0.2.2.2.2.2.2.2.2.2.2.2.2.2.2.2.2.2.2.2.2.2.2.2.2.2.2.2.2.2.1
theorem dX6_leave_60 : decode cX6_leave 60 = .ok (.return_, 1) := by decide +kernel
set_option maxRecDepth 20000 in
theorem ggX6_holds_X6_isVerdict : GoodIn wsX6_holds wsX6_isVerdict := goodIn_r _ [8] rfl (by decide +kernel)
set_option maxRecDepth 20000 in
theorem gX6_holds_X6_isVerdict : GoodIn wsX6_holds (va_wsS RX6 99 yX6_isVerdict wsX6_isVerdict) := goodIn_app (goodIn_of _ (by decide +kernel)) ggX6_holds_X6_isVerdict
set_option maxRecDepth 20000 in
theorem ggX6_holds_X0_says : GoodIn wsX6_holds wsX0_says := goodIn_r _ [13, 14, 15, 16, 12, 17, 18, 19, 20, 21, 22, 23, 24, 25, 26, 27, 28, 29, 30, 31, 7, 32, 33, 34, 35, 36, 37, 38, 39, 40, 41, 42, 43, 44, 45, 46, 47, 48, 49, 50, 51, 52, 53, 54, 55, 56, 57, 58, 59, 60, 61, 62, 63, 64, 65, 66, 67, 68, 69, 70, 71, 72, 73, 74, 75, 76, 77, 78, 79, 80, 81, 82, 83, 84, 85, 86, 87, 88, 89, 90, 91, 92, 93, 94, 95, 96, 102, 103, 104, 105, 106, 107, 108, 109, 110, 111, 112] rfl (by decide +kernel)
set_option maxRecDepth 20000 in
theorem gX6_holds_X0_says : GoodIn wsX6_holds (wsV RX6 104 RX0 yX0_says wsX0_says) := goodIn_app (goodIn_of _ (by decide +kernel)) ggX6_holds_X0_says
set_option maxRecDepth 20000 in
theorem zdX6_holds_0 : dAll cX6_holds [(0, .iload_n 1, 1), (1, .invokestatic 99, 3), (4, .ifCond .ne 13, 3), (7, .new 62, 3), (10, .dup, 1), (11, .ldc 102, 2), (13, .invokespecial 66, 3), (16, .athrow, 1), (17, .aload_n 0, 1), (18, .getfield 22, 3), (21, .aload_n 0, 1), (22, .getfield 10, 3), (25, .iload_n 1, 1), (26, .invokevirtual 104, 3), (29, .ireturn, 1)] := dAll_of (by decide +kernel)
theorem dX6_holds_0 : decode cX6_holds 0 = .ok (.iload_n 1, 1) := zdX6_holds_0.1
theorem dX6_holds_1 : decode cX6_holds 1 = .ok (.invokestatic 99, 3) := zdX6_holds_0.2.1
theorem dX6_holds_4 : decode cX6_holds 4 = .ok (.ifCond .ne 13, 3) := zdX6_holds_0.2.2.1
theorem dX6_holds_7 : decode cX6_holds 7 = .ok (.new 62, 3) := zdX6_holds_0.2.2.2.1
theorem dX6_holds_10 : decode cX6_holds 10 = .ok (.dup, 1) := zdX6_holds_0.2.2.2.2.1
theorem dX6_holds_11 : decode cX6_holds 11 = .ok (.ldc 102, 2) := zdX6_holds_0.2.2.2.2.2.1
theorem dX6_holds_13 : decode cX6_holds 13 = .ok (.invokespecial 66, 3) := zdX6_holds_0.2.2.2.2.2.2.1
theorem dX6_holds_16 : decode cX6_holds 16 = .ok (.athrow, 1) := zdX6_holds_0.2.2.2.2.2.2.2.1
theorem dX6_holds_17 : decode cX6_holds 17 = .ok (.aload_n 0, 1) := zdX6_holds_0.2.2.2.2.2.2.2.2.1
theorem dX6_holds_18 : decode cX6_holds 18 = .ok (.getfield 22, 3) := zdX6_holds_0.2.2.2.2.2.2.2.2.2.1
theorem dX6_holds_21 : decode cX6_holds 21 = .ok (.aload_n 0, 1) := zdX6_holds_0.2.2.2.2.2.2.2.2.2.2.1
theorem dX6_holds_22 : decode cX6_holds 22 = .ok (.getfield 10, 3) := zdX6_holds_0.2.2.2.2.2.2.2.2.2.2.2.1
theorem dX6_holds_25 : decode cX6_holds 25 = .ok (.iload_n 1, 1) := zdX6_holds_0.2.2.2.2.2.2.2.2.2.2.2.2.1
theorem dX6_holds_26 : decode cX6_holds 26 = .ok (.invokevirtual 104, 3) := zdX6_holds_0.2.2.2.2.2.2.2.2.2.2.2.2.2.1
theorem dX6_holds_29 : decode cX6_holds 29 = .ok (.ireturn, 1) := zdX6_holds_0.2.2.2.2.2.2.2.2.2.2.2.2.2.2.1
set_option maxRecDepth 20000 in
theorem ggX6_way_X5_units : GoodIn wsX6_way wsX5_units := goodIn_r _ [9, 10, 68, 69, 70, 71, 72, 73, 74, 75] rfl (by decide +kernel)
set_option maxRecDepth 20000 in
theorem gX6_way_X5_units : GoodIn wsX6_way (wsV RX6 108 RX5 yX5_units wsX5_units) := goodIn_app (goodIn_of _ (by decide +kernel)) ggX6_way_X5_units
set_option maxRecDepth 20000 in
theorem ggX6_way_X5_calls : GoodIn wsX6_way wsX5_calls := goodIn_r _ [14, 10, 68, 69, 70, 71, 72, 73, 74, 75] rfl (by decide +kernel)
set_option maxRecDepth 20000 in
theorem gX6_way_X5_calls : GoodIn wsX6_way (wsV RX6 111 RX5 yX5_calls wsX5_calls) := goodIn_app (goodIn_of _ (by decide +kernel)) ggX6_way_X5_calls
set_option maxRecDepth 20000 in
theorem ggX6_way_X0_metresBetween : GoodIn wsX6_way wsX0_metresBetween := goodIn_r _ [19, 20, 21, 22, 23, 8, 24, 25, 26, 27, 28, 29, 30, 31, 32, 33, 34, 35, 36, 37, 38, 39, 40, 41, 42, 43, 44, 45, 46, 47, 48, 49, 50, 51, 52, 53, 54, 55, 56, 57, 58, 59, 60, 61, 62, 76, 68, 69, 70, 71, 72, 73, 74, 75, 77, 78] rfl (by decide +kernel)
set_option maxRecDepth 20000 in
theorem gX6_way_X0_metresBetween : GoodIn wsX6_way (wsV RX6 116 RX0 yX0_metresBetween wsX0_metresBetween) := goodIn_app (goodIn_of _ (by decide +kernel)) ggX6_way_X0_metresBetween
set_option maxRecDepth 20000 in
theorem zdX6_way_0 : dAll cX6_way [(0, .iload_n 1, 1), (1, .ifCond .lt 29, 3), (4, .iload_n 1, 1), (5, .aload_n 0, 1), (6, .getfield 10, 3), (9, .invokevirtual 108, 3), (12, .if_icmp .ge 18, 3), (15, .iload_n 2, 1), (16, .ifCond .lt 14, 3), (19, .iload_n 2, 1), (20, .aload_n 0, 1), (21, .getfield 10, 3), (24, .invokevirtual 111, 3), (27, .if_icmp .lt 13, 3), (30, .new 62, 3), (33, .dup, 1), (34, .ldc 114, 2), (36, .invokespecial 66, 3), (39, .athrow, 1), (40, .aload_n 0, 1), (41, .getfield 22, 3), (44, .aload_n 0, 1), (45, .getfield 10, 3), (48, .bipush 30, 2), (50, .iload_n 1, 1), (51, .iadd, 1), (52, .bipush 41, 2), (54, .iload_n 2, 1), (55, .iadd, 1), (56, .invokevirtual 116, 3)] := dAll_of (by decide +kernel)
theorem dX6_way_0 : decode cX6_way 0 = .ok (.iload_n 1, 1) := zdX6_way_0.1
theorem dX6_way_1 : decode cX6_way 1 = .ok (.ifCond .lt 29, 3) := zdX6_way_0.2.1
theorem dX6_way_4 : decode cX6_way 4 = .ok (.iload_n 1, 1) := zdX6_way_0.2.2.1
theorem dX6_way_5 : decode cX6_way 5 = .ok (.aload_n 0, 1) := zdX6_way_0.2.2.2.1
theorem dX6_way_6 : decode cX6_way 6 = .ok (.getfield 10, 3) := zdX6_way_0.2.2.2.2.1
theorem dX6_way_9 : decode cX6_way 9 = .ok (.invokevirtual 108, 3) := zdX6_way_0.2.2.2.2.2.1
theorem dX6_way_12 : decode cX6_way 12 = .ok (.if_icmp .ge 18, 3) := zdX6_way_0.2.2.2.2.2.2.1
theorem dX6_way_15 : decode cX6_way 15 = .ok (.iload_n 2, 1) := zdX6_way_0.2.2.2.2.2.2.2.1
theorem dX6_way_16 : decode cX6_way 16 = .ok (.ifCond .lt 14, 3) := zdX6_way_0.2.2.2.2.2.2.2.2.1
theorem dX6_way_19 : decode cX6_way 19 = .ok (.iload_n 2, 1) := zdX6_way_0.2.2.2.2.2.2.2.2.2.1
theorem dX6_way_20 : decode cX6_way 20 = .ok (.aload_n 0, 1) := zdX6_way_0.2.2.2.2.2.2.2.2.2.2.1
theorem dX6_way_21 : decode cX6_way 21 = .ok (.getfield 10, 3) := zdX6_way_0.2.2.2.2.2.2.2.2.2.2.2.1
theorem dX6_way_24 : decode cX6_way 24 = .ok (.invokevirtual 111, 3) := zdX6_way_0.2.2.2.2.2.2.2.2.2.2.2.2.1
theorem dX6_way_27 : decode cX6_way 27 = .ok (.if_icmp .lt 13, 3) := zdX6_way_0.2.2.2.2.2.2.2.2.2.2.2.2.2.1
theorem dX6_way_30 : decode cX6_way 30 = .ok (.new 62, 3) := zdX6_way_0.2.2.2.2.2.2.2.2.2.2.2.2.2.2.1
theorem dX6_way_33 : decode cX6_way 33 = .ok (.dup, 1) := zdX6_way_0.2.2.2.2.2.2.2.2.2.2.2.2.2.2.2.1
theorem dX6_way_34 : decode cX6_way 34 = .ok (.ldc 114, 2) := zdX6_way_0.2.2.2.2.2.2.2.2.2.2.2.2.2.2.2.2.1
theorem dX6_way_36 : decode cX6_way 36 = .ok (.invokespecial 66, 3) := zdX6_way_0.2.2.2.2.2.2.2.2.2.2.2.2.2.2.2.2.2.1
theorem dX6_way_39 : decode cX6_way 39 = .ok (.athrow, 1) := zdX6_way_0.2.2.2.2.2.2.2.2.2.2.2.2.2.2.2.2.2.2.1
theorem dX6_way_40 : decode cX6_way 40 = .ok (.aload_n 0, 1) := zdX6_way_0.2.2.2.2.2.2.2.2.2.2.2.2.2.2.2.2.2.2.2.1
theorem dX6_way_41 : decode cX6_way 41 = .ok (.getfield 22, 3) := zdX6_way_0.2.2.2.2.2.2.2.2.2.2.2.2.2.2.2.2.2.2.2.2.1
theorem dX6_way_44 : decode cX6_way 44 = .ok (.aload_n 0, 1) := zdX6_way_0.2.2.2.2.2.2.2.2.2.2.2.2.2.2.2.2.2.2.2.2.2.1
theorem dX6_way_45 : decode cX6_way 45 = .ok (.getfield 10, 3) := zdX6_way_0.2.2.2.2.2.2.2.2.2.2.2.2.2.2.2.2.2.2.2.2.2.2.1
theorem dX6_way_48 : decode cX6_way 48 = .ok (.bipush 30, 2) := zdX6_way_0.2.2.2.2.2.2.2.2.2.2.2.2.2.2.2.2.2.2.2.2.2.2.2.1
theorem dX6_way_50 : decode cX6_way 50 = .ok (.iload_n 1, 1) := zdX6_way_0.2.2.2.2.2.2.2.2.2.2.2.2.2.2.2.2.2.2.2.2.2.2.2.2.1
theorem dX6_way_51 : decode cX6_way 51 = .ok (.iadd, 1) := zdX6_way_0.2.2.2.2.2.2.2.2.2.2.2.2.2.2.2.2.2.2.2.2.2.2.2.2.2.1
theorem dX6_way_52 : decode cX6_way 52 = .ok (.bipush 41, 2) := zdX6_way_0.2.2.2.2.2.2.2.2.2.2.2.2.2.2.2.2.2.2.2.2.2.2.2.2.2.2.1
theorem dX6_way_54 : decode cX6_way 54 = .ok (.iload_n 2, 1) := zdX6_way_0.2.2.2.2.2.2.2.2.2.2.2.2.2.2.2.2.2.2.2.2.2.2.2.2.2.2.2.1
theorem dX6_way_55 : decode cX6_way 55 = .ok (.iadd, 1) := zdX6_way_0.2.2.2.2.2.2.2.2.2.2.2.2.2.2.2.2.2.2.2.2.2.2.2.2.2.2.2.2.1
theorem dX6_way_56 : decode cX6_way 56 = .ok (.invokevirtual 116, 3) := zdX6_way_0.2.2.2.2.2.2.2.2.2.2.2.2.2.2.2.2.2.2.2.2.2.2.2.2.2.2.2.2.2.1
theorem dX6_way_59 : decode cX6_way 59 = .ok (.ireturn, 1) := by decide +kernel
set_option maxRecDepth 20000 in
theorem ggX6_shrink_X6_isVerdict : GoodIn wsX6_shrink wsX6_isVerdict := goodIn_r _ [10] rfl (by decide +kernel)
set_option maxRecDepth 20000 in
theorem gX6_shrink_X6_isVerdict : GoodIn wsX6_shrink (va_wsS RX6 99 yX6_isVerdict wsX6_isVerdict) := goodIn_app (goodIn_of _ (by decide +kernel)) ggX6_shrink_X6_isVerdict
set_option maxRecDepth 20000 in
theorem ggX6_shrink_X0_says : GoodIn wsX6_shrink wsX0_says := goodIn_r _ [15, 16, 17, 18, 14, 19, 20, 21, 22, 23, 24, 25, 26, 27, 28, 29, 30, 31, 32, 33, 9, 34, 35, 36, 37, 38, 39, 40, 41, 42, 43, 44, 45, 46, 47, 48, 49, 50, 51, 52, 53, 54, 55, 56, 57, 58, 59, 60, 61, 62, 63, 64, 65, 66, 67, 68, 69, 70, 71, 72, 73, 74, 75, 76, 77, 78, 79, 80, 81, 82, 83, 84, 85, 86, 87, 88, 89, 90, 91, 92, 93, 94, 95, 96, 97, 98, 118, 119, 120, 121, 122, 123, 124, 125, 126, 127, 128] rfl (by decide +kernel)
set_option maxRecDepth 20000 in
theorem gX6_shrink_X0_says : GoodIn wsX6_shrink (wsV RX6 104 RX0 yX0_says wsX0_says) := goodIn_app (goodIn_of _ (by decide +kernel)) ggX6_shrink_X0_says
set_option maxRecDepth 20000 in
theorem ggX6_shrink_X0_leaveOutWhile : GoodIn wsX6_shrink wsX0_leaveOutWhile := goodIn_r _ [102, 51, 36, 37, 30, 38, 39, 33, 9, 34, 103, 104, 105, 106, 107, 108, 109, 110, 111, 112, 12, 13, 14, 15, 16, 17, 18, 19, 20, 21, 22, 23, 24, 25, 26, 27, 28, 29, 31, 32, 35, 40, 41, 42, 43, 44, 45, 46, 47, 48, 49, 50, 52, 53, 54, 55, 56, 57, 58, 59, 60, 61, 62, 63, 64, 65, 66, 67, 68, 69, 70, 71, 72, 73, 74, 75, 76, 77, 78, 79, 80, 81, 82, 83, 84, 85, 86, 87, 88, 89, 90, 91, 92, 93, 94, 95, 96, 97, 98, 121, 122, 123, 124, 125, 126, 127, 128, 118, 119, 120] rfl (by decide +kernel)
set_option maxRecDepth 20000 in
theorem gX6_shrink_X0_leaveOutWhile : GoodIn wsX6_shrink (wsV RX6 122 RX0 yX0_leaveOutWhile wsX0_leaveOutWhile) := goodIn_app (goodIn_of _ (by decide +kernel)) ggX6_shrink_X0_leaveOutWhile
set_option maxRecDepth 20000 in
theorem zdX6_shrink_0 : dAll cX6_shrink [(0, .iload_n 1, 1), (1, .invokestatic 99, 3), (4, .ifCond .ne 13, 3), (7, .new 62, 3), (10, .dup, 1), (11, .ldc 102, 2), (13, .invokespecial 66, 3), (16, .athrow, 1), (17, .aload_n 0, 1), (18, .getfield 22, 3), (21, .aload_n 0, 1), (22, .getfield 10, 3), (25, .iload_n 1, 1), (26, .invokevirtual 104, 3), (29, .ifCond .ne 13, 3), (32, .new 90, 3), (35, .dup, 1), (36, .ldc 120, 2), (38, .invokespecial 94, 3), (41, .athrow, 1), (42, .aload_n 0, 1), (43, .getfield 22, 3), (46, .aload_n 0, 1), (47, .getfield 10, 3), (50, .iload_n 1, 1), (51, .invokevirtual 122, 3), (54, .ireturn, 1)] := dAll_of (by decide +kernel)
theorem dX6_shrink_0 : decode cX6_shrink 0 = .ok (.iload_n 1, 1) := zdX6_shrink_0.1
theorem dX6_shrink_1 : decode cX6_shrink 1 = .ok (.invokestatic 99, 3) := zdX6_shrink_0.2.1
theorem dX6_shrink_4 : decode cX6_shrink 4 = .ok (.ifCond .ne 13, 3) := zdX6_shrink_0.2.2.1
theorem dX6_shrink_7 : decode cX6_shrink 7 = .ok (.new 62, 3) := zdX6_shrink_0.2.2.2.1
theorem dX6_shrink_10 : decode cX6_shrink 10 = .ok (.dup, 1) := zdX6_shrink_0.2.2.2.2.1
theorem dX6_shrink_11 : decode cX6_shrink 11 = .ok (.ldc 102, 2) := zdX6_shrink_0.2.2.2.2.2.1
theorem dX6_shrink_13 : decode cX6_shrink 13 = .ok (.invokespecial 66, 3) := zdX6_shrink_0.2.2.2.2.2.2.1
theorem dX6_shrink_16 : decode cX6_shrink 16 = .ok (.athrow, 1) := zdX6_shrink_0.2.2.2.2.2.2.2.1
theorem dX6_shrink_17 : decode cX6_shrink 17 = .ok (.aload_n 0, 1) := zdX6_shrink_0.2.2.2.2.2.2.2.2.1
theorem dX6_shrink_18 : decode cX6_shrink 18 = .ok (.getfield 22, 3) := zdX6_shrink_0.2.2.2.2.2.2.2.2.2.1
theorem dX6_shrink_21 : decode cX6_shrink 21 = .ok (.aload_n 0, 1) := zdX6_shrink_0.2.2.2.2.2.2.2.2.2.2.1
theorem dX6_shrink_22 : decode cX6_shrink 22 = .ok (.getfield 10, 3) := zdX6_shrink_0.2.2.2.2.2.2.2.2.2.2.2.1
theorem dX6_shrink_25 : decode cX6_shrink 25 = .ok (.iload_n 1, 1) := zdX6_shrink_0.2.2.2.2.2.2.2.2.2.2.2.2.1
theorem dX6_shrink_26 : decode cX6_shrink 26 = .ok (.invokevirtual 104, 3) := zdX6_shrink_0.2.2.2.2.2.2.2.2.2.2.2.2.2.1
theorem dX6_shrink_29 : decode cX6_shrink 29 = .ok (.ifCond .ne 13, 3) := zdX6_shrink_0.2.2.2.2.2.2.2.2.2.2.2.2.2.2.1
theorem dX6_shrink_32 : decode cX6_shrink 32 = .ok (.new 90, 3) := zdX6_shrink_0.2.2.2.2.2.2.2.2.2.2.2.2.2.2.2.1
theorem dX6_shrink_35 : decode cX6_shrink 35 = .ok (.dup, 1) := zdX6_shrink_0.2.2.2.2.2.2.2.2.2.2.2.2.2.2.2.2.1
theorem dX6_shrink_36 : decode cX6_shrink 36 = .ok (.ldc 120, 2) := zdX6_shrink_0.2.2.2.2.2.2.2.2.2.2.2.2.2.2.2.2.2.1
theorem dX6_shrink_38 : decode cX6_shrink 38 = .ok (.invokespecial 94, 3) := zdX6_shrink_0.2.2.2.2.2.2.2.2.2.2.2.2.2.2.2.2.2.2.1
theorem dX6_shrink_41 : decode cX6_shrink 41 = .ok (.athrow, 1) := zdX6_shrink_0.2.2.2.2.2.2.2.2.2.2.2.2.2.2.2.2.2.2.2.1
theorem dX6_shrink_42 : decode cX6_shrink 42 = .ok (.aload_n 0, 1) := zdX6_shrink_0.2.2.2.2.2.2.2.2.2.2.2.2.2.2.2.2.2.2.2.2.1
theorem dX6_shrink_43 : decode cX6_shrink 43 = .ok (.getfield 22, 3) := zdX6_shrink_0.2.2.2.2.2.2.2.2.2.2.2.2.2.2.2.2.2.2.2.2.2.1
theorem dX6_shrink_46 : decode cX6_shrink 46 = .ok (.aload_n 0, 1) := zdX6_shrink_0.2.2.2.2.2.2.2.2.2.2.2.2.2.2.2.2.2.2.2.2.2.2.1
theorem dX6_shrink_47 : decode cX6_shrink 47 = .ok (.getfield 10, 3) := zdX6_shrink_0.2.2.2.2.2.2.2.2.2.2.2.2.2.2.2.2.2.2.2.2.2.2.2.1
theorem dX6_shrink_50 : decode cX6_shrink 50 = .ok (.iload_n 1, 1) := zdX6_shrink_0.2.2.2.2.2.2.2.2.2.2.2.2.2.2.2.2.2.2.2.2.2.2.2.2.1
theorem dX6_shrink_51 : decode cX6_shrink 51 = .ok (.invokevirtual 122, 3) := zdX6_shrink_0.2.2.2.2.2.2.2.2.2.2.2.2.2.2.2.2.2.2.2.2.2.2.2.2.2.1
theorem dX6_shrink_54 : decode cX6_shrink 54 = .ok (.ireturn, 1) := zdX6_shrink_0.2.2.2.2.2.2.2.2.2.2.2.2.2.2.2.2.2.2.2.2.2.2.2.2.2.2.1
set_option maxRecDepth 20000 in
theorem ggX6_find_X6_isVerdict : GoodIn wsX6_find wsX6_isVerdict := goodIn_r _ [10] rfl (by decide +kernel)
set_option maxRecDepth 20000 in
theorem gX6_find_X6_isVerdict : GoodIn wsX6_find (va_wsS RX6 99 yX6_isVerdict wsX6_isVerdict) := goodIn_app (goodIn_of _ (by decide +kernel)) ggX6_find_X6_isVerdict
set_option maxRecDepth 20000 in
theorem ggX6_find_X6_isSize : GoodIn wsX6_find wsX6_isSize := goodIn_r _ [13] rfl (by decide +kernel)
set_option maxRecDepth 20000 in
theorem gX6_find_X6_isSize : GoodIn wsX6_find (va_wsS RX6 44 yX6_isSize wsX6_isSize) := goodIn_app (goodIn_of _ (by decide +kernel)) ggX6_find_X6_isSize
set_option maxRecDepth 20000 in
theorem ggX6_find_X5_become : GoodIn wsX6_find wsX5_become := goodIn_r _ [18, 19, 20, 21, 22, 23, 17, 24, 25, 26, 27, 28, 29, 30, 31, 32, 33, 34, 35, 36, 37, 38, 39, 40, 41, 42, 43, 44, 45, 46, 47, 48, 49, 50, 51, 52, 53, 54, 55, 56, 57, 58, 59, 60, 9, 61, 62, 63, 64, 65, 66, 67, 68, 69, 70, 71, 72, 73, 74, 75, 76, 77, 78, 79, 80, 81, 82, 83, 84, 85, 172, 173, 174, 175, 176, 177, 178, 179] rfl (by decide +kernel)
set_option maxRecDepth 20000 in
theorem gX6_find_X5_become : GoodIn wsX6_find (wsV RX6 40 RX5 yX5_become wsX5_become) := goodIn_app (goodIn_of _ (by decide +kernel)) ggX6_find_X5_become
set_option maxRecDepth 20000 in
theorem ggX6_find_X0_says : GoodIn wsX6_find wsX0_says := goodIn_r _ [90, 91, 92, 93, 89, 94, 95, 96, 97, 98, 99, 100, 101, 102, 103, 104, 17, 105, 28, 60, 9, 61, 106, 107, 108, 109, 27, 110, 111, 112, 113, 114, 115, 29, 116, 117, 118, 119, 120, 121, 122, 123, 124, 125, 126, 127, 128, 129, 130, 131, 132, 133, 134, 135, 136, 137, 138, 139, 140, 141, 30, 142, 143, 144, 145, 146, 147, 148, 149, 150, 151, 152, 153, 154, 155, 156, 157, 158, 159, 160, 161, 162, 163, 164, 165, 166, 180, 181, 182, 172, 173, 174, 175, 176, 177, 178, 179] rfl (by decide +kernel)
set_option maxRecDepth 20000 in
theorem gX6_find_X0_says : GoodIn wsX6_find (wsV RX6 104 RX0 yX0_says wsX0_says) := goodIn_app (goodIn_of _ (by decide +kernel)) ggX6_find_X0_says
set_option maxRecDepth 20000 in
theorem zdX6_find_0 : dAll cX6_find [(0, .iload_n 1, 1), (1, .invokestatic 99, 3), (4, .ifCond .ne 13, 3), (7, .new 62, 3), (10, .dup, 1), (11, .ldc 102, 2), (13, .invokespecial 66, 3), (16, .athrow, 1), (17, .iload_n 3, 1), (18, .invokestatic 44, 3), (21, .ifCond .eq 16, 3), (24, .iload 4, 2), (26, .iconst 1, 1), (27, .if_icmp .lt 10, 3), (30, .iload 4, 2), (32, .bipush 50, 2), (34, .if_icmp .le 13, 3), (37, .new 48, 3), (40, .dup, 1), (41, .ldc 126, 2), (43, .invokespecial 52, 3), (46, .athrow, 1), (47, .iconst 0, 1), (48, .istore 5, 2), (50, .iload 5, 2), (52, .iload 4, 2), (54, .if_icmp .ge 41, 3), (57, .aload_n 0, 1), (58, .getfield 16, 3), (61, .iload_n 2, 1)] := dAll_of (by decide +kernel)
theorem dX6_find_0 : decode cX6_find 0 = .ok (.iload_n 1, 1) := zdX6_find_0.1
theorem dX6_find_1 : decode cX6_find 1 = .ok (.invokestatic 99, 3) := zdX6_find_0.2.1
theorem dX6_find_4 : decode cX6_find 4 = .ok (.ifCond .ne 13, 3) := zdX6_find_0.2.2.1
theorem dX6_find_7 : decode cX6_find 7 = .ok (.new 62, 3) := zdX6_find_0.2.2.2.1
theorem dX6_find_10 : decode cX6_find 10 = .ok (.dup, 1) := zdX6_find_0.2.2.2.2.1
theorem dX6_find_11 : decode cX6_find 11 = .ok (.ldc 102, 2) := zdX6_find_0.2.2.2.2.2.1
theorem dX6_find_13 : decode cX6_find 13 = .ok (.invokespecial 66, 3) := zdX6_find_0.2.2.2.2.2.2.1
theorem dX6_find_16 : decode cX6_find 16 = .ok (.athrow, 1) := zdX6_find_0.2.2.2.2.2.2.2.1
theorem dX6_find_17 : decode cX6_find 17 = .ok (.iload_n 3, 1) := zdX6_find_0.2.2.2.2.2.2.2.2.1
theorem dX6_find_18 : decode cX6_find 18 = .ok (.invokestatic 44, 3) := zdX6_find_0.2.2.2.2.2.2.2.2.2.1
theorem dX6_find_21 : decode cX6_find 21 = .ok (.ifCond .eq 16, 3) := zdX6_find_0.2.2.2.2.2.2.2.2.2.2.1
theorem dX6_find_24 : decode cX6_find 24 = .ok (.iload 4, 2) := zdX6_find_0.2.2.2.2.2.2.2.2.2.2.2.1
theorem dX6_find_26 : decode cX6_find 26 = .ok (.iconst 1, 1) := zdX6_find_0.2.2.2.2.2.2.2.2.2.2.2.2.1
theorem dX6_find_27 : decode cX6_find 27 = .ok (.if_icmp .lt 10, 3) := zdX6_find_0.2.2.2.2.2.2.2.2.2.2.2.2.2.1
theorem dX6_find_30 : decode cX6_find 30 = .ok (.iload 4, 2) := zdX6_find_0.2.2.2.2.2.2.2.2.2.2.2.2.2.2.1
theorem dX6_find_32 : decode cX6_find 32 = .ok (.bipush 50, 2) := zdX6_find_0.2.2.2.2.2.2.2.2.2.2.2.2.2.2.2.1
theorem dX6_find_34 : decode cX6_find 34 = .ok (.if_icmp .le 13, 3) := zdX6_find_0.2.2.2.2.2.2.2.2.2.2.2.2.2.2.2.2.1
theorem dX6_find_37 : decode cX6_find 37 = .ok (.new 48, 3) := zdX6_find_0.2.2.2.2.2.2.2.2.2.2.2.2.2.2.2.2.2.1
theorem dX6_find_40 : decode cX6_find 40 = .ok (.dup, 1) := zdX6_find_0.2.2.2.2.2.2.2.2.2.2.2.2.2.2.2.2.2.2.1
theorem dX6_find_41 : decode cX6_find 41 = .ok (.ldc 126, 2) := zdX6_find_0.2.2.2.2.2.2.2.2.2.2.2.2.2.2.2.2.2.2.2.1
theorem dX6_find_43 : decode cX6_find 43 = .ok (.invokespecial 52, 3) := zdX6_find_0.2.2.2.2.2.2.2.2.2.2.2.2.2.2.2.2.2.2.2.2.1
theorem dX6_find_46 : decode cX6_find 46 = .ok (.athrow, 1) := zdX6_find_0.2.2.2.2.2.2.2.2.2.2.2.2.2.2.2.2.2.2.2.2.2.1
theorem dX6_find_47 : decode cX6_find 47 = .ok (.iconst 0, 1) := zdX6_find_0.2.2.2.2.2.2.2.2.2.2.2.2.2.2.2.2.2.2.2.2.2.2.1
theorem dX6_find_48 : decode cX6_find 48 = .ok (.istore 5, 2) := zdX6_find_0.2.2.2.2.2.2.2.2.2.2.2.2.2.2.2.2.2.2.2.2.2.2.2.1
theorem dX6_find_50 : decode cX6_find 50 = .ok (.iload 5, 2) := zdX6_find_0.2.2.2.2.2.2.2.2.2.2.2.2.2.2.2.2.2.2.2.2.2.2.2.2.1
theorem dX6_find_52 : decode cX6_find 52 = .ok (.iload 4, 2) := zdX6_find_0.2.2.2.2.2.2.2.2.2.2.2.2.2.2.2.2.2.2.2.2.2.2.2.2.2.1
theorem dX6_find_54 : decode cX6_find 54 = .ok (.if_icmp .ge 41, 3) := zdX6_find_0.2.2.2.2.2.2.2.2.2.2.2.2.2.2.2.2.2.2.2.2.2.2.2.2.2.2.1
theorem dX6_find_57 : decode cX6_find 57 = .ok (.aload_n 0, 1) := zdX6_find_0.2.2.2.2.2.2.2.2.2.2.2.2.2.2.2.2.2.2.2.2.2.2.2.2.2.2.2.1
theorem dX6_find_58 : decode cX6_find 58 = .ok (.getfield 16, 3) := zdX6_find_0.2.2.2.2.2.2.2.2.2.2.2.2.2.2.2.2.2.2.2.2.2.2.2.2.2.2.2.2.1
theorem dX6_find_61 : decode cX6_find 61 = .ok (.iload_n 2, 1) := zdX6_find_0.2.2.2.2.2.2.2.2.2.2.2.2.2.2.2.2.2.2.2.2.2.2.2.2.2.2.2.2.2.1
set_option maxRecDepth 20000 in
theorem zdX6_find_62 : dAll cX6_find [(62, .iload 5, 2), (64, .iadd, 1), (65, .iload_n 3, 1), (66, .invokevirtual 40, 3), (69, .aload_n 0, 1), (70, .getfield 22, 3), (73, .aload_n 0, 1), (74, .getfield 16, 3), (77, .iload_n 1, 1), (78, .invokevirtual 104, 3), (81, .ifCond .eq 8, 3), (84, .iload_n 2, 1), (85, .iload 5, 2), (87, .iadd, 1), (88, .ireturn, 1), (89, .iinc 5 1, 3), (92, .goto (-42), 3), (95, .iconst (-1), 1), (96, .ireturn, 1)] := dAll_of (by decide +kernel)
theorem dX6_find_62 : decode cX6_find 62 = .ok (.iload 5, 2) := zdX6_find_62.1
theorem dX6_find_64 : decode cX6_find 64 = .ok (.iadd, 1) := zdX6_find_62.2.1
theorem dX6_find_65 : decode cX6_find 65 = .ok (.iload_n 3, 1) := zdX6_find_62.2.2.1
theorem dX6_find_66 : decode cX6_find 66 = .ok (.invokevirtual 40, 3) := zdX6_find_62.2.2.2.1
theorem dX6_find_69 : decode cX6_find 69 = .ok (.aload_n 0, 1) := zdX6_find_62.2.2.2.2.1
theorem dX6_find_70 : decode cX6_find 70 = .ok (.getfield 22, 3) := zdX6_find_62.2.2.2.2.2.1
theorem dX6_find_73 : decode cX6_find 73 = .ok (.aload_n 0, 1) := zdX6_find_62.2.2.2.2.2.2.1
theorem dX6_find_74 : decode cX6_find 74 = .ok (.getfield 16, 3) := zdX6_find_62.2.2.2.2.2.2.2.1
theorem dX6_find_77 : decode cX6_find 77 = .ok (.iload_n 1, 1) := zdX6_find_62.2.2.2.2.2.2.2.2.1
theorem dX6_find_78 : decode cX6_find 78 = .ok (.invokevirtual 104, 3) := zdX6_find_62.2.2.2.2.2.2.2.2.2.1
theorem dX6_find_81 : decode cX6_find 81 = .ok (.ifCond .eq 8, 3) := zdX6_find_62.2.2.2.2.2.2.2.2.2.2.1
theorem dX6_find_84 : decode cX6_find 84 = .ok (.iload_n 2, 1) := zdX6_find_62.2.2.2.2.2.2.2.2.2.2.2.1
theorem dX6_find_85 : decode cX6_find 85 = .ok (.iload 5, 2) := zdX6_find_62.2.2.2.2.2.2.2.2.2.2.2.2.1
theorem dX6_find_87 : decode cX6_find 87 = .ok (.iadd, 1) := zdX6_find_62.2.2.2.2.2.2.2.2.2.2.2.2.2.1
theorem dX6_find_88 : decode cX6_find 88 = .ok (.ireturn, 1) := zdX6_find_62.2.2.2.2.2.2.2.2.2.2.2.2.2.2.1
theorem dX6_find_89 : decode cX6_find 89 = .ok (.iinc 5 1, 3) := zdX6_find_62.2.2.2.2.2.2.2.2.2.2.2.2.2.2.2.1
theorem dX6_find_92 : decode cX6_find 92 = .ok (.goto (-42), 3) := zdX6_find_62.2.2.2.2.2.2.2.2.2.2.2.2.2.2.2.2.1
theorem dX6_find_95 : decode cX6_find 95 = .ok (.iconst (-1), 1) := zdX6_find_62.2.2.2.2.2.2.2.2.2.2.2.2.2.2.2.2.2.1
theorem dX6_find_96 : decode cX6_find 96 = .ok (.ireturn, 1) := zdX6_find_62.2.2.2.2.2.2.2.2.2.2.2.2.2.2.2.2.2.2.1
set_option maxRecDepth 20000 in
theorem ggX6_print_X1_write : GoodIn wsX6_print wsX1_write := goodIn_r _ [7, 8, 9, 10, 11, 12, 13, 14, 15, 16, 17, 18, 19, 20, 21, 22, 23, 24, 25, 26, 6, 27, 28, 29, 30, 31, 32, 33, 34, 35, 36, 37, 38, 39, 40, 41, 42, 43, 44, 45, 46, 47, 48, 49, 50, 51, 52, 53, 63, 64, 65, 66, 67, 68, 69, 70, 71, 72, 73] rfl (by decide +kernel)
set_option maxRecDepth 20000 in
theorem gX6_print_X1_write : GoodIn wsX6_print (wsV RX6 128 RX1 yX1_write wsX1_write) := goodIn_app (goodIn_of _ (by decide +kernel)) ggX6_print_X1_write
set_option maxRecDepth 20000 in
theorem ggX6_print_X4_length : GoodIn wsX6_print wsX4_length := goodIn_r _ [57, 14, 64, 65] rfl (by decide +kernel)
set_option maxRecDepth 20000 in
theorem gX6_print_X4_length : GoodIn wsX6_print (wsV RX6 136 RX4 yX4_length wsX4_length) := goodIn_app (goodIn_of _ (by decide +kernel)) ggX6_print_X4_length
set_option maxRecDepth 20000 in
theorem zdX6_print_0 : dAll cX6_print [(0, .aload_n 0, 1), (1, .getfield 29, 3), (4, .aload_n 0, 1), (5, .getfield 10, 3), (8, .invokevirtual 128, 3), (11, .aload_n 0, 1), (12, .getfield 29, 3), (15, .getfield 132, 3), (18, .invokevirtual 136, 3), (21, .ireturn, 1)] := dAll_of (by decide +kernel)
theorem dX6_print_0 : decode cX6_print 0 = .ok (.aload_n 0, 1) := zdX6_print_0.1
theorem dX6_print_1 : decode cX6_print 1 = .ok (.getfield 29, 3) := zdX6_print_0.2.1
theorem dX6_print_4 : decode cX6_print 4 = .ok (.aload_n 0, 1) := zdX6_print_0.2.2.1
theorem dX6_print_5 : decode cX6_print 5 = .ok (.getfield 10, 3) := zdX6_print_0.2.2.2.1
theorem dX6_print_8 : decode cX6_print 8 = .ok (.invokevirtual 128, 3) := zdX6_print_0.2.2.2.2.1
theorem dX6_print_11 : decode cX6_print 11 = .ok (.aload_n 0, 1) := zdX6_print_0.2.2.2.2.2.1
theorem dX6_print_12 : decode cX6_print 12 = .ok (.getfield 29, 3) := zdX6_print_0.2.2.2.2.2.2.1
theorem dX6_print_15 : decode cX6_print 15 = .ok (.getfield 132, 3) := zdX6_print_0.2.2.2.2.2.2.2.1
theorem dX6_print_18 : decode cX6_print 18 = .ok (.invokevirtual 136, 3) := zdX6_print_0.2.2.2.2.2.2.2.2.1
theorem dX6_print_21 : decode cX6_print 21 = .ok (.ireturn, 1) := zdX6_print_0.2.2.2.2.2.2.2.2.2.1
set_option maxRecDepth 20000 in
theorem ggX6_at_X4_byteAt : GoodIn wsX6_at wsX4_byteAt := goodIn_r _ [8, 9, 10, 17, 18] rfl (by decide +kernel)
set_option maxRecDepth 20000 in
theorem gX6_at_X4_byteAt : GoodIn wsX6_at (wsV RX6 143 RX4 yX4_byteAt wsX4_byteAt) := goodIn_app (goodIn_of _ (by decide +kernel)) ggX6_at_X4_byteAt
set_option maxRecDepth 20000 in
theorem zdX6_at_0 : dAll cX6_at [(0, .iload_n 1, 1), (1, .ifCond .ge 13, 3), (4, .new 48, 3), (7, .dup, 1), (8, .ldc 141, 2)] := dAll_of (by decide +kernel)
theorem dX6_at_0 : decode cX6_at 0 = .ok (.iload_n 1, 1) := zdX6_at_0.1
theorem dX6_at_1 : decode cX6_at 1 = .ok (.ifCond .ge 13, 3) := zdX6_at_0.2.1
theorem dX6_at_4 : decode cX6_at 4 = .ok (.new 48, 3) := zdX6_at_0.2.2.1
theorem dX6_at_7 : decode cX6_at 7 = .ok (.dup, 1) := zdX6_at_0.2.2.2.1
theorem dX6_at_8 : decode cX6_at 8 = .ok (.ldc 141, 2) := zdX6_at_0.2.2.2.2.1
