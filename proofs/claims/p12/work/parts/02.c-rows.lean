set_option maxRecDepth 20000 in
theorem ggX0_init_X3_init : GoodIn wsX0_init wsX3_init := goodIn_r _ [10, 11, 2, 3, 12, 13, 14, 15, 16] rfl (by decide +kernel)
set_option maxRecDepth 20000 in
theorem gX0_init_X3_init : GoodIn wsX0_init (wsX3_init) := ggX0_init_X3_init
set_option maxRecDepth 20000 in
theorem zdX0_init_0 : dAll cX0_init [(0, .aload_n 0, 1), (1, .invokespecial 3, 3), (4, .aload_n 0, 1), (5, .new 9, 3), (8, .dup, 1), (9, .invokespecial 11, 3), (12, .putfield 12, 3), (15, .return_, 1)] := dAll_of (by decide +kernel)
theorem dX0_init_0 : decode cX0_init 0 = .ok (.aload_n 0, 1) := zdX0_init_0.1
theorem dX0_init_1 : decode cX0_init 1 = .ok (.invokespecial 3, 3) := zdX0_init_0.2.1
theorem dX0_init_4 : decode cX0_init 4 = .ok (.aload_n 0, 1) := zdX0_init_0.2.2.1
theorem dX0_init_5 : decode cX0_init 5 = .ok (.new 9, 3) := zdX0_init_0.2.2.2.1
theorem dX0_init_8 : decode cX0_init 8 = .ok (.dup, 1) := zdX0_init_0.2.2.2.2.1
theorem dX0_init_9 : decode cX0_init 9 = .ok (.invokespecial 11, 3) := zdX0_init_0.2.2.2.2.2.1
theorem dX0_init_12 : decode cX0_init 12 = .ok (.putfield 12, 3) := zdX0_init_0.2.2.2.2.2.2.1
theorem dX0_init_15 : decode cX0_init 15 = .ok (.return_, 1) := zdX0_init_0.2.2.2.2.2.2.2.1
set_option maxRecDepth 20000 in
theorem ggX0_says_X0_servedCalls : GoodIn wsX0_says wsX0_servedCalls := goodIn_r _ [5, 6, 7, 8, 9, 10, 11, 12, 13, 14, 15, 16, 17, 18, 19, 20, 21, 22, 23, 24, 25, 26, 27, 28, 29, 30, 31, 32, 33, 34, 35, 36, 37, 38, 39, 40, 41, 42, 43, 44, 86, 87, 88, 89, 90, 91, 92, 93, 94, 95, 96] rfl (by decide +kernel)
set_option maxRecDepth 20000 in
theorem gX0_says_X0_servedCalls : GoodIn wsX0_says (wsV RX0 18 RX0 yX0_servedCalls wsX0_servedCalls) := goodIn_app (goodIn_of _ (by decide +kernel)) ggX0_says_X0_servedCalls
set_option maxRecDepth 20000 in
theorem ggX0_says_X5_howManyThere : GoodIn wsX0_says wsX5_howManyThere := goodIn_r _ [48, 49, 23, 24, 16, 25, 26, 19, 20, 21, 89, 90, 91, 92, 93, 94, 95, 96] rfl (by decide +kernel)
set_option maxRecDepth 20000 in
theorem gX0_says_X5_howManyThere : GoodIn wsX0_says (wsV RX0 22 RX5 yX5_howManyThere wsX5_howManyThere) := goodIn_app (goodIn_of _ (by decide +kernel)) ggX0_says_X5_howManyThere
set_option maxRecDepth 20000 in
theorem ggX0_says_X0_someCallsMeet : GoodIn wsX0_says wsX0_someCallsMeet := goodIn_r _ [52, 38, 23, 24, 16, 25, 26, 19, 20, 21, 53, 54, 4, 55, 56, 57, 58, 59, 60, 39, 14, 15, 17, 18, 89, 90, 91, 92, 93, 94, 95, 96] rfl (by decide +kernel)
set_option maxRecDepth 20000 in
theorem gX0_says_X0_someCallsMeet : GoodIn wsX0_says (va_wsS RX0 28 yX0_someCallsMeet wsX0_someCallsMeet) := goodIn_app (goodIn_of _ (by decide +kernel)) ggX0_says_X0_someCallsMeet
set_option maxRecDepth 20000 in
theorem ggX0_says_X0_someUnitHas : GoodIn wsX0_says wsX0_someUnitHas := goodIn_r _ [63, 38, 23, 24, 16, 25, 26, 19, 20, 21, 40, 30, 31, 32, 33, 89, 90, 91, 92, 93, 94, 95, 96] rfl (by decide +kernel)
set_option maxRecDepth 20000 in
theorem gX0_says_X0_someUnitHas : GoodIn wsX0_says (va_wsS RX0 32 yX0_someUnitHas wsX0_someUnitHas) := goodIn_app (goodIn_of _ (by decide +kernel)) ggX0_says_X0_someUnitHas
set_option maxRecDepth 20000 in
theorem ggX0_says_X0_someWayIsLong : GoodIn wsX0_says wsX0_someWayIsLong := goodIn_r _ [67, 6, 38, 23, 24, 16, 25, 26, 19, 20, 21, 39, 14, 15, 17, 18, 68, 69, 70, 10, 71, 72, 73, 22, 13, 29, 30, 31, 32, 33, 74, 57, 58, 59, 60, 75, 76, 77, 78, 27, 28, 79, 80, 81, 82, 86, 89, 90, 91, 92, 93, 94, 95, 96, 87, 88] rfl (by decide +kernel)
set_option maxRecDepth 20000 in
theorem gX0_says_X0_someWayIsLong : GoodIn wsX0_says (wsV RX0 36 RX0 yX0_someWayIsLong wsX0_someWayIsLong) := goodIn_app (goodIn_of _ (by decide +kernel)) ggX0_says_X0_someWayIsLong
set_option maxRecDepth 20000 in
theorem ggX0_says_X0_metresOfStreets : GoodIn wsX0_says wsX0_metresOfStreets := goodIn_r _ [85, 38, 23, 24, 16, 25, 26, 19, 20, 21, 56, 57, 58, 59, 60, 89, 90, 91, 92, 93, 94, 95, 96] rfl (by decide +kernel)
set_option maxRecDepth 20000 in
theorem gX0_says_X0_metresOfStreets : GoodIn wsX0_says (va_wsS RX0 39 yX0_metresOfStreets wsX0_metresOfStreets) := goodIn_app (goodIn_of _ (by decide +kernel)) ggX0_says_X0_metresOfStreets
set_option maxRecDepth 20000 in
theorem zdX0_says_0 : dAll cX0_says [(0, .iload_n 2, 1), (1, .tableswitch 98 0 4 #[35, 57, 62, 76, 82], 35), (36, .aload_n 0, 1), (37, .aload_n 1, 1), (38, .invokevirtual 18, 3), (41, .aload_n 1, 1), (42, .bipush 41, 2), (44, .bipush 62, 2), (46, .invokevirtual 22, 3), (49, .if_icmp .ge 7, 3), (52, .iconst 1, 1), (53, .goto 4, 3), (56, .iconst 0, 1), (57, .ireturn, 1), (58, .aload_n 1, 1), (59, .invokestatic 28, 3), (62, .ireturn, 1), (63, .aload_n 1, 1), (64, .iconst 2, 1), (65, .invokestatic 32, 3), (68, .ifCond .ne 7, 3), (71, .iconst 1, 1), (72, .goto 4, 3), (75, .iconst 0, 1), (76, .ireturn, 1), (77, .aload_n 0, 1), (78, .aload_n 1, 1), (79, .invokevirtual 36, 3), (82, .ireturn, 1), (83, .aload_n 1, 1)] := dAll_of (by decide +kernel)
theorem dX0_says_0 : decode cX0_says 0 = .ok (.iload_n 2, 1) := zdX0_says_0.1
theorem dX0_says_1 : decode cX0_says 1 = .ok (.tableswitch 98 0 4 #[35, 57, 62, 76, 82], 35) := zdX0_says_0.2.1
theorem dX0_says_36 : decode cX0_says 36 = .ok (.aload_n 0, 1) := zdX0_says_0.2.2.1
theorem dX0_says_37 : decode cX0_says 37 = .ok (.aload_n 1, 1) := zdX0_says_0.2.2.2.1
theorem dX0_says_38 : decode cX0_says 38 = .ok (.invokevirtual 18, 3) := zdX0_says_0.2.2.2.2.1
theorem dX0_says_41 : decode cX0_says 41 = .ok (.aload_n 1, 1) := zdX0_says_0.2.2.2.2.2.1
theorem dX0_says_42 : decode cX0_says 42 = .ok (.bipush 41, 2) := zdX0_says_0.2.2.2.2.2.2.1
theorem dX0_says_44 : decode cX0_says 44 = .ok (.bipush 62, 2) := zdX0_says_0.2.2.2.2.2.2.2.1
theorem dX0_says_46 : decode cX0_says 46 = .ok (.invokevirtual 22, 3) := zdX0_says_0.2.2.2.2.2.2.2.2.1
theorem dX0_says_49 : decode cX0_says 49 = .ok (.if_icmp .ge 7, 3) := zdX0_says_0.2.2.2.2.2.2.2.2.2.1
theorem dX0_says_52 : decode cX0_says 52 = .ok (.iconst 1, 1) := zdX0_says_0.2.2.2.2.2.2.2.2.2.2.1
theorem dX0_says_53 : decode cX0_says 53 = .ok (.goto 4, 3) := zdX0_says_0.2.2.2.2.2.2.2.2.2.2.2.1
theorem dX0_says_56 : decode cX0_says 56 = .ok (.iconst 0, 1) := zdX0_says_0.2.2.2.2.2.2.2.2.2.2.2.2.1
theorem dX0_says_57 : decode cX0_says 57 = .ok (.ireturn, 1) := zdX0_says_0.2.2.2.2.2.2.2.2.2.2.2.2.2.1
theorem dX0_says_58 : decode cX0_says 58 = .ok (.aload_n 1, 1) := zdX0_says_0.2.2.2.2.2.2.2.2.2.2.2.2.2.2.1
theorem dX0_says_59 : decode cX0_says 59 = .ok (.invokestatic 28, 3) := zdX0_says_0.2.2.2.2.2.2.2.2.2.2.2.2.2.2.2.1
theorem dX0_says_62 : decode cX0_says 62 = .ok (.ireturn, 1) := zdX0_says_0.2.2.2.2.2.2.2.2.2.2.2.2.2.2.2.2.1
theorem dX0_says_63 : decode cX0_says 63 = .ok (.aload_n 1, 1) := zdX0_says_0.2.2.2.2.2.2.2.2.2.2.2.2.2.2.2.2.2.1
theorem dX0_says_64 : decode cX0_says 64 = .ok (.iconst 2, 1) := zdX0_says_0.2.2.2.2.2.2.2.2.2.2.2.2.2.2.2.2.2.2.1
theorem dX0_says_65 : decode cX0_says 65 = .ok (.invokestatic 32, 3) := zdX0_says_0.2.2.2.2.2.2.2.2.2.2.2.2.2.2.2.2.2.2.2.1
theorem dX0_says_68 : decode cX0_says 68 = .ok (.ifCond .ne 7, 3) := zdX0_says_0.2.2.2.2.2.2.2.2.2.2.2.2.2.2.2.2.2.2.2.2.1
theorem dX0_says_71 : decode cX0_says 71 = .ok (.iconst 1, 1) := zdX0_says_0.2.2.2.2.2.2.2.2.2.2.2.2.2.2.2.2.2.2.2.2.2.1
theorem dX0_says_72 : decode cX0_says 72 = .ok (.goto 4, 3) := zdX0_says_0.2.2.2.2.2.2.2.2.2.2.2.2.2.2.2.2.2.2.2.2.2.2.1
theorem dX0_says_75 : decode cX0_says 75 = .ok (.iconst 0, 1) := zdX0_says_0.2.2.2.2.2.2.2.2.2.2.2.2.2.2.2.2.2.2.2.2.2.2.2.1
theorem dX0_says_76 : decode cX0_says 76 = .ok (.ireturn, 1) := zdX0_says_0.2.2.2.2.2.2.2.2.2.2.2.2.2.2.2.2.2.2.2.2.2.2.2.2.1
theorem dX0_says_77 : decode cX0_says 77 = .ok (.aload_n 0, 1) := zdX0_says_0.2.2.2.2.2.2.2.2.2.2.2.2.2.2.2.2.2.2.2.2.2.2.2.2.2.1
theorem dX0_says_78 : decode cX0_says 78 = .ok (.aload_n 1, 1) := zdX0_says_0.2.2.2.2.2.2.2.2.2.2.2.2.2.2.2.2.2.2.2.2.2.2.2.2.2.2.1
theorem dX0_says_79 : decode cX0_says 79 = .ok (.invokevirtual 36, 3) := zdX0_says_0.2.2.2.2.2.2.2.2.2.2.2.2.2.2.2.2.2.2.2.2.2.2.2.2.2.2.2.1
theorem dX0_says_82 : decode cX0_says 82 = .ok (.ireturn, 1) := zdX0_says_0.2.2.2.2.2.2.2.2.2.2.2.2.2.2.2.2.2.2.2.2.2.2.2.2.2.2.2.2.1
theorem dX0_says_83 : decode cX0_says 83 = .ok (.aload_n 1, 1) := zdX0_says_0.2.2.2.2.2.2.2.2.2.2.2.2.2.2.2.2.2.2.2.2.2.2.2.2.2.2.2.2.2.1
set_option maxRecDepth 20000 in
theorem zdX0_says_84 : dAll cX0_says [(84, .invokestatic 39, 3), (87, .sipush 300, 3), (90, .if_icmp .le 7, 3), (93, .iconst 1, 1), (94, .goto 4, 3), (97, .iconst 0, 1), (98, .ireturn, 1), (99, .iconst 0, 1), (100, .ireturn, 1)] := dAll_of (by decide +kernel)
theorem dX0_says_84 : decode cX0_says 84 = .ok (.invokestatic 39, 3) := zdX0_says_84.1
theorem dX0_says_87 : decode cX0_says 87 = .ok (.sipush 300, 3) := zdX0_says_84.2.1
theorem dX0_says_90 : decode cX0_says 90 = .ok (.if_icmp .le 7, 3) := zdX0_says_84.2.2.1
theorem dX0_says_93 : decode cX0_says 93 = .ok (.iconst 1, 1) := zdX0_says_84.2.2.2.1
theorem dX0_says_94 : decode cX0_says 94 = .ok (.goto 4, 3) := zdX0_says_84.2.2.2.2.1
theorem dX0_says_97 : decode cX0_says 97 = .ok (.iconst 0, 1) := zdX0_says_84.2.2.2.2.2.1
theorem dX0_says_98 : decode cX0_says 98 = .ok (.ireturn, 1) := zdX0_says_84.2.2.2.2.2.2.1
theorem dX0_says_99 : decode cX0_says 99 = .ok (.iconst 0, 1) := zdX0_says_84.2.2.2.2.2.2.2.1
theorem dX0_says_100 : decode cX0_says 100 = .ok (.ireturn, 1) := zdX0_says_84.2.2.2.2.2.2.2.2.1
set_option maxRecDepth 20000 in
theorem ggX0_leaveOutWhile_X5_isThere : GoodIn wsX0_leaveOutWhile wsX5_isThere := goodIn_r _ [5, 6, 7, 8, 9, 99, 100, 101, 102, 103, 104, 105, 106] rfl (by decide +kernel)
set_option maxRecDepth 20000 in
theorem gX0_leaveOutWhile_X5_isThere : GoodIn wsX0_leaveOutWhile (wsV RX0 42 RX5 yX5_isThere wsX5_isThere) := goodIn_app (goodIn_of _ (by decide +kernel)) ggX0_leaveOutWhile_X5_isThere
set_option maxRecDepth 20000 in
theorem ggX0_leaveOutWhile_X5_setThere : GoodIn wsX0_leaveOutWhile wsX5_setThere := goodIn_r _ [13, 6, 14, 15, 16, 4, 17, 18, 7, 8, 9, 99, 100, 101, 102, 103, 104, 105, 106] rfl (by decide +kernel)
set_option maxRecDepth 20000 in
theorem gX0_leaveOutWhile_X5_setThere : GoodIn wsX0_leaveOutWhile (wsV RX0 46 RX5 yX5_setThere wsX5_setThere) := goodIn_app (goodIn_of _ (by decide +kernel)) ggX0_leaveOutWhile_X5_setThere
set_option maxRecDepth 20000 in
theorem ggX0_leaveOutWhile_X0_says : GoodIn wsX0_leaveOutWhile wsX0_says := goodIn_r _ [23, 24, 25, 26, 22, 27, 28, 29, 30, 31, 32, 33, 34, 35, 36, 37, 4, 38, 39, 7, 8, 9, 40, 2, 3, 5, 6, 41, 42, 43, 44, 45, 46, 47, 48, 49, 50, 51, 1, 52, 53, 54, 55, 56, 57, 58, 59, 60, 61, 62, 63, 64, 65, 66, 67, 68, 69, 70, 71, 72, 73, 74, 75, 76, 77, 78, 79, 80, 81, 82, 83, 84, 85, 86, 87, 88, 89, 90, 91, 92, 93, 94, 95, 96, 97, 98, 107, 108, 109, 99, 100, 101, 102, 103, 104, 105, 106] rfl (by decide +kernel)
set_option maxRecDepth 20000 in
theorem gX0_leaveOutWhile_X0_says : GoodIn wsX0_leaveOutWhile (wsV RX0 50 RX0 yX0_says wsX0_says) := goodIn_app (goodIn_of _ (by decide +kernel)) ggX0_leaveOutWhile_X0_says
set_option maxRecDepth 20000 in
theorem zdX0_leaveOutWhile_0 : dAll cX0_leaveOutWhile [(0, .iconst 0, 1), (1, .istore_n 3, 1), (2, .iconst 1, 1), (3, .istore 4, 2), (5, .iconst 0, 1), (6, .istore 5, 2), (8, .iload 5, 2), (10, .bipush 62, 2), (12, .if_icmp .gt 103, 3), (15, .iload 4, 2), (17, .ifCond .eq 98, 3), (20, .iconst 0, 1), (21, .istore 4, 2), (23, .iconst 0, 1), (24, .istore 6, 2), (26, .iload 6, 2), (28, .bipush 62, 2), (30, .if_icmp .ge 79, 3), (33, .aload_n 1, 1), (34, .iload 6, 2), (36, .invokevirtual 42, 3), (39, .ifCond .eq 64, 3), (42, .aload_n 1, 1), (43, .iload 6, 2), (45, .iconst 0, 1), (46, .invokevirtual 46, 3), (49, .aload_n 0, 1), (50, .aload_n 1, 1), (51, .iload_n 2, 1), (52, .invokevirtual 50, 3)] := dAll_of (by decide +kernel)
theorem dX0_leaveOutWhile_0 : decode cX0_leaveOutWhile 0 = .ok (.iconst 0, 1) := zdX0_leaveOutWhile_0.1
theorem dX0_leaveOutWhile_1 : decode cX0_leaveOutWhile 1 = .ok (.istore_n 3, 1) := zdX0_leaveOutWhile_0.2.1
theorem dX0_leaveOutWhile_2 : decode cX0_leaveOutWhile 2 = .ok (.iconst 1, 1) := zdX0_leaveOutWhile_0.2.2.1
theorem dX0_leaveOutWhile_3 : decode cX0_leaveOutWhile 3 = .ok (.istore 4, 2) := zdX0_leaveOutWhile_0.2.2.2.1
theorem dX0_leaveOutWhile_5 : decode cX0_leaveOutWhile 5 = .ok (.iconst 0, 1) := zdX0_leaveOutWhile_0.2.2.2.2.1
theorem dX0_leaveOutWhile_6 : decode cX0_leaveOutWhile 6 = .ok (.istore 5, 2) := zdX0_leaveOutWhile_0.2.2.2.2.2.1
theorem dX0_leaveOutWhile_8 : decode cX0_leaveOutWhile 8 = .ok (.iload 5, 2) := zdX0_leaveOutWhile_0.2.2.2.2.2.2.1
theorem dX0_leaveOutWhile_10 : decode cX0_leaveOutWhile 10 = .ok (.bipush 62, 2) := zdX0_leaveOutWhile_0.2.2.2.2.2.2.2.1
theorem dX0_leaveOutWhile_12 : decode cX0_leaveOutWhile 12 = .ok (.if_icmp .gt 103, 3) := zdX0_leaveOutWhile_0.2.2.2.2.2.2.2.2.1
theorem dX0_leaveOutWhile_15 : decode cX0_leaveOutWhile 15 = .ok (.iload 4, 2) := zdX0_leaveOutWhile_0.2.2.2.2.2.2.2.2.2.1
theorem dX0_leaveOutWhile_17 : decode cX0_leaveOutWhile 17 = .ok (.ifCond .eq 98, 3) := zdX0_leaveOutWhile_0.2.2.2.2.2.2.2.2.2.2.1
theorem dX0_leaveOutWhile_20 : decode cX0_leaveOutWhile 20 = .ok (.iconst 0, 1) := zdX0_leaveOutWhile_0.2.2.2.2.2.2.2.2.2.2.2.1
theorem dX0_leaveOutWhile_21 : decode cX0_leaveOutWhile 21 = .ok (.istore 4, 2) := zdX0_leaveOutWhile_0.2.2.2.2.2.2.2.2.2.2.2.2.1
theorem dX0_leaveOutWhile_23 : decode cX0_leaveOutWhile 23 = .ok (.iconst 0, 1) := zdX0_leaveOutWhile_0.2.2.2.2.2.2.2.2.2.2.2.2.2.1
theorem dX0_leaveOutWhile_24 : decode cX0_leaveOutWhile 24 = .ok (.istore 6, 2) := zdX0_leaveOutWhile_0.2.2.2.2.2.2.2.2.2.2.2.2.2.2.1
theorem dX0_leaveOutWhile_26 : decode cX0_leaveOutWhile 26 = .ok (.iload 6, 2) := zdX0_leaveOutWhile_0.2.2.2.2.2.2.2.2.2.2.2.2.2.2.2.1
theorem dX0_leaveOutWhile_28 : decode cX0_leaveOutWhile 28 = .ok (.bipush 62, 2) := zdX0_leaveOutWhile_0.2.2.2.2.2.2.2.2.2.2.2.2.2.2.2.2.1
theorem dX0_leaveOutWhile_30 : decode cX0_leaveOutWhile 30 = .ok (.if_icmp .ge 79, 3) := zdX0_leaveOutWhile_0.2.2.2.2.2.2.2.2.2.2.2.2.2.2.2.2.2.1
theorem dX0_leaveOutWhile_33 : decode cX0_leaveOutWhile 33 = .ok (.aload_n 1, 1) := zdX0_leaveOutWhile_0.2.2.2.2.2.2.2.2.2.2.2.2.2.2.2.2.2.2.1
theorem dX0_leaveOutWhile_34 : decode cX0_leaveOutWhile 34 = .ok (.iload 6, 2) := zdX0_leaveOutWhile_0.2.2.2.2.2.2.2.2.2.2.2.2.2.2.2.2.2.2.2.1
theorem dX0_leaveOutWhile_36 : decode cX0_leaveOutWhile 36 = .ok (.invokevirtual 42, 3) := zdX0_leaveOutWhile_0.2.2.2.2.2.2.2.2.2.2.2.2.2.2.2.2.2.2.2.2.1
theorem dX0_leaveOutWhile_39 : decode cX0_leaveOutWhile 39 = .ok (.ifCond .eq 64, 3) := zdX0_leaveOutWhile_0.2.2.2.2.2.2.2.2.2.2.2.2.2.2.2.2.2.2.2.2.2.1
theorem dX0_leaveOutWhile_42 : decode cX0_leaveOutWhile 42 = .ok (.aload_n 1, 1) := zdX0_leaveOutWhile_0.2.2.2.2.2.2.2.2.2.2.2.2.2.2.2.2.2.2.2.2.2.2.1
theorem dX0_leaveOutWhile_43 : decode cX0_leaveOutWhile 43 = .ok (.iload 6, 2) := zdX0_leaveOutWhile_0.2.2.2.2.2.2.2.2.2.2.2.2.2.2.2.2.2.2.2.2.2.2.2.1
theorem dX0_leaveOutWhile_45 : decode cX0_leaveOutWhile 45 = .ok (.iconst 0, 1) := zdX0_leaveOutWhile_0.2.2.2.2.2.2.2.2.2.2.2.2.2.2.2.2.2.2.2.2.2.2.2.2.1
theorem dX0_leaveOutWhile_46 : decode cX0_leaveOutWhile 46 = .ok (.invokevirtual 46, 3) := zdX0_leaveOutWhile_0.2.2.2.2.2.2.2.2.2.2.2.2.2.2.2.2.2.2.2.2.2.2.2.2.2.1
theorem dX0_leaveOutWhile_49 : decode cX0_leaveOutWhile 49 = .ok (.aload_n 0, 1) := zdX0_leaveOutWhile_0.2.2.2.2.2.2.2.2.2.2.2.2.2.2.2.2.2.2.2.2.2.2.2.2.2.2.1
theorem dX0_leaveOutWhile_50 : decode cX0_leaveOutWhile 50 = .ok (.aload_n 1, 1) := zdX0_leaveOutWhile_0.2.2.2.2.2.2.2.2.2.2.2.2.2.2.2.2.2.2.2.2.2.2.2.2.2.2.2.1
theorem dX0_leaveOutWhile_51 : decode cX0_leaveOutWhile 51 = .ok (.iload_n 2, 1) := zdX0_leaveOutWhile_0.2.2.2.2.2.2.2.2.2.2.2.2.2.2.2.2.2.2.2.2.2.2.2.2.2.2.2.2.1
theorem dX0_leaveOutWhile_52 : decode cX0_leaveOutWhile 52 = .ok (.invokevirtual 50, 3) := zdX0_leaveOutWhile_0.2.2.2.2.2.2.2.2.2.2.2.2.2.2.2.2.2.2.2.2.2.2.2.2.2.2.2.2.2.1
set_option maxRecDepth 20000 in
theorem zdX0_leaveOutWhile_55 : dAll cX0_leaveOutWhile [(55, .istore 7, 2), (57, .aload_n 1, 1), (58, .iload 6, 2), (60, .iload 7, 2), (62, .ifCond .ne 7, 3), (65, .iconst 1, 1), (66, .goto 4, 3), (69, .iconst 0, 1), (70, .invokevirtual 46, 3), (73, .iload_n 3, 1), (74, .iload 7, 2), (76, .ifCond .eq 7, 3), (79, .iconst 1, 1), (80, .goto 4, 3), (83, .iconst 0, 1), (84, .iadd, 1), (85, .istore_n 3, 1), (86, .iload 4, 2), (88, .ifCond .ne 8, 3), (91, .iload 7, 2), (93, .ifCond .eq 7, 3), (96, .iconst 1, 1), (97, .goto 4, 3), (100, .iconst 0, 1), (101, .istore 4, 2), (103, .iinc 6 1, 3), (106, .goto (-80), 3), (109, .iinc 5 1, 3), (112, .goto (-104), 3), (115, .iload_n 3, 1)] := dAll_of (by decide +kernel)
theorem dX0_leaveOutWhile_55 : decode cX0_leaveOutWhile 55 = .ok (.istore 7, 2) := zdX0_leaveOutWhile_55.1
theorem dX0_leaveOutWhile_57 : decode cX0_leaveOutWhile 57 = .ok (.aload_n 1, 1) := zdX0_leaveOutWhile_55.2.1
theorem dX0_leaveOutWhile_58 : decode cX0_leaveOutWhile 58 = .ok (.iload 6, 2) := zdX0_leaveOutWhile_55.2.2.1
theorem dX0_leaveOutWhile_60 : decode cX0_leaveOutWhile 60 = .ok (.iload 7, 2) := zdX0_leaveOutWhile_55.2.2.2.1
theorem dX0_leaveOutWhile_62 : decode cX0_leaveOutWhile 62 = .ok (.ifCond .ne 7, 3) := zdX0_leaveOutWhile_55.2.2.2.2.1
theorem dX0_leaveOutWhile_65 : decode cX0_leaveOutWhile 65 = .ok (.iconst 1, 1) := zdX0_leaveOutWhile_55.2.2.2.2.2.1
theorem dX0_leaveOutWhile_66 : decode cX0_leaveOutWhile 66 = .ok (.goto 4, 3) := zdX0_leaveOutWhile_55.2.2.2.2.2.2.1
theorem dX0_leaveOutWhile_69 : decode cX0_leaveOutWhile 69 = .ok (.iconst 0, 1) := zdX0_leaveOutWhile_55.2.2.2.2.2.2.2.1
theorem dX0_leaveOutWhile_70 : decode cX0_leaveOutWhile 70 = .ok (.invokevirtual 46, 3) := zdX0_leaveOutWhile_55.2.2.2.2.2.2.2.2.1
theorem dX0_leaveOutWhile_73 : decode cX0_leaveOutWhile 73 = .ok (.iload_n 3, 1) := zdX0_leaveOutWhile_55.2.2.2.2.2.2.2.2.2.1
theorem dX0_leaveOutWhile_74 : decode cX0_leaveOutWhile 74 = .ok (.iload 7, 2) := zdX0_leaveOutWhile_55.2.2.2.2.2.2.2.2.2.2.1
theorem dX0_leaveOutWhile_76 : decode cX0_leaveOutWhile 76 = .ok (.ifCond .eq 7, 3) := zdX0_leaveOutWhile_55.2.2.2.2.2.2.2.2.2.2.2.1
theorem dX0_leaveOutWhile_79 : decode cX0_leaveOutWhile 79 = .ok (.iconst 1, 1) := zdX0_leaveOutWhile_55.2.2.2.2.2.2.2.2.2.2.2.2.1
theorem dX0_leaveOutWhile_80 : decode cX0_leaveOutWhile 80 = .ok (.goto 4, 3) := zdX0_leaveOutWhile_55.2.2.2.2.2.2.2.2.2.2.2.2.2.1
theorem dX0_leaveOutWhile_83 : decode cX0_leaveOutWhile 83 = .ok (.iconst 0, 1) := zdX0_leaveOutWhile_55.2.2.2.2.2.2.2.2.2.2.2.2.2.2.1
theorem dX0_leaveOutWhile_84 : decode cX0_leaveOutWhile 84 = .ok (.iadd, 1) := zdX0_leaveOutWhile_55.2.2.2.2.2.2.2.2.2.2.2.2.2.2.2.1
theorem dX0_leaveOutWhile_85 : decode cX0_leaveOutWhile 85 = .ok (.istore_n 3, 1) := zdX0_leaveOutWhile_55.2.2.2.2.2.2.2.2.2.2.2.2.2.2.2.2.1
theorem dX0_leaveOutWhile_86 : decode cX0_leaveOutWhile 86 = .ok (.iload 4, 2) := zdX0_leaveOutWhile_55.2.2.2.2.2.2.2.2.2.2.2.2.2.2.2.2.2.1
theorem dX0_leaveOutWhile_88 : decode cX0_leaveOutWhile 88 = .ok (.ifCond .ne 8, 3) := zdX0_leaveOutWhile_55.2.2.2.2.2.2.2.2.2.2.2.2.2.2.2.2.2.2.1
theorem dX0_leaveOutWhile_91 : decode cX0_leaveOutWhile 91 = .ok (.iload 7, 2) := zdX0_leaveOutWhile_55.2.2.2.2.2.2.2.2.2.2.2.2.2.2.2.2.2.2.2.1
theorem dX0_leaveOutWhile_93 : decode cX0_leaveOutWhile 93 = .ok (.ifCond .eq 7, 3) := zdX0_leaveOutWhile_55.2.2.2.2.2.2.2.2.2.2.2.2.2.2.2.2.2.2.2.2.1
theorem dX0_leaveOutWhile_96 : decode cX0_leaveOutWhile 96 = .ok (.iconst 1, 1) := zdX0_leaveOutWhile_55.2.2.2.2.2.2.2.2.2.2.2.2.2.2.2.2.2.2.2.2.2.1
theorem dX0_leaveOutWhile_97 : decode cX0_leaveOutWhile 97 = .ok (.goto 4, 3) := zdX0_leaveOutWhile_55.2.2.2.2.2.2.2.2.2.2.2.2.2.2.2.2.2.2.2.2.2.2.1
theorem dX0_leaveOutWhile_100 : decode cX0_leaveOutWhile 100 = .ok (.iconst 0, 1) := zdX0_leaveOutWhile_55.2.2.2.2.2.2.2.2.2.2.2.2.2.2.2.2.2.2.2.2.2.2.2.1
theorem dX0_leaveOutWhile_101 : decode cX0_leaveOutWhile 101 = .ok (.istore 4, 2) := zdX0_leaveOutWhile_55.2.2.2.2.2.2.2.2.2.2.2.2.2.2.2.2.2.2.2.2.2.2.2.2.1
theorem dX0_leaveOutWhile_103 : decode cX0_leaveOutWhile 103 = .ok (.iinc 6 1, 3) := zdX0_leaveOutWhile_55.2.2.2.2.2.2.2.2.2.2.2.2.2.2.2.2.2.2.2.2.2.2.2.2.2.1
theorem dX0_leaveOutWhile_106 : decode cX0_leaveOutWhile 106 = .ok (.goto (-80), 3) := zdX0_leaveOutWhile_55.2.2.2.2.2.2.2.2.2.2.2.2.2.2.2.2.2.2.2.2.2.2.2.2.2.2.1
theorem dX0_leaveOutWhile_109 : decode cX0_leaveOutWhile 109 = .ok (.iinc 5 1, 3) := zdX0_leaveOutWhile_55.2.2.2.2.2.2.2.2.2.2.2.2.2.2.2.2.2.2.2.2.2.2.2.2.2.2.2.1
theorem dX0_leaveOutWhile_112 : decode cX0_leaveOutWhile 112 = .ok (.goto (-104), 3) := zdX0_leaveOutWhile_55.2.2.2.2.2.2.2.2.2.2.2.2.2.2.2.2.2.2.2.2.2.2.2.2.2.2.2.2.1
theorem dX0_leaveOutWhile_115 : decode cX0_leaveOutWhile 115 = .ok (.iload_n 3, 1) := zdX0_leaveOutWhile_55.2.2.2.2.2.2.2.2.2.2.2.2.2.2.2.2.2.2.2.2.2.2.2.2.2.2.2.2.2.1
theorem dX0_leaveOutWhile_116 : decode cX0_leaveOutWhile 116 = .ok (.ireturn, 1) := by decide +kernel
set_option maxRecDepth 20000 in
theorem ggX0_metresBetween_X5_isThere : GoodIn wsX0_metresBetween wsX5_isThere := goodIn_r _ [6, 7, 8, 9, 10, 46, 47, 48, 49, 50, 51, 52, 53] rfl (by decide +kernel)
set_option maxRecDepth 20000 in
theorem gX0_metresBetween_X5_isThere : GoodIn wsX0_metresBetween (wsV RX0 42 RX5 yX5_isThere wsX5_isThere) := goodIn_app (goodIn_of _ (by decide +kernel)) ggX0_metresBetween_X5_isThere
set_option maxRecDepth 20000 in
theorem ggX0_metresBetween_X5_cornerOf : GoodIn wsX0_metresBetween wsX5_cornerOf := goodIn_r _ [14, 15, 8, 9, 10, 46, 47, 48, 49, 50, 51, 52, 53] rfl (by decide +kernel)
set_option maxRecDepth 20000 in
theorem gX0_metresBetween_X5_cornerOf : GoodIn wsX0_metresBetween (wsV RX0 53 RX5 yX5_cornerOf wsX5_cornerOf) := goodIn_app (goodIn_of _ (by decide +kernel)) ggX0_metresBetween_X5_cornerOf
set_option maxRecDepth 20000 in
theorem ggX0_metresBetween_X3_measureFrom : GoodIn wsX0_metresBetween wsX3_measureFrom := goodIn_r _ [20, 21, 22, 23, 3, 4, 5, 6, 7, 8, 9, 10, 24, 12, 13, 14, 15, 25, 26, 27, 28, 29, 30, 31, 32, 33, 34, 35, 36, 37, 19, 38, 39, 40, 54, 55, 46, 47, 48, 49, 50, 51, 52, 53] rfl (by decide +kernel)
set_option maxRecDepth 20000 in
theorem gX0_metresBetween_X3_measureFrom : GoodIn wsX0_metresBetween (wsV RX0 57 RX3 yX3_measureFrom wsX3_measureFrom) := goodIn_app (goodIn_of _ (by decide +kernel)) ggX0_metresBetween_X3_measureFrom
set_option maxRecDepth 20000 in
theorem ggX0_metresBetween_X3_metresTo : GoodIn wsX0_metresBetween wsX3_metresTo := goodIn_r _ [44, 21, 22, 39, 9, 40, 54, 55] rfl (by decide +kernel)
set_option maxRecDepth 20000 in
theorem gX0_metresBetween_X3_metresTo : GoodIn wsX0_metresBetween (wsV RX0 61 RX3 yX3_metresTo wsX3_metresTo) := goodIn_app (goodIn_of _ (by decide +kernel)) ggX0_metresBetween_X3_metresTo
set_option maxRecDepth 20000 in
theorem zdX0_metresBetween_0 : dAll cX0_metresBetween [(0, .aload_n 1, 1), (1, .iload_n 2, 1), (2, .invokevirtual 42, 3), (5, .ifCond .eq 11, 3), (8, .aload_n 1, 1), (9, .iload_n 3, 1), (10, .invokevirtual 42, 3), (13, .ifCond .ne 5, 3), (16, .iconst (-1), 1), (17, .ireturn, 1), (18, .aload_n 0, 1), (19, .getfield 12, 3), (22, .aload_n 1, 1), (23, .aload_n 1, 1), (24, .iload_n 2, 1), (25, .invokevirtual 53, 3), (28, .invokevirtual 57, 3), (31, .aload_n 0, 1), (32, .getfield 12, 3), (35, .aload_n 1, 1), (36, .iload_n 3, 1), (37, .invokevirtual 53, 3), (40, .invokevirtual 61, 3), (43, .ireturn, 1)] := dAll_of (by decide +kernel)
theorem dX0_metresBetween_0 : decode cX0_metresBetween 0 = .ok (.aload_n 1, 1) := zdX0_metresBetween_0.1
theorem dX0_metresBetween_1 : decode cX0_metresBetween 1 = .ok (.iload_n 2, 1) := zdX0_metresBetween_0.2.1
theorem dX0_metresBetween_2 : decode cX0_metresBetween 2 = .ok (.invokevirtual 42, 3) := zdX0_metresBetween_0.2.2.1
theorem dX0_metresBetween_5 : decode cX0_metresBetween 5 = .ok (.ifCond .eq 11, 3) := zdX0_metresBetween_0.2.2.2.1
theorem dX0_metresBetween_8 : decode cX0_metresBetween 8 = .ok (.aload_n 1, 1) := zdX0_metresBetween_0.2.2.2.2.1
theorem dX0_metresBetween_9 : decode cX0_metresBetween 9 = .ok (.iload_n 3, 1) := zdX0_metresBetween_0.2.2.2.2.2.1
theorem dX0_metresBetween_10 : decode cX0_metresBetween 10 = .ok (.invokevirtual 42, 3) := zdX0_metresBetween_0.2.2.2.2.2.2.1
theorem dX0_metresBetween_13 : decode cX0_metresBetween 13 = .ok (.ifCond .ne 5, 3) := zdX0_metresBetween_0.2.2.2.2.2.2.2.1
theorem dX0_metresBetween_16 : decode cX0_metresBetween 16 = .ok (.iconst (-1), 1) := zdX0_metresBetween_0.2.2.2.2.2.2.2.2.1
theorem dX0_metresBetween_17 : decode cX0_metresBetween 17 = .ok (.ireturn, 1) := zdX0_metresBetween_0.2.2.2.2.2.2.2.2.2.1
theorem dX0_metresBetween_18 : decode cX0_metresBetween 18 = .ok (.aload_n 0, 1) := zdX0_metresBetween_0.2.2.2.2.2.2.2.2.2.2.1
theorem dX0_metresBetween_19 : decode cX0_metresBetween 19 = .ok (.getfield 12, 3) := zdX0_metresBetween_0.2.2.2.2.2.2.2.2.2.2.2.1
theorem dX0_metresBetween_22 : decode cX0_metresBetween 22 = .ok (.aload_n 1, 1) := zdX0_metresBetween_0.2.2.2.2.2.2.2.2.2.2.2.2.1
theorem dX0_metresBetween_23 : decode cX0_metresBetween 23 = .ok (.aload_n 1, 1) := zdX0_metresBetween_0.2.2.2.2.2.2.2.2.2.2.2.2.2.1
theorem dX0_metresBetween_24 : decode cX0_metresBetween 24 = .ok (.iload_n 2, 1) := zdX0_metresBetween_0.2.2.2.2.2.2.2.2.2.2.2.2.2.2.1
theorem dX0_metresBetween_25 : decode cX0_metresBetween 25 = .ok (.invokevirtual 53, 3) := zdX0_metresBetween_0.2.2.2.2.2.2.2.2.2.2.2.2.2.2.2.1
theorem dX0_metresBetween_28 : decode cX0_metresBetween 28 = .ok (.invokevirtual 57, 3) := zdX0_metresBetween_0.2.2.2.2.2.2.2.2.2.2.2.2.2.2.2.2.1
theorem dX0_metresBetween_31 : decode cX0_metresBetween 31 = .ok (.aload_n 0, 1) := zdX0_metresBetween_0.2.2.2.2.2.2.2.2.2.2.2.2.2.2.2.2.2.1
theorem dX0_metresBetween_32 : decode cX0_metresBetween 32 = .ok (.getfield 12, 3) := zdX0_metresBetween_0.2.2.2.2.2.2.2.2.2.2.2.2.2.2.2.2.2.2.1
theorem dX0_metresBetween_35 : decode cX0_metresBetween 35 = .ok (.aload_n 1, 1) := zdX0_metresBetween_0.2.2.2.2.2.2.2.2.2.2.2.2.2.2.2.2.2.2.2.1
theorem dX0_metresBetween_36 : decode cX0_metresBetween 36 = .ok (.iload_n 3, 1) := zdX0_metresBetween_0.2.2.2.2.2.2.2.2.2.2.2.2.2.2.2.2.2.2.2.2.1
theorem dX0_metresBetween_37 : decode cX0_metresBetween 37 = .ok (.invokevirtual 53, 3) := zdX0_metresBetween_0.2.2.2.2.2.2.2.2.2.2.2.2.2.2.2.2.2.2.2.2.2.1
theorem dX0_metresBetween_40 : decode cX0_metresBetween 40 = .ok (.invokevirtual 61, 3) := zdX0_metresBetween_0.2.2.2.2.2.2.2.2.2.2.2.2.2.2.2.2.2.2.2.2.2.2.1
theorem dX0_metresBetween_43 : decode cX0_metresBetween 43 = .ok (.ireturn, 1) := zdX0_metresBetween_0.2.2.2.2.2.2.2.2.2.2.2.2.2.2.2.2.2.2.2.2.2.2.2.1
set_option maxRecDepth 20000 in
theorem ggX0_servedCalls_X3_bringSkills : GoodIn wsX0_servedCalls wsX3_bringSkills := goodIn_r _ [6, 7, 8, 9, 10, 11, 12, 13, 14, 15, 16, 17, 18, 19, 20, 21, 22, 23, 24, 25, 26, 27, 28, 29, 30, 31, 5, 32, 41, 42, 43, 44, 45, 46, 47, 48, 49, 50] rfl (by decide +kernel)
set_option maxRecDepth 20000 in
theorem gX0_servedCalls_X3_bringSkills : GoodIn wsX0_servedCalls (wsV RX0 64 RX3 yX3_bringSkills wsX3_bringSkills) := goodIn_app (goodIn_of _ (by decide +kernel)) ggX0_servedCalls_X3_bringSkills
set_option maxRecDepth 20000 in
theorem ggX0_servedCalls_X5_isThere : GoodIn wsX0_servedCalls wsX5_isThere := goodIn_r _ [20, 21, 14, 15, 16, 43, 44, 45, 46, 47, 48, 49, 50] rfl (by decide +kernel)
set_option maxRecDepth 20000 in
theorem gX0_servedCalls_X5_isThere : GoodIn wsX0_servedCalls (wsV RX0 42 RX5 yX5_isThere wsX5_isThere) := goodIn_app (goodIn_of _ (by decide +kernel)) ggX0_servedCalls_X5_isThere
set_option maxRecDepth 20000 in
theorem ggX0_servedCalls_X5_cornerOf : GoodIn wsX0_servedCalls wsX5_cornerOf := goodIn_r _ [12, 13, 14, 15, 16, 43, 44, 45, 46, 47, 48, 49, 50] rfl (by decide +kernel)
set_option maxRecDepth 20000 in
theorem gX0_servedCalls_X5_cornerOf : GoodIn wsX0_servedCalls (wsV RX0 53 RX5 yX5_cornerOf wsX5_cornerOf) := goodIn_app (goodIn_of _ (by decide +kernel)) ggX0_servedCalls_X5_cornerOf
set_option maxRecDepth 20000 in
theorem ggX0_servedCalls_X5_secondOf : GoodIn wsX0_servedCalls wsX5_secondOf := goodIn_r _ [27, 28, 14, 15, 16, 43, 44, 45, 46, 47, 48, 49, 50] rfl (by decide +kernel)
set_option maxRecDepth 20000 in
theorem gX0_servedCalls_X5_secondOf : GoodIn wsX0_servedCalls (wsV RX0 68 RX5 yX5_secondOf wsX5_secondOf) := goodIn_app (goodIn_of _ (by decide +kernel)) ggX0_servedCalls_X5_secondOf
set_option maxRecDepth 20000 in
theorem ggX0_servedCalls_X3_skillComesTo : GoodIn wsX0_servedCalls wsX3_skillComesTo := goodIn_r _ [39, 7, 22, 15, 23, 41, 42] rfl (by decide +kernel)
set_option maxRecDepth 20000 in
theorem gX0_servedCalls_X3_skillComesTo : GoodIn wsX0_servedCalls (wsV RX0 71 RX3 yX3_skillComesTo wsX3_skillComesTo) := goodIn_app (goodIn_of _ (by decide +kernel)) ggX0_servedCalls_X3_skillComesTo
set_option maxRecDepth 20000 in
theorem zdX0_servedCalls_0 : dAll cX0_servedCalls [(0, .aload_n 0, 1), (1, .getfield 12, 3), (4, .aload_n 1, 1), (5, .invokevirtual 64, 3), (8, .iconst 0, 1), (9, .istore_n 2, 1), (10, .bipush 41, 2), (12, .istore_n 3, 1), (13, .iload_n 3, 1), (14, .bipush 62, 2), (16, .if_icmp .ge 40, 3), (19, .aload_n 1, 1), (20, .iload_n 3, 1), (21, .invokevirtual 42, 3), (24, .ifCond .eq 26, 3), (27, .aload_n 0, 1), (28, .getfield 12, 3), (31, .aload_n 1, 1), (32, .iload_n 3, 1), (33, .invokevirtual 53, 3), (36, .aload_n 1, 1), (37, .iload_n 3, 1), (38, .invokevirtual 68, 3), (41, .invokevirtual 71, 3), (44, .ifCond .eq 6, 3), (47, .iinc 2 1, 3), (50, .iinc 3 1, 3), (53, .goto (-40), 3), (56, .iload_n 2, 1), (57, .ireturn, 1)] := dAll_of (by decide +kernel)
theorem dX0_servedCalls_0 : decode cX0_servedCalls 0 = .ok (.aload_n 0, 1) := zdX0_servedCalls_0.1
theorem dX0_servedCalls_1 : decode cX0_servedCalls 1 = .ok (.getfield 12, 3) := zdX0_servedCalls_0.2.1
theorem dX0_servedCalls_4 : decode cX0_servedCalls 4 = .ok (.aload_n 1, 1) := zdX0_servedCalls_0.2.2.1
theorem dX0_servedCalls_5 : decode cX0_servedCalls 5 = .ok (.invokevirtual 64, 3) := zdX0_servedCalls_0.2.2.2.1
theorem dX0_servedCalls_8 : decode cX0_servedCalls 8 = .ok (.iconst 0, 1) := zdX0_servedCalls_0.2.2.2.2.1
theorem dX0_servedCalls_9 : decode cX0_servedCalls 9 = .ok (.istore_n 2, 1) := zdX0_servedCalls_0.2.2.2.2.2.1
theorem dX0_servedCalls_10 : decode cX0_servedCalls 10 = .ok (.bipush 41, 2) := zdX0_servedCalls_0.2.2.2.2.2.2.1
theorem dX0_servedCalls_12 : decode cX0_servedCalls 12 = .ok (.istore_n 3, 1) := zdX0_servedCalls_0.2.2.2.2.2.2.2.1
theorem dX0_servedCalls_13 : decode cX0_servedCalls 13 = .ok (.iload_n 3, 1) := zdX0_servedCalls_0.2.2.2.2.2.2.2.2.1
theorem dX0_servedCalls_14 : decode cX0_servedCalls 14 = .ok (.bipush 62, 2) := zdX0_servedCalls_0.2.2.2.2.2.2.2.2.2.1
theorem dX0_servedCalls_16 : decode cX0_servedCalls 16 = .ok (.if_icmp .ge 40, 3) := zdX0_servedCalls_0.2.2.2.2.2.2.2.2.2.2.1
theorem dX0_servedCalls_19 : decode cX0_servedCalls 19 = .ok (.aload_n 1, 1) := zdX0_servedCalls_0.2.2.2.2.2.2.2.2.2.2.2.1
theorem dX0_servedCalls_20 : decode cX0_servedCalls 20 = .ok (.iload_n 3, 1) := zdX0_servedCalls_0.2.2.2.2.2.2.2.2.2.2.2.2.1
theorem dX0_servedCalls_21 : decode cX0_servedCalls 21 = .ok (.invokevirtual 42, 3) := zdX0_servedCalls_0.2.2.2.2.2.2.2.2.2.2.2.2.2.1
theorem dX0_servedCalls_24 : decode cX0_servedCalls 24 = .ok (.ifCond .eq 26, 3) := zdX0_servedCalls_0.2.2.2.2.2.2.2.2.2.2.2.2.2.2.1
theorem dX0_servedCalls_27 : decode cX0_servedCalls 27 = .ok (.aload_n 0, 1) := zdX0_servedCalls_0.2.2.2.2.2.2.2.2.2.2.2.2.2.2.2.1
theorem dX0_servedCalls_28 : decode cX0_servedCalls 28 = .ok (.getfield 12, 3) := zdX0_servedCalls_0.2.2.2.2.2.2.2.2.2.2.2.2.2.2.2.2.1
theorem dX0_servedCalls_31 : decode cX0_servedCalls 31 = .ok (.aload_n 1, 1) := zdX0_servedCalls_0.2.2.2.2.2.2.2.2.2.2.2.2.2.2.2.2.2.1
theorem dX0_servedCalls_32 : decode cX0_servedCalls 32 = .ok (.iload_n 3, 1) := zdX0_servedCalls_0.2.2.2.2.2.2.2.2.2.2.2.2.2.2.2.2.2.2.1
theorem dX0_servedCalls_33 : decode cX0_servedCalls 33 = .ok (.invokevirtual 53, 3) := zdX0_servedCalls_0.2.2.2.2.2.2.2.2.2.2.2.2.2.2.2.2.2.2.2.1
theorem dX0_servedCalls_36 : decode cX0_servedCalls 36 = .ok (.aload_n 1, 1) := zdX0_servedCalls_0.2.2.2.2.2.2.2.2.2.2.2.2.2.2.2.2.2.2.2.2.1
theorem dX0_servedCalls_37 : decode cX0_servedCalls 37 = .ok (.iload_n 3, 1) := zdX0_servedCalls_0.2.2.2.2.2.2.2.2.2.2.2.2.2.2.2.2.2.2.2.2.2.1
theorem dX0_servedCalls_38 : decode cX0_servedCalls 38 = .ok (.invokevirtual 68, 3) := zdX0_servedCalls_0.2.2.2.2.2.2.2.2.2.2.2.2.2.2.2.2.2.2.2.2.2.2.1
theorem dX0_servedCalls_41 : decode cX0_servedCalls 41 = .ok (.invokevirtual 71, 3) := zdX0_servedCalls_0.2.2.2.2.2.2.2.2.2.2.2.2.2.2.2.2.2.2.2.2.2.2.2.1
theorem dX0_servedCalls_44 : decode cX0_servedCalls 44 = .ok (.ifCond .eq 6, 3) := zdX0_servedCalls_0.2.2.2.2.2.2.2.2.2.2.2.2.2.2.2.2.2.2.2.2.2.2.2.2.1
theorem dX0_servedCalls_47 : decode cX0_servedCalls 47 = .ok (.iinc 2 1, 3) := zdX0_servedCalls_0.2.2.2.2.2.2.2.2.2.2.2.2.2.2.2.2.2.2.2.2.2.2.2.2.2.1
theorem dX0_servedCalls_50 : decode cX0_servedCalls 50 = .ok (.iinc 3 1, 3) := zdX0_servedCalls_0.2.2.2.2.2.2.2.2.2.2.2.2.2.2.2.2.2.2.2.2.2.2.2.2.2.2.1
theorem dX0_servedCalls_53 : decode cX0_servedCalls 53 = .ok (.goto (-40), 3) := zdX0_servedCalls_0.2.2.2.2.2.2.2.2.2.2.2.2.2.2.2.2.2.2.2.2.2.2.2.2.2.2.2.1
theorem dX0_servedCalls_56 : decode cX0_servedCalls 56 = .ok (.iload_n 2, 1) := zdX0_servedCalls_0.2.2.2.2.2.2.2.2.2.2.2.2.2.2.2.2.2.2.2.2.2.2.2.2.2.2.2.2.1
theorem dX0_servedCalls_57 : decode cX0_servedCalls 57 = .ok (.ireturn, 1) := zdX0_servedCalls_0.2.2.2.2.2.2.2.2.2.2.2.2.2.2.2.2.2.2.2.2.2.2.2.2.2.2.2.2.2.1
set_option maxRecDepth 20000 in
theorem ggX0_bursts_X5_isThere : GoodIn wsX0_bursts wsX5_isThere := goodIn_r _ [5, 6, 7, 8, 9, 19, 20, 21, 22, 23, 24, 25, 26] rfl (by decide +kernel)
set_option maxRecDepth 20000 in
theorem gX0_bursts_X5_isThere : GoodIn wsX0_bursts (wsV RX0 42 RX5 yX5_isThere wsX5_isThere) := goodIn_app (goodIn_of _ (by decide +kernel)) ggX0_bursts_X5_isThere
set_option maxRecDepth 20000 in
theorem ggX0_bursts_X0_hasEarlierOfMinute : GoodIn wsX0_bursts wsX0_hasEarlierOfMinute := goodIn_r _ [13, 1, 2, 3, 4, 5, 6, 7, 8, 9, 14, 15, 16, 17, 18, 19, 20, 21, 22, 23, 24, 25, 26] rfl (by decide +kernel)
set_option maxRecDepth 20000 in
theorem gX0_bursts_X0_hasEarlierOfMinute : GoodIn wsX0_bursts (va_wsS RX0 75 yX0_hasEarlierOfMinute wsX0_hasEarlierOfMinute) := goodIn_app (goodIn_of _ (by decide +kernel)) ggX0_bursts_X0_hasEarlierOfMinute
set_option maxRecDepth 20000 in
theorem zdX0_bursts_0 : dAll cX0_bursts [(0, .iconst 0, 1), (1, .istore_n 2, 1), (2, .bipush 41, 2), (4, .istore_n 3, 1), (5, .iload_n 3, 1), (6, .bipush 62, 2), (8, .if_icmp .ge 28, 3), (11, .aload_n 1, 1), (12, .iload_n 3, 1), (13, .invokevirtual 42, 3), (16, .ifCond .eq 14, 3), (19, .aload_n 1, 1), (20, .iload_n 3, 1), (21, .invokestatic 75, 3), (24, .ifCond .eq 6, 3), (27, .iinc 2 1, 3), (30, .iinc 3 1, 3), (33, .goto (-28), 3), (36, .iload_n 2, 1), (37, .ireturn, 1)] := dAll_of (by decide +kernel)
theorem dX0_bursts_0 : decode cX0_bursts 0 = .ok (.iconst 0, 1) := zdX0_bursts_0.1
theorem dX0_bursts_1 : decode cX0_bursts 1 = .ok (.istore_n 2, 1) := zdX0_bursts_0.2.1
theorem dX0_bursts_2 : decode cX0_bursts 2 = .ok (.bipush 41, 2) := zdX0_bursts_0.2.2.1
theorem dX0_bursts_4 : decode cX0_bursts 4 = .ok (.istore_n 3, 1) := zdX0_bursts_0.2.2.2.1
theorem dX0_bursts_5 : decode cX0_bursts 5 = .ok (.iload_n 3, 1) := zdX0_bursts_0.2.2.2.2.1
theorem dX0_bursts_6 : decode cX0_bursts 6 = .ok (.bipush 62, 2) := zdX0_bursts_0.2.2.2.2.2.1
theorem dX0_bursts_8 : decode cX0_bursts 8 = .ok (.if_icmp .ge 28, 3) := zdX0_bursts_0.2.2.2.2.2.2.1
theorem dX0_bursts_11 : decode cX0_bursts 11 = .ok (.aload_n 1, 1) := zdX0_bursts_0.2.2.2.2.2.2.2.1
theorem dX0_bursts_12 : decode cX0_bursts 12 = .ok (.iload_n 3, 1) := zdX0_bursts_0.2.2.2.2.2.2.2.2.1
theorem dX0_bursts_13 : decode cX0_bursts 13 = .ok (.invokevirtual 42, 3) := zdX0_bursts_0.2.2.2.2.2.2.2.2.2.1
theorem dX0_bursts_16 : decode cX0_bursts 16 = .ok (.ifCond .eq 14, 3) := zdX0_bursts_0.2.2.2.2.2.2.2.2.2.2.1
theorem dX0_bursts_19 : decode cX0_bursts 19 = .ok (.aload_n 1, 1) := zdX0_bursts_0.2.2.2.2.2.2.2.2.2.2.2.1
theorem dX0_bursts_20 : decode cX0_bursts 20 = .ok (.iload_n 3, 1) := zdX0_bursts_0.2.2.2.2.2.2.2.2.2.2.2.2.1
theorem dX0_bursts_21 : decode cX0_bursts 21 = .ok (.invokestatic 75, 3) := zdX0_bursts_0.2.2.2.2.2.2.2.2.2.2.2.2.2.1
theorem dX0_bursts_24 : decode cX0_bursts 24 = .ok (.ifCond .eq 6, 3) := zdX0_bursts_0.2.2.2.2.2.2.2.2.2.2.2.2.2.2.1
theorem dX0_bursts_27 : decode cX0_bursts 27 = .ok (.iinc 2 1, 3) := zdX0_bursts_0.2.2.2.2.2.2.2.2.2.2.2.2.2.2.2.1
theorem dX0_bursts_30 : decode cX0_bursts 30 = .ok (.iinc 3 1, 3) := zdX0_bursts_0.2.2.2.2.2.2.2.2.2.2.2.2.2.2.2.2.1
theorem dX0_bursts_33 : decode cX0_bursts 33 = .ok (.goto (-28), 3) := zdX0_bursts_0.2.2.2.2.2.2.2.2.2.2.2.2.2.2.2.2.2.1
theorem dX0_bursts_36 : decode cX0_bursts 36 = .ok (.iload_n 2, 1) := zdX0_bursts_0.2.2.2.2.2.2.2.2.2.2.2.2.2.2.2.2.2.2.1
theorem dX0_bursts_37 : decode cX0_bursts 37 = .ok (.ireturn, 1) := zdX0_bursts_0.2.2.2.2.2.2.2.2.2.2.2.2.2.2.2.2.2.2.2.1
set_option maxRecDepth 20000 in
theorem ggX0_hasEarlierOfMinute_X5_isThere : GoodIn wsX0_hasEarlierOfMinute wsX5_isThere := goodIn_r _ [5, 6, 7, 8, 9, 15, 16, 17, 18, 19, 20, 21, 22] rfl (by decide +kernel)
set_option maxRecDepth 20000 in
theorem gX0_hasEarlierOfMinute_X5_isThere : GoodIn wsX0_hasEarlierOfMinute (wsV RX0 42 RX5 yX5_isThere wsX5_isThere) := goodIn_app (goodIn_of _ (by decide +kernel)) ggX0_hasEarlierOfMinute_X5_isThere
set_option maxRecDepth 20000 in
theorem ggX0_hasEarlierOfMinute_X5_thirdOf : GoodIn wsX0_hasEarlierOfMinute wsX5_thirdOf := goodIn_r _ [13, 14, 7, 8, 9, 15, 16, 17, 18, 19, 20, 21, 22] rfl (by decide +kernel)
set_option maxRecDepth 20000 in
theorem gX0_hasEarlierOfMinute_X5_thirdOf : GoodIn wsX0_hasEarlierOfMinute (wsV RX0 78 RX5 yX5_thirdOf wsX5_thirdOf) := goodIn_app (goodIn_of _ (by decide +kernel)) ggX0_hasEarlierOfMinute_X5_thirdOf
set_option maxRecDepth 20000 in
theorem zdX0_hasEarlierOfMinute_0 : dAll cX0_hasEarlierOfMinute [(0, .bipush 41, 2), (2, .istore_n 2, 1), (3, .iload_n 2, 1), (4, .iload_n 1, 1), (5, .if_icmp .ge 32, 3), (8, .aload_n 0, 1), (9, .iload_n 2, 1), (10, .invokevirtual 42, 3), (13, .ifCond .eq 18, 3), (16, .aload_n 0, 1), (17, .iload_n 2, 1), (18, .invokevirtual 78, 3), (21, .aload_n 0, 1), (22, .iload_n 1, 1), (23, .invokevirtual 78, 3), (26, .if_icmp .ne 5, 3), (29, .iconst 1, 1), (30, .ireturn, 1), (31, .iinc 2 1, 3), (34, .goto (-31), 3), (37, .iconst 0, 1), (38, .ireturn, 1)] := dAll_of (by decide +kernel)
theorem dX0_hasEarlierOfMinute_0 : decode cX0_hasEarlierOfMinute 0 = .ok (.bipush 41, 2) := zdX0_hasEarlierOfMinute_0.1
theorem dX0_hasEarlierOfMinute_2 : decode cX0_hasEarlierOfMinute 2 = .ok (.istore_n 2, 1) := zdX0_hasEarlierOfMinute_0.2.1
theorem dX0_hasEarlierOfMinute_3 : decode cX0_hasEarlierOfMinute 3 = .ok (.iload_n 2, 1) := zdX0_hasEarlierOfMinute_0.2.2.1
theorem dX0_hasEarlierOfMinute_4 : decode cX0_hasEarlierOfMinute 4 = .ok (.iload_n 1, 1) := zdX0_hasEarlierOfMinute_0.2.2.2.1
theorem dX0_hasEarlierOfMinute_5 : decode cX0_hasEarlierOfMinute 5 = .ok (.if_icmp .ge 32, 3) := zdX0_hasEarlierOfMinute_0.2.2.2.2.1
theorem dX0_hasEarlierOfMinute_8 : decode cX0_hasEarlierOfMinute 8 = .ok (.aload_n 0, 1) := zdX0_hasEarlierOfMinute_0.2.2.2.2.2.1
theorem dX0_hasEarlierOfMinute_9 : decode cX0_hasEarlierOfMinute 9 = .ok (.iload_n 2, 1) := zdX0_hasEarlierOfMinute_0.2.2.2.2.2.2.1
theorem dX0_hasEarlierOfMinute_10 : decode cX0_hasEarlierOfMinute 10 = .ok (.invokevirtual 42, 3) := zdX0_hasEarlierOfMinute_0.2.2.2.2.2.2.2.1
theorem dX0_hasEarlierOfMinute_13 : decode cX0_hasEarlierOfMinute 13 = .ok (.ifCond .eq 18, 3) := zdX0_hasEarlierOfMinute_0.2.2.2.2.2.2.2.2.1
theorem dX0_hasEarlierOfMinute_16 : decode cX0_hasEarlierOfMinute 16 = .ok (.aload_n 0, 1) := zdX0_hasEarlierOfMinute_0.2.2.2.2.2.2.2.2.2.1
theorem dX0_hasEarlierOfMinute_17 : decode cX0_hasEarlierOfMinute 17 = .ok (.iload_n 2, 1) := zdX0_hasEarlierOfMinute_0.2.2.2.2.2.2.2.2.2.2.1
theorem dX0_hasEarlierOfMinute_18 : decode cX0_hasEarlierOfMinute 18 = .ok (.invokevirtual 78, 3) := zdX0_hasEarlierOfMinute_0.2.2.2.2.2.2.2.2.2.2.2.1
theorem dX0_hasEarlierOfMinute_21 : decode cX0_hasEarlierOfMinute 21 = .ok (.aload_n 0, 1) := zdX0_hasEarlierOfMinute_0.2.2.2.2.2.2.2.2.2.2.2.2.1
theorem dX0_hasEarlierOfMinute_22 : decode cX0_hasEarlierOfMinute 22 = .ok (.iload_n 1, 1) := zdX0_hasEarlierOfMinute_0.2.2.2.2.2.2.2.2.2.2.2.2.2.1
theorem dX0_hasEarlierOfMinute_23 : decode cX0_hasEarlierOfMinute 23 = .ok (.invokevirtual 78, 3) := zdX0_hasEarlierOfMinute_0.2.2.2.2.2.2.2.2.2.2.2.2.2.2.1
theorem dX0_hasEarlierOfMinute_26 : decode cX0_hasEarlierOfMinute 26 = .ok (.if_icmp .ne 5, 3) := zdX0_hasEarlierOfMinute_0.2.2.2.2.2.2.2.2.2.2.2.2.2.2.2.1
theorem dX0_hasEarlierOfMinute_29 : decode cX0_hasEarlierOfMinute 29 = .ok (.iconst 1, 1) := zdX0_hasEarlierOfMinute_0.2.2.2.2.2.2.2.2.2.2.2.2.2.2.2.2.1
theorem dX0_hasEarlierOfMinute_30 : decode cX0_hasEarlierOfMinute 30 = .ok (.ireturn, 1) := zdX0_hasEarlierOfMinute_0.2.2.2.2.2.2.2.2.2.2.2.2.2.2.2.2.2.1
theorem dX0_hasEarlierOfMinute_31 : decode cX0_hasEarlierOfMinute 31 = .ok (.iinc 2 1, 3) := zdX0_hasEarlierOfMinute_0.2.2.2.2.2.2.2.2.2.2.2.2.2.2.2.2.2.2.1
theorem dX0_hasEarlierOfMinute_34 : decode cX0_hasEarlierOfMinute 34 = .ok (.goto (-31), 3) := zdX0_hasEarlierOfMinute_0.2.2.2.2.2.2.2.2.2.2.2.2.2.2.2.2.2.2.2.1
theorem dX0_hasEarlierOfMinute_37 : decode cX0_hasEarlierOfMinute 37 = .ok (.iconst 0, 1) := zdX0_hasEarlierOfMinute_0.2.2.2.2.2.2.2.2.2.2.2.2.2.2.2.2.2.2.2.2.1
theorem dX0_hasEarlierOfMinute_38 : decode cX0_hasEarlierOfMinute 38 = .ok (.ireturn, 1) := zdX0_hasEarlierOfMinute_0.2.2.2.2.2.2.2.2.2.2.2.2.2.2.2.2.2.2.2.2.2.1
set_option maxRecDepth 20000 in
theorem ggX0_someCallsMeet_X5_isThere : GoodIn wsX0_someCallsMeet wsX5_isThere := goodIn_r _ [5, 6, 7, 8, 9, 24, 25, 26, 27, 28, 29, 30, 31] rfl (by decide +kernel)
set_option maxRecDepth 20000 in
theorem gX0_someCallsMeet_X5_isThere : GoodIn wsX0_someCallsMeet (wsV RX0 42 RX5 yX5_isThere wsX5_isThere) := goodIn_app (goodIn_of _ (by decide +kernel)) ggX0_someCallsMeet_X5_isThere
set_option maxRecDepth 20000 in
theorem ggX0_someCallsMeet_X0_meetsEarlier : GoodIn wsX0_someCallsMeet wsX0_meetsEarlier := goodIn_r _ [13, 1, 2, 3, 4, 5, 6, 7, 8, 9, 14, 15, 16, 17, 18, 19, 20, 21, 22, 23, 24, 25, 26, 27, 28, 29, 30, 31] rfl (by decide +kernel)
set_option maxRecDepth 20000 in
theorem gX0_someCallsMeet_X0_meetsEarlier : GoodIn wsX0_someCallsMeet (va_wsS RX0 81 yX0_meetsEarlier wsX0_meetsEarlier) := goodIn_app (goodIn_of _ (by decide +kernel)) ggX0_someCallsMeet_X0_meetsEarlier
set_option maxRecDepth 20000 in
theorem zdX0_someCallsMeet_0 : dAll cX0_someCallsMeet [(0, .bipush 41, 2), (2, .istore_n 1, 1), (3, .iload_n 1, 1), (4, .bipush 62, 2), (6, .if_icmp .ge 27, 3), (9, .aload_n 0, 1), (10, .iload_n 1, 1), (11, .invokevirtual 42, 3), (14, .ifCond .eq 13, 3), (17, .aload_n 0, 1), (18, .iload_n 1, 1), (19, .invokestatic 81, 3), (22, .ifCond .eq 5, 3), (25, .iconst 1, 1), (26, .ireturn, 1), (27, .iinc 1 1, 3), (30, .goto (-27), 3), (33, .iconst 0, 1), (34, .ireturn, 1)] := dAll_of (by decide +kernel)
theorem dX0_someCallsMeet_0 : decode cX0_someCallsMeet 0 = .ok (.bipush 41, 2) := zdX0_someCallsMeet_0.1
theorem dX0_someCallsMeet_2 : decode cX0_someCallsMeet 2 = .ok (.istore_n 1, 1) := zdX0_someCallsMeet_0.2.1
theorem dX0_someCallsMeet_3 : decode cX0_someCallsMeet 3 = .ok (.iload_n 1, 1) := zdX0_someCallsMeet_0.2.2.1
theorem dX0_someCallsMeet_4 : decode cX0_someCallsMeet 4 = .ok (.bipush 62, 2) := zdX0_someCallsMeet_0.2.2.2.1
theorem dX0_someCallsMeet_6 : decode cX0_someCallsMeet 6 = .ok (.if_icmp .ge 27, 3) := zdX0_someCallsMeet_0.2.2.2.2.1
theorem dX0_someCallsMeet_9 : decode cX0_someCallsMeet 9 = .ok (.aload_n 0, 1) := zdX0_someCallsMeet_0.2.2.2.2.2.1
theorem dX0_someCallsMeet_10 : decode cX0_someCallsMeet 10 = .ok (.iload_n 1, 1) := zdX0_someCallsMeet_0.2.2.2.2.2.2.1
theorem dX0_someCallsMeet_11 : decode cX0_someCallsMeet 11 = .ok (.invokevirtual 42, 3) := zdX0_someCallsMeet_0.2.2.2.2.2.2.2.1
theorem dX0_someCallsMeet_14 : decode cX0_someCallsMeet 14 = .ok (.ifCond .eq 13, 3) := zdX0_someCallsMeet_0.2.2.2.2.2.2.2.2.1
theorem dX0_someCallsMeet_17 : decode cX0_someCallsMeet 17 = .ok (.aload_n 0, 1) := zdX0_someCallsMeet_0.2.2.2.2.2.2.2.2.2.1
theorem dX0_someCallsMeet_18 : decode cX0_someCallsMeet 18 = .ok (.iload_n 1, 1) := zdX0_someCallsMeet_0.2.2.2.2.2.2.2.2.2.2.1
theorem dX0_someCallsMeet_19 : decode cX0_someCallsMeet 19 = .ok (.invokestatic 81, 3) := zdX0_someCallsMeet_0.2.2.2.2.2.2.2.2.2.2.2.1
theorem dX0_someCallsMeet_22 : decode cX0_someCallsMeet 22 = .ok (.ifCond .eq 5, 3) := zdX0_someCallsMeet_0.2.2.2.2.2.2.2.2.2.2.2.2.1
theorem dX0_someCallsMeet_25 : decode cX0_someCallsMeet 25 = .ok (.iconst 1, 1) := zdX0_someCallsMeet_0.2.2.2.2.2.2.2.2.2.2.2.2.2.1
theorem dX0_someCallsMeet_26 : decode cX0_someCallsMeet 26 = .ok (.ireturn, 1) := zdX0_someCallsMeet_0.2.2.2.2.2.2.2.2.2.2.2.2.2.2.1
theorem dX0_someCallsMeet_27 : decode cX0_someCallsMeet 27 = .ok (.iinc 1 1, 3) := zdX0_someCallsMeet_0.2.2.2.2.2.2.2.2.2.2.2.2.2.2.2.1
theorem dX0_someCallsMeet_30 : decode cX0_someCallsMeet 30 = .ok (.goto (-27), 3) := zdX0_someCallsMeet_0.2.2.2.2.2.2.2.2.2.2.2.2.2.2.2.2.1
theorem dX0_someCallsMeet_33 : decode cX0_someCallsMeet 33 = .ok (.iconst 0, 1) := zdX0_someCallsMeet_0.2.2.2.2.2.2.2.2.2.2.2.2.2.2.2.2.2.1
theorem dX0_someCallsMeet_34 : decode cX0_someCallsMeet 34 = .ok (.ireturn, 1) := zdX0_someCallsMeet_0.2.2.2.2.2.2.2.2.2.2.2.2.2.2.2.2.2.2.1
set_option maxRecDepth 20000 in
theorem ggX0_meetsEarlier_X5_isThere : GoodIn wsX0_meetsEarlier wsX5_isThere := goodIn_r _ [5, 6, 7, 8, 9, 20, 21, 22, 23, 24, 25, 26, 27] rfl (by decide +kernel)
set_option maxRecDepth 20000 in
theorem gX0_meetsEarlier_X5_isThere : GoodIn wsX0_meetsEarlier (wsV RX0 42 RX5 yX5_isThere wsX5_isThere) := goodIn_app (goodIn_of _ (by decide +kernel)) ggX0_meetsEarlier_X5_isThere
set_option maxRecDepth 20000 in
theorem ggX0_meetsEarlier_X5_thirdOf : GoodIn wsX0_meetsEarlier wsX5_thirdOf := goodIn_r _ [13, 14, 7, 8, 9, 20, 21, 22, 23, 24, 25, 26, 27] rfl (by decide +kernel)
set_option maxRecDepth 20000 in
theorem gX0_meetsEarlier_X5_thirdOf : GoodIn wsX0_meetsEarlier (wsV RX0 78 RX5 yX5_thirdOf wsX5_thirdOf) := goodIn_app (goodIn_of _ (by decide +kernel)) ggX0_meetsEarlier_X5_thirdOf
set_option maxRecDepth 20000 in
theorem ggX0_meetsEarlier_X5_cornerOf : GoodIn wsX0_meetsEarlier wsX5_cornerOf := goodIn_r _ [18, 19, 7, 8, 9, 20, 21, 22, 23, 24, 25, 26, 27] rfl (by decide +kernel)
set_option maxRecDepth 20000 in
theorem gX0_meetsEarlier_X5_cornerOf : GoodIn wsX0_meetsEarlier (wsV RX0 53 RX5 yX5_cornerOf wsX5_cornerOf) := goodIn_app (goodIn_of _ (by decide +kernel)) ggX0_meetsEarlier_X5_cornerOf
set_option maxRecDepth 20000 in
theorem zdX0_meetsEarlier_0 : dAll cX0_meetsEarlier [(0, .bipush 41, 2), (2, .istore_n 2, 1), (3, .iload_n 2, 1), (4, .iload_n 1, 1), (5, .if_icmp .ge 45, 3), (8, .aload_n 0, 1), (9, .iload_n 2, 1), (10, .invokevirtual 42, 3), (13, .ifCond .eq 31, 3), (16, .aload_n 0, 1), (17, .iload_n 2, 1), (18, .invokevirtual 78, 3), (21, .aload_n 0, 1), (22, .iload_n 1, 1), (23, .invokevirtual 78, 3), (26, .if_icmp .ne 18, 3), (29, .aload_n 0, 1), (30, .iload_n 2, 1), (31, .invokevirtual 53, 3), (34, .aload_n 0, 1), (35, .iload_n 1, 1), (36, .invokevirtual 53, 3), (39, .if_icmp .ne 5, 3), (42, .iconst 1, 1), (43, .ireturn, 1), (44, .iinc 2 1, 3), (47, .goto (-44), 3), (50, .iconst 0, 1), (51, .ireturn, 1)] := dAll_of (by decide +kernel)
theorem dX0_meetsEarlier_0 : decode cX0_meetsEarlier 0 = .ok (.bipush 41, 2) := zdX0_meetsEarlier_0.1
theorem dX0_meetsEarlier_2 : decode cX0_meetsEarlier 2 = .ok (.istore_n 2, 1) := zdX0_meetsEarlier_0.2.1
theorem dX0_meetsEarlier_3 : decode cX0_meetsEarlier 3 = .ok (.iload_n 2, 1) := zdX0_meetsEarlier_0.2.2.1
theorem dX0_meetsEarlier_4 : decode cX0_meetsEarlier 4 = .ok (.iload_n 1, 1) := zdX0_meetsEarlier_0.2.2.2.1
theorem dX0_meetsEarlier_5 : decode cX0_meetsEarlier 5 = .ok (.if_icmp .ge 45, 3) := zdX0_meetsEarlier_0.2.2.2.2.1
theorem dX0_meetsEarlier_8 : decode cX0_meetsEarlier 8 = .ok (.aload_n 0, 1) := zdX0_meetsEarlier_0.2.2.2.2.2.1
theorem dX0_meetsEarlier_9 : decode cX0_meetsEarlier 9 = .ok (.iload_n 2, 1) := zdX0_meetsEarlier_0.2.2.2.2.2.2.1
theorem dX0_meetsEarlier_10 : decode cX0_meetsEarlier 10 = .ok (.invokevirtual 42, 3) := zdX0_meetsEarlier_0.2.2.2.2.2.2.2.1
theorem dX0_meetsEarlier_13 : decode cX0_meetsEarlier 13 = .ok (.ifCond .eq 31, 3) := zdX0_meetsEarlier_0.2.2.2.2.2.2.2.2.1
theorem dX0_meetsEarlier_16 : decode cX0_meetsEarlier 16 = .ok (.aload_n 0, 1) := zdX0_meetsEarlier_0.2.2.2.2.2.2.2.2.2.1
theorem dX0_meetsEarlier_17 : decode cX0_meetsEarlier 17 = .ok (.iload_n 2, 1) := zdX0_meetsEarlier_0.2.2.2.2.2.2.2.2.2.2.1
theorem dX0_meetsEarlier_18 : decode cX0_meetsEarlier 18 = .ok (.invokevirtual 78, 3) := zdX0_meetsEarlier_0.2.2.2.2.2.2.2.2.2.2.2.1
theorem dX0_meetsEarlier_21 : decode cX0_meetsEarlier 21 = .ok (.aload_n 0, 1) := zdX0_meetsEarlier_0.2.2.2.2.2.2.2.2.2.2.2.2.1
theorem dX0_meetsEarlier_22 : decode cX0_meetsEarlier 22 = .ok (.iload_n 1, 1) := zdX0_meetsEarlier_0.2.2.2.2.2.2.2.2.2.2.2.2.2.1
theorem dX0_meetsEarlier_23 : decode cX0_meetsEarlier 23 = .ok (.invokevirtual 78, 3) := zdX0_meetsEarlier_0.2.2.2.2.2.2.2.2.2.2.2.2.2.2.1
theorem dX0_meetsEarlier_26 : decode cX0_meetsEarlier 26 = .ok (.if_icmp .ne 18, 3) := zdX0_meetsEarlier_0.2.2.2.2.2.2.2.2.2.2.2.2.2.2.2.1
theorem dX0_meetsEarlier_29 : decode cX0_meetsEarlier 29 = .ok (.aload_n 0, 1) := zdX0_meetsEarlier_0.2.2.2.2.2.2.2.2.2.2.2.2.2.2.2.2.1
theorem dX0_meetsEarlier_30 : decode cX0_meetsEarlier 30 = .ok (.iload_n 2, 1) := zdX0_meetsEarlier_0.2.2.2.2.2.2.2.2.2.2.2.2.2.2.2.2.2.1
theorem dX0_meetsEarlier_31 : decode cX0_meetsEarlier 31 = .ok (.invokevirtual 53, 3) := zdX0_meetsEarlier_0.2.2.2.2.2.2.2.2.2.2.2.2.2.2.2.2.2.2.1
theorem dX0_meetsEarlier_34 : decode cX0_meetsEarlier 34 = .ok (.aload_n 0, 1) := zdX0_meetsEarlier_0.2.2.2.2.2.2.2.2.2.2.2.2.2.2.2.2.2.2.2.1
theorem dX0_meetsEarlier_35 : decode cX0_meetsEarlier 35 = .ok (.iload_n 1, 1) := zdX0_meetsEarlier_0.2.2.2.2.2.2.2.2.2.2.2.2.2.2.2.2.2.2.2.2.1
theorem dX0_meetsEarlier_36 : decode cX0_meetsEarlier 36 = .ok (.invokevirtual 53, 3) := zdX0_meetsEarlier_0.2.2.2.2.2.2.2.2.2.2.2.2.2.2.2.2.2.2.2.2.2.1
theorem dX0_meetsEarlier_39 : decode cX0_meetsEarlier 39 = .ok (.if_icmp .ne 5, 3) := zdX0_meetsEarlier_0.2.2.2.2.2.2.2.2.2.2.2.2.2.2.2.2.2.2.2.2.2.2.1
theorem dX0_meetsEarlier_42 : decode cX0_meetsEarlier 42 = .ok (.iconst 1, 1) := zdX0_meetsEarlier_0.2.2.2.2.2.2.2.2.2.2.2.2.2.2.2.2.2.2.2.2.2.2.2.1
theorem dX0_meetsEarlier_43 : decode cX0_meetsEarlier 43 = .ok (.ireturn, 1) := zdX0_meetsEarlier_0.2.2.2.2.2.2.2.2.2.2.2.2.2.2.2.2.2.2.2.2.2.2.2.2.1
theorem dX0_meetsEarlier_44 : decode cX0_meetsEarlier 44 = .ok (.iinc 2 1, 3) := zdX0_meetsEarlier_0.2.2.2.2.2.2.2.2.2.2.2.2.2.2.2.2.2.2.2.2.2.2.2.2.2.1
theorem dX0_meetsEarlier_47 : decode cX0_meetsEarlier 47 = .ok (.goto (-44), 3) := zdX0_meetsEarlier_0.2.2.2.2.2.2.2.2.2.2.2.2.2.2.2.2.2.2.2.2.2.2.2.2.2.2.1
theorem dX0_meetsEarlier_50 : decode cX0_meetsEarlier 50 = .ok (.iconst 0, 1) := zdX0_meetsEarlier_0.2.2.2.2.2.2.2.2.2.2.2.2.2.2.2.2.2.2.2.2.2.2.2.2.2.2.2.1
theorem dX0_meetsEarlier_51 : decode cX0_meetsEarlier 51 = .ok (.ireturn, 1) := zdX0_meetsEarlier_0.2.2.2.2.2.2.2.2.2.2.2.2.2.2.2.2.2.2.2.2.2.2.2.2.2.2.2.2.1
set_option maxRecDepth 20000 in
theorem ggX0_someUnitHas_X5_isThere : GoodIn wsX0_someUnitHas wsX5_isThere := goodIn_r _ [5, 6, 7, 8, 9, 15, 16, 17, 18, 19, 20, 21, 22] rfl (by decide +kernel)
set_option maxRecDepth 20000 in
theorem gX0_someUnitHas_X5_isThere : GoodIn wsX0_someUnitHas (wsV RX0 42 RX5 yX5_isThere wsX5_isThere) := goodIn_app (goodIn_of _ (by decide +kernel)) ggX0_someUnitHas_X5_isThere
set_option maxRecDepth 20000 in
theorem ggX0_someUnitHas_X5_secondOf : GoodIn wsX0_someUnitHas wsX5_secondOf := goodIn_r _ [13, 14, 7, 8, 9, 15, 16, 17, 18, 19, 20, 21, 22] rfl (by decide +kernel)
set_option maxRecDepth 20000 in
theorem gX0_someUnitHas_X5_secondOf : GoodIn wsX0_someUnitHas (wsV RX0 68 RX5 yX5_secondOf wsX5_secondOf) := goodIn_app (goodIn_of _ (by decide +kernel)) ggX0_someUnitHas_X5_secondOf
set_option maxRecDepth 20000 in
theorem zdX0_someUnitHas_0 : dAll cX0_someUnitHas [(0, .bipush 30, 2), (2, .istore_n 2, 1), (3, .iload_n 2, 1), (4, .bipush 41, 2), (6, .if_icmp .ge 32, 3), (9, .aload_n 0, 1), (10, .iload_n 2, 1), (11, .invokevirtual 42, 3), (14, .ifCond .eq 18, 3), (17, .aload_n 0, 1), (18, .iload_n 2, 1), (19, .invokevirtual 68, 3), (22, .iload_n 1, 1), (23, .ishr, 1), (24, .iconst 1, 1), (25, .iand, 1), (26, .iconst 1, 1), (27, .if_icmp .ne 5, 3), (30, .iconst 1, 1), (31, .ireturn, 1), (32, .iinc 2 1, 3), (35, .goto (-32), 3), (38, .iconst 0, 1), (39, .ireturn, 1)] := dAll_of (by decide +kernel)
theorem dX0_someUnitHas_0 : decode cX0_someUnitHas 0 = .ok (.bipush 30, 2) := zdX0_someUnitHas_0.1
theorem dX0_someUnitHas_2 : decode cX0_someUnitHas 2 = .ok (.istore_n 2, 1) := zdX0_someUnitHas_0.2.1
theorem dX0_someUnitHas_3 : decode cX0_someUnitHas 3 = .ok (.iload_n 2, 1) := zdX0_someUnitHas_0.2.2.1
theorem dX0_someUnitHas_4 : decode cX0_someUnitHas 4 = .ok (.bipush 41, 2) := zdX0_someUnitHas_0.2.2.2.1
theorem dX0_someUnitHas_6 : decode cX0_someUnitHas 6 = .ok (.if_icmp .ge 32, 3) := zdX0_someUnitHas_0.2.2.2.2.1
theorem dX0_someUnitHas_9 : decode cX0_someUnitHas 9 = .ok (.aload_n 0, 1) := zdX0_someUnitHas_0.2.2.2.2.2.1
theorem dX0_someUnitHas_10 : decode cX0_someUnitHas 10 = .ok (.iload_n 2, 1) := zdX0_someUnitHas_0.2.2.2.2.2.2.1
theorem dX0_someUnitHas_11 : decode cX0_someUnitHas 11 = .ok (.invokevirtual 42, 3) := zdX0_someUnitHas_0.2.2.2.2.2.2.2.1
theorem dX0_someUnitHas_14 : decode cX0_someUnitHas 14 = .ok (.ifCond .eq 18, 3) := zdX0_someUnitHas_0.2.2.2.2.2.2.2.2.1
theorem dX0_someUnitHas_17 : decode cX0_someUnitHas 17 = .ok (.aload_n 0, 1) := zdX0_someUnitHas_0.2.2.2.2.2.2.2.2.2.1
theorem dX0_someUnitHas_18 : decode cX0_someUnitHas 18 = .ok (.iload_n 2, 1) := zdX0_someUnitHas_0.2.2.2.2.2.2.2.2.2.2.1
theorem dX0_someUnitHas_19 : decode cX0_someUnitHas 19 = .ok (.invokevirtual 68, 3) := zdX0_someUnitHas_0.2.2.2.2.2.2.2.2.2.2.2.1
theorem dX0_someUnitHas_22 : decode cX0_someUnitHas 22 = .ok (.iload_n 1, 1) := zdX0_someUnitHas_0.2.2.2.2.2.2.2.2.2.2.2.2.1
theorem dX0_someUnitHas_23 : decode cX0_someUnitHas 23 = .ok (.ishr, 1) := zdX0_someUnitHas_0.2.2.2.2.2.2.2.2.2.2.2.2.2.1
theorem dX0_someUnitHas_24 : decode cX0_someUnitHas 24 = .ok (.iconst 1, 1) := zdX0_someUnitHas_0.2.2.2.2.2.2.2.2.2.2.2.2.2.2.1
theorem dX0_someUnitHas_25 : decode cX0_someUnitHas 25 = .ok (.iand, 1) := zdX0_someUnitHas_0.2.2.2.2.2.2.2.2.2.2.2.2.2.2.2.1
theorem dX0_someUnitHas_26 : decode cX0_someUnitHas 26 = .ok (.iconst 1, 1) := zdX0_someUnitHas_0.2.2.2.2.2.2.2.2.2.2.2.2.2.2.2.2.1
theorem dX0_someUnitHas_27 : decode cX0_someUnitHas 27 = .ok (.if_icmp .ne 5, 3) := zdX0_someUnitHas_0.2.2.2.2.2.2.2.2.2.2.2.2.2.2.2.2.2.1
theorem dX0_someUnitHas_30 : decode cX0_someUnitHas 30 = .ok (.iconst 1, 1) := zdX0_someUnitHas_0.2.2.2.2.2.2.2.2.2.2.2.2.2.2.2.2.2.2.1
theorem dX0_someUnitHas_31 : decode cX0_someUnitHas 31 = .ok (.ireturn, 1) := zdX0_someUnitHas_0.2.2.2.2.2.2.2.2.2.2.2.2.2.2.2.2.2.2.2.1
theorem dX0_someUnitHas_32 : decode cX0_someUnitHas 32 = .ok (.iinc 2 1, 3) := zdX0_someUnitHas_0.2.2.2.2.2.2.2.2.2.2.2.2.2.2.2.2.2.2.2.2.1
theorem dX0_someUnitHas_35 : decode cX0_someUnitHas 35 = .ok (.goto (-32), 3) := zdX0_someUnitHas_0.2.2.2.2.2.2.2.2.2.2.2.2.2.2.2.2.2.2.2.2.2.1
theorem dX0_someUnitHas_38 : decode cX0_someUnitHas 38 = .ok (.iconst 0, 1) := zdX0_someUnitHas_0.2.2.2.2.2.2.2.2.2.2.2.2.2.2.2.2.2.2.2.2.2.2.1
theorem dX0_someUnitHas_39 : decode cX0_someUnitHas 39 = .ok (.ireturn, 1) := zdX0_someUnitHas_0.2.2.2.2.2.2.2.2.2.2.2.2.2.2.2.2.2.2.2.2.2.2.2.1
set_option maxRecDepth 20000 in
theorem ggX0_someWayIsLong_X5_isThere : GoodIn wsX0_someWayIsLong wsX5_isThere := goodIn_r _ [6, 7, 8, 9, 10, 46, 47, 48, 49, 50, 51, 52, 53] rfl (by decide +kernel)
set_option maxRecDepth 20000 in
theorem gX0_someWayIsLong_X5_isThere : GoodIn wsX0_someWayIsLong (wsV RX0 42 RX5 yX5_isThere wsX5_isThere) := goodIn_app (goodIn_of _ (by decide +kernel)) ggX0_someWayIsLong_X5_isThere
set_option maxRecDepth 20000 in
theorem ggX0_someWayIsLong_X5_cornerOf : GoodIn wsX0_someWayIsLong wsX5_cornerOf := goodIn_r _ [14, 15, 8, 9, 10, 46, 47, 48, 49, 50, 51, 52, 53] rfl (by decide +kernel)
set_option maxRecDepth 20000 in
theorem gX0_someWayIsLong_X5_cornerOf : GoodIn wsX0_someWayIsLong (wsV RX0 53 RX5 yX5_cornerOf wsX5_cornerOf) := goodIn_app (goodIn_of _ (by decide +kernel)) ggX0_someWayIsLong_X5_cornerOf
set_option maxRecDepth 20000 in
theorem ggX0_someWayIsLong_X3_measureFrom : GoodIn wsX0_someWayIsLong wsX3_measureFrom := goodIn_r _ [20, 21, 22, 23, 3, 4, 5, 6, 7, 8, 9, 10, 24, 12, 13, 14, 15, 25, 26, 27, 28, 29, 30, 31, 32, 33, 34, 35, 36, 37, 19, 38, 39, 40, 54, 55, 46, 47, 48, 49, 50, 51, 52, 53] rfl (by decide +kernel)
set_option maxRecDepth 20000 in
theorem gX0_someWayIsLong_X3_measureFrom : GoodIn wsX0_someWayIsLong (wsV RX0 57 RX3 yX3_measureFrom wsX3_measureFrom) := goodIn_app (goodIn_of _ (by decide +kernel)) ggX0_someWayIsLong_X3_measureFrom
set_option maxRecDepth 20000 in
theorem ggX0_someWayIsLong_X3_metresTo : GoodIn wsX0_someWayIsLong wsX3_metresTo := goodIn_r _ [44, 21, 22, 39, 9, 40, 54, 55] rfl (by decide +kernel)
set_option maxRecDepth 20000 in
theorem gX0_someWayIsLong_X3_metresTo : GoodIn wsX0_someWayIsLong (wsV RX0 61 RX3 yX3_metresTo wsX3_metresTo) := goodIn_app (goodIn_of _ (by decide +kernel)) ggX0_someWayIsLong_X3_metresTo
set_option maxRecDepth 20000 in
theorem zdX0_someWayIsLong_0 : dAll cX0_someWayIsLong [(0, .bipush 30, 2), (2, .istore_n 2, 1), (3, .iload_n 2, 1), (4, .bipush 41, 2), (6, .if_icmp .ge 72, 3), (9, .aload_n 1, 1), (10, .iload_n 2, 1), (11, .invokevirtual 42, 3), (14, .ifCond .eq 58, 3), (17, .aload_n 0, 1), (18, .getfield 12, 3), (21, .aload_n 1, 1), (22, .aload_n 1, 1), (23, .iload_n 2, 1), (24, .invokevirtual 53, 3), (27, .invokevirtual 57, 3), (30, .bipush 41, 2), (32, .istore_n 3, 1), (33, .iload_n 3, 1), (34, .bipush 62, 2), (36, .if_icmp .ge 36, 3), (39, .aload_n 1, 1), (40, .iload_n 3, 1), (41, .invokevirtual 42, 3), (44, .ifCond .eq 22, 3), (47, .aload_n 0, 1), (48, .getfield 12, 3), (51, .aload_n 1, 1), (52, .iload_n 3, 1), (53, .invokevirtual 53, 3)] := dAll_of (by decide +kernel)
theorem dX0_someWayIsLong_0 : decode cX0_someWayIsLong 0 = .ok (.bipush 30, 2) := zdX0_someWayIsLong_0.1
theorem dX0_someWayIsLong_2 : decode cX0_someWayIsLong 2 = .ok (.istore_n 2, 1) := zdX0_someWayIsLong_0.2.1
theorem dX0_someWayIsLong_3 : decode cX0_someWayIsLong 3 = .ok (.iload_n 2, 1) := zdX0_someWayIsLong_0.2.2.1
theorem dX0_someWayIsLong_4 : decode cX0_someWayIsLong 4 = .ok (.bipush 41, 2) := zdX0_someWayIsLong_0.2.2.2.1
theorem dX0_someWayIsLong_6 : decode cX0_someWayIsLong 6 = .ok (.if_icmp .ge 72, 3) := zdX0_someWayIsLong_0.2.2.2.2.1
theorem dX0_someWayIsLong_9 : decode cX0_someWayIsLong 9 = .ok (.aload_n 1, 1) := zdX0_someWayIsLong_0.2.2.2.2.2.1
theorem dX0_someWayIsLong_10 : decode cX0_someWayIsLong 10 = .ok (.iload_n 2, 1) := zdX0_someWayIsLong_0.2.2.2.2.2.2.1
theorem dX0_someWayIsLong_11 : decode cX0_someWayIsLong 11 = .ok (.invokevirtual 42, 3) := zdX0_someWayIsLong_0.2.2.2.2.2.2.2.1
theorem dX0_someWayIsLong_14 : decode cX0_someWayIsLong 14 = .ok (.ifCond .eq 58, 3) := zdX0_someWayIsLong_0.2.2.2.2.2.2.2.2.1
theorem dX0_someWayIsLong_17 : decode cX0_someWayIsLong 17 = .ok (.aload_n 0, 1) := zdX0_someWayIsLong_0.2.2.2.2.2.2.2.2.2.1
theorem dX0_someWayIsLong_18 : decode cX0_someWayIsLong 18 = .ok (.getfield 12, 3) := zdX0_someWayIsLong_0.2.2.2.2.2.2.2.2.2.2.1
theorem dX0_someWayIsLong_21 : decode cX0_someWayIsLong 21 = .ok (.aload_n 1, 1) := zdX0_someWayIsLong_0.2.2.2.2.2.2.2.2.2.2.2.1
theorem dX0_someWayIsLong_22 : decode cX0_someWayIsLong 22 = .ok (.aload_n 1, 1) := zdX0_someWayIsLong_0.2.2.2.2.2.2.2.2.2.2.2.2.1
theorem dX0_someWayIsLong_23 : decode cX0_someWayIsLong 23 = .ok (.iload_n 2, 1) := zdX0_someWayIsLong_0.2.2.2.2.2.2.2.2.2.2.2.2.2.1
theorem dX0_someWayIsLong_24 : decode cX0_someWayIsLong 24 = .ok (.invokevirtual 53, 3) := zdX0_someWayIsLong_0.2.2.2.2.2.2.2.2.2.2.2.2.2.2.1
theorem dX0_someWayIsLong_27 : decode cX0_someWayIsLong 27 = .ok (.invokevirtual 57, 3) := zdX0_someWayIsLong_0.2.2.2.2.2.2.2.2.2.2.2.2.2.2.2.1
theorem dX0_someWayIsLong_30 : decode cX0_someWayIsLong 30 = .ok (.bipush 41, 2) := zdX0_someWayIsLong_0.2.2.2.2.2.2.2.2.2.2.2.2.2.2.2.2.1
theorem dX0_someWayIsLong_32 : decode cX0_someWayIsLong 32 = .ok (.istore_n 3, 1) := zdX0_someWayIsLong_0.2.2.2.2.2.2.2.2.2.2.2.2.2.2.2.2.2.1
theorem dX0_someWayIsLong_33 : decode cX0_someWayIsLong 33 = .ok (.iload_n 3, 1) := zdX0_someWayIsLong_0.2.2.2.2.2.2.2.2.2.2.2.2.2.2.2.2.2.2.1
theorem dX0_someWayIsLong_34 : decode cX0_someWayIsLong 34 = .ok (.bipush 62, 2) := zdX0_someWayIsLong_0.2.2.2.2.2.2.2.2.2.2.2.2.2.2.2.2.2.2.2.1
theorem dX0_someWayIsLong_36 : decode cX0_someWayIsLong 36 = .ok (.if_icmp .ge 36, 3) := zdX0_someWayIsLong_0.2.2.2.2.2.2.2.2.2.2.2.2.2.2.2.2.2.2.2.2.1
theorem dX0_someWayIsLong_39 : decode cX0_someWayIsLong 39 = .ok (.aload_n 1, 1) := zdX0_someWayIsLong_0.2.2.2.2.2.2.2.2.2.2.2.2.2.2.2.2.2.2.2.2.2.1
theorem dX0_someWayIsLong_40 : decode cX0_someWayIsLong 40 = .ok (.iload_n 3, 1) := zdX0_someWayIsLong_0.2.2.2.2.2.2.2.2.2.2.2.2.2.2.2.2.2.2.2.2.2.2.1
theorem dX0_someWayIsLong_41 : decode cX0_someWayIsLong 41 = .ok (.invokevirtual 42, 3) := zdX0_someWayIsLong_0.2.2.2.2.2.2.2.2.2.2.2.2.2.2.2.2.2.2.2.2.2.2.2.1
theorem dX0_someWayIsLong_44 : decode cX0_someWayIsLong 44 = .ok (.ifCond .eq 22, 3) := zdX0_someWayIsLong_0.2.2.2.2.2.2.2.2.2.2.2.2.2.2.2.2.2.2.2.2.2.2.2.2.1
theorem dX0_someWayIsLong_47 : decode cX0_someWayIsLong 47 = .ok (.aload_n 0, 1) := zdX0_someWayIsLong_0.2.2.2.2.2.2.2.2.2.2.2.2.2.2.2.2.2.2.2.2.2.2.2.2.2.1
theorem dX0_someWayIsLong_48 : decode cX0_someWayIsLong 48 = .ok (.getfield 12, 3) := zdX0_someWayIsLong_0.2.2.2.2.2.2.2.2.2.2.2.2.2.2.2.2.2.2.2.2.2.2.2.2.2.2.1
theorem dX0_someWayIsLong_51 : decode cX0_someWayIsLong 51 = .ok (.aload_n 1, 1) := zdX0_someWayIsLong_0.2.2.2.2.2.2.2.2.2.2.2.2.2.2.2.2.2.2.2.2.2.2.2.2.2.2.2.1
theorem dX0_someWayIsLong_52 : decode cX0_someWayIsLong 52 = .ok (.iload_n 3, 1) := zdX0_someWayIsLong_0.2.2.2.2.2.2.2.2.2.2.2.2.2.2.2.2.2.2.2.2.2.2.2.2.2.2.2.2.1
theorem dX0_someWayIsLong_53 : decode cX0_someWayIsLong 53 = .ok (.invokevirtual 53, 3) := zdX0_someWayIsLong_0.2.2.2.2.2.2.2.2.2.2.2.2.2.2.2.2.2.2.2.2.2.2.2.2.2.2.2.2.2.1
set_option maxRecDepth 20000 in
theorem zdX0_someWayIsLong_56 : dAll cX0_someWayIsLong [(56, .invokevirtual 61, 3), (59, .bipush 99, 2), (61, .if_icmp .le 5, 3), (64, .iconst 1, 1), (65, .ireturn, 1), (66, .iinc 3 1, 3), (69, .goto (-36), 3), (72, .iinc 2 1, 3), (75, .goto (-72), 3), (78, .iconst 0, 1), (79, .ireturn, 1)] := dAll_of (by decide +kernel)
theorem dX0_someWayIsLong_56 : decode cX0_someWayIsLong 56 = .ok (.invokevirtual 61, 3) := zdX0_someWayIsLong_56.1
theorem dX0_someWayIsLong_59 : decode cX0_someWayIsLong 59 = .ok (.bipush 99, 2) := zdX0_someWayIsLong_56.2.1
theorem dX0_someWayIsLong_61 : decode cX0_someWayIsLong 61 = .ok (.if_icmp .le 5, 3) := zdX0_someWayIsLong_56.2.2.1
theorem dX0_someWayIsLong_64 : decode cX0_someWayIsLong 64 = .ok (.iconst 1, 1) := zdX0_someWayIsLong_56.2.2.2.1
theorem dX0_someWayIsLong_65 : decode cX0_someWayIsLong 65 = .ok (.ireturn, 1) := zdX0_someWayIsLong_56.2.2.2.2.1
theorem dX0_someWayIsLong_66 : decode cX0_someWayIsLong 66 = .ok (.iinc 3 1, 3) := zdX0_someWayIsLong_56.2.2.2.2.2.1
theorem dX0_someWayIsLong_69 : decode cX0_someWayIsLong 69 = .ok (.goto (-36), 3) := zdX0_someWayIsLong_56.2.2.2.2.2.2.1
theorem dX0_someWayIsLong_72 : decode cX0_someWayIsLong 72 = .ok (.iinc 2 1, 3) := zdX0_someWayIsLong_56.2.2.2.2.2.2.2.1
theorem dX0_someWayIsLong_75 : decode cX0_someWayIsLong 75 = .ok (.goto (-72), 3) := zdX0_someWayIsLong_56.2.2.2.2.2.2.2.2.1
theorem dX0_someWayIsLong_78 : decode cX0_someWayIsLong 78 = .ok (.iconst 0, 1) := zdX0_someWayIsLong_56.2.2.2.2.2.2.2.2.2.1
theorem dX0_someWayIsLong_79 : decode cX0_someWayIsLong 79 = .ok (.ireturn, 1) := zdX0_someWayIsLong_56.2.2.2.2.2.2.2.2.2.2.1
set_option maxRecDepth 20000 in
theorem ggX0_metresOfStreets_X5_isThere : GoodIn wsX0_metresOfStreets wsX5_isThere := goodIn_r _ [5, 6, 7, 8, 9, 15, 16, 17, 18, 19, 20, 21, 22] rfl (by decide +kernel)
set_option maxRecDepth 20000 in
theorem gX0_metresOfStreets_X5_isThere : GoodIn wsX0_metresOfStreets (wsV RX0 42 RX5 yX5_isThere wsX5_isThere) := goodIn_app (goodIn_of _ (by decide +kernel)) ggX0_metresOfStreets_X5_isThere
set_option maxRecDepth 20000 in
theorem ggX0_metresOfStreets_X5_thirdOf : GoodIn wsX0_metresOfStreets wsX5_thirdOf := goodIn_r _ [13, 14, 7, 8, 9, 15, 16, 17, 18, 19, 20, 21, 22] rfl (by decide +kernel)
set_option maxRecDepth 20000 in
theorem gX0_metresOfStreets_X5_thirdOf : GoodIn wsX0_metresOfStreets (wsV RX0 78 RX5 yX5_thirdOf wsX5_thirdOf) := goodIn_app (goodIn_of _ (by decide +kernel)) ggX0_metresOfStreets_X5_thirdOf
set_option maxRecDepth 20000 in
theorem zdX0_metresOfStreets_0 : dAll cX0_metresOfStreets [(0, .iconst 0, 1), (1, .istore_n 1, 1), (2, .iconst 0, 1), (3, .istore_n 2, 1), (4, .iload_n 2, 1), (5, .bipush 30, 2), (7, .if_icmp .ge 25, 3), (10, .aload_n 0, 1), (11, .iload_n 2, 1), (12, .invokevirtual 42, 3), (15, .ifCond .eq 11, 3), (18, .iload_n 1, 1), (19, .aload_n 0, 1), (20, .iload_n 2, 1), (21, .invokevirtual 78, 3), (24, .iadd, 1), (25, .istore_n 1, 1), (26, .iinc 2 1, 3), (29, .goto (-25), 3), (32, .iload_n 1, 1), (33, .ireturn, 1)] := dAll_of (by decide +kernel)
theorem dX0_metresOfStreets_0 : decode cX0_metresOfStreets 0 = .ok (.iconst 0, 1) := zdX0_metresOfStreets_0.1
theorem dX0_metresOfStreets_1 : decode cX0_metresOfStreets 1 = .ok (.istore_n 1, 1) := zdX0_metresOfStreets_0.2.1
theorem dX0_metresOfStreets_2 : decode cX0_metresOfStreets 2 = .ok (.iconst 0, 1) := zdX0_metresOfStreets_0.2.2.1
theorem dX0_metresOfStreets_3 : decode cX0_metresOfStreets 3 = .ok (.istore_n 2, 1) := zdX0_metresOfStreets_0.2.2.2.1
theorem dX0_metresOfStreets_4 : decode cX0_metresOfStreets 4 = .ok (.iload_n 2, 1) := zdX0_metresOfStreets_0.2.2.2.2.1
theorem dX0_metresOfStreets_5 : decode cX0_metresOfStreets 5 = .ok (.bipush 30, 2) := zdX0_metresOfStreets_0.2.2.2.2.2.1
theorem dX0_metresOfStreets_7 : decode cX0_metresOfStreets 7 = .ok (.if_icmp .ge 25, 3) := zdX0_metresOfStreets_0.2.2.2.2.2.2.1
theorem dX0_metresOfStreets_10 : decode cX0_metresOfStreets 10 = .ok (.aload_n 0, 1) := zdX0_metresOfStreets_0.2.2.2.2.2.2.2.1
theorem dX0_metresOfStreets_11 : decode cX0_metresOfStreets 11 = .ok (.iload_n 2, 1) := zdX0_metresOfStreets_0.2.2.2.2.2.2.2.2.1
theorem dX0_metresOfStreets_12 : decode cX0_metresOfStreets 12 = .ok (.invokevirtual 42, 3) := zdX0_metresOfStreets_0.2.2.2.2.2.2.2.2.2.1
theorem dX0_metresOfStreets_15 : decode cX0_metresOfStreets 15 = .ok (.ifCond .eq 11, 3) := zdX0_metresOfStreets_0.2.2.2.2.2.2.2.2.2.2.1
theorem dX0_metresOfStreets_18 : decode cX0_metresOfStreets 18 = .ok (.iload_n 1, 1) := zdX0_metresOfStreets_0.2.2.2.2.2.2.2.2.2.2.2.1
theorem dX0_metresOfStreets_19 : decode cX0_metresOfStreets 19 = .ok (.aload_n 0, 1) := zdX0_metresOfStreets_0.2.2.2.2.2.2.2.2.2.2.2.2.1
theorem dX0_metresOfStreets_20 : decode cX0_metresOfStreets 20 = .ok (.iload_n 2, 1) := zdX0_metresOfStreets_0.2.2.2.2.2.2.2.2.2.2.2.2.2.1
theorem dX0_metresOfStreets_21 : decode cX0_metresOfStreets 21 = .ok (.invokevirtual 78, 3) := zdX0_metresOfStreets_0.2.2.2.2.2.2.2.2.2.2.2.2.2.2.1
theorem dX0_metresOfStreets_24 : decode cX0_metresOfStreets 24 = .ok (.iadd, 1) := zdX0_metresOfStreets_0.2.2.2.2.2.2.2.2.2.2.2.2.2.2.2.1
theorem dX0_metresOfStreets_25 : decode cX0_metresOfStreets 25 = .ok (.istore_n 1, 1) := zdX0_metresOfStreets_0.2.2.2.2.2.2.2.2.2.2.2.2.2.2.2.2.1
theorem dX0_metresOfStreets_26 : decode cX0_metresOfStreets 26 = .ok (.iinc 2 1, 3) := zdX0_metresOfStreets_0.2.2.2.2.2.2.2.2.2.2.2.2.2.2.2.2.2.1
theorem dX0_metresOfStreets_29 : decode cX0_metresOfStreets 29 = .ok (.goto (-25), 3) := zdX0_metresOfStreets_0.2.2.2.2.2.2.2.2.2.2.2.2.2.2.2.2.2.2.1
theorem dX0_metresOfStreets_32 : decode cX0_metresOfStreets 32 = .ok (.iload_n 1, 1) := zdX0_metresOfStreets_0.2.2.2.2.2.2.2.2.2.2.2.2.2.2.2.2.2.2.2.1
theorem dX0_metresOfStreets_33 : decode cX0_metresOfStreets 33 = .ok (.ireturn, 1) := zdX0_metresOfStreets_0.2.2.2.2.2.2.2.2.2.2.2.2.2.2.2.2.2.2.2.2.1
set_option maxRecDepth 20000 in
theorem ggX1_init_X4_init : GoodIn wsX1_init wsX4_init := goodIn_r _ [10, 11, 2, 3, 12, 13, 14, 15] rfl (by decide +kernel)
set_option maxRecDepth 20000 in
theorem gX1_init_X4_init : GoodIn wsX1_init (wsX4_init) := ggX1_init_X4_init
set_option maxRecDepth 20000 in
theorem zdX1_init_0 : dAll cX1_init [(0, .aload_n 0, 1), (1, .invokespecial 3, 3), (4, .aload_n 0, 1), (5, .new 9, 3), (8, .dup, 1), (9, .invokespecial 11, 3), (12, .putfield 12, 3), (15, .return_, 1)] := dAll_of (by decide +kernel)
theorem dX1_init_0 : decode cX1_init 0 = .ok (.aload_n 0, 1) := zdX1_init_0.1
theorem dX1_init_1 : decode cX1_init 1 = .ok (.invokespecial 3, 3) := zdX1_init_0.2.1
theorem dX1_init_4 : decode cX1_init 4 = .ok (.aload_n 0, 1) := zdX1_init_0.2.2.1
theorem dX1_init_5 : decode cX1_init 5 = .ok (.new 9, 3) := zdX1_init_0.2.2.2.1
theorem dX1_init_8 : decode cX1_init 8 = .ok (.dup, 1) := zdX1_init_0.2.2.2.2.1
theorem dX1_init_9 : decode cX1_init 9 = .ok (.invokespecial 11, 3) := zdX1_init_0.2.2.2.2.2.1
theorem dX1_init_12 : decode cX1_init 12 = .ok (.putfield 12, 3) := zdX1_init_0.2.2.2.2.2.2.1
theorem dX1_init_15 : decode cX1_init 15 = .ok (.return_, 1) := zdX1_init_0.2.2.2.2.2.2.2.1
