set_option maxRecDepth 20000 in
theorem zdX6_at_10 : dAll cX6_at [(10, .invokespecial 52, 3), (13, .athrow, 1), (14, .aload_n 0, 1), (15, .getfield 29, 3), (18, .getfield 132, 3), (21, .iload_n 1, 1), (22, .invokevirtual 143, 3), (25, .ireturn, 1)] := dAll_of (by decide +kernel)
theorem dX6_at_10 : decode cX6_at 10 = .ok (.invokespecial 52, 3) := zdX6_at_10.1
theorem dX6_at_13 : decode cX6_at 13 = .ok (.athrow, 1) := zdX6_at_10.2.1
theorem dX6_at_14 : decode cX6_at 14 = .ok (.aload_n 0, 1) := zdX6_at_10.2.2.1
theorem dX6_at_15 : decode cX6_at 15 = .ok (.getfield 29, 3) := zdX6_at_10.2.2.2.1
theorem dX6_at_18 : decode cX6_at 18 = .ok (.getfield 132, 3) := zdX6_at_10.2.2.2.2.1
theorem dX6_at_21 : decode cX6_at 21 = .ok (.iload_n 1, 1) := zdX6_at_10.2.2.2.2.2.1
theorem dX6_at_22 : decode cX6_at 22 = .ok (.invokevirtual 143, 3) := zdX6_at_10.2.2.2.2.2.2.1
theorem dX6_at_25 : decode cX6_at 25 = .ok (.ireturn, 1) := zdX6_at_10.2.2.2.2.2.2.2.1
set_option maxRecDepth 20000 in
theorem ggX6_sign_X4_length : GoodIn wsX6_sign wsX4_length := goodIn_r _ [10, 11, 28, 29] rfl (by decide +kernel)
set_option maxRecDepth 20000 in
theorem gX6_sign_X4_length : GoodIn wsX6_sign (wsV RX6 136 RX4 yX4_length wsX4_length) := goodIn_app (goodIn_of _ (by decide +kernel)) ggX6_sign_X4_length
set_option maxRecDepth 20000 in
theorem ggX6_sign_X4_add : GoodIn wsX6_sign wsX4_add := goodIn_r _ [15, 11, 16, 28, 29] rfl (by decide +kernel)
set_option maxRecDepth 20000 in
theorem gX6_sign_X4_add : GoodIn wsX6_sign (wsV RX6 156 RX4 yX4_add wsX4_add) := goodIn_app (goodIn_of _ (by decide +kernel)) ggX6_sign_X4_add
set_option maxRecDepth 20000 in
theorem zdX6_sign_0 : dAll cX6_sign [(0, .iload_n 3, 1), (1, .iconst 1, 1), (2, .if_icmp .lt 9, 3), (5, .iload_n 3, 1), (6, .bipush 8, 2), (8, .if_icmp .le 13, 3), (11, .new 48, 3), (14, .dup, 1), (15, .ldc 146, 2), (17, .invokespecial 52, 3), (20, .athrow, 1), (21, .iload_n 3, 1), (22, .sipush 600, 3), (25, .aload_n 0, 1), (26, .getfield 36, 3), (29, .getfield 148, 3), (32, .invokevirtual 136, 3), (35, .isub, 1), (36, .if_icmp .le 13, 3), (39, .new 151, 3), (42, .dup, 1), (43, .ldc 153, 2), (45, .invokespecial 155, 3), (48, .athrow, 1), (49, .iload_n 3, 1), (50, .iconst 1, 1), (51, .isub, 1), (52, .istore 4, 2), (54, .iload 4, 2), (56, .ifCond .lt 31, 3)] := dAll_of (by decide +kernel)
theorem dX6_sign_0 : decode cX6_sign 0 = .ok (.iload_n 3, 1) := zdX6_sign_0.1
theorem dX6_sign_1 : decode cX6_sign 1 = .ok (.iconst 1, 1) := zdX6_sign_0.2.1
theorem dX6_sign_2 : decode cX6_sign 2 = .ok (.if_icmp .lt 9, 3) := zdX6_sign_0.2.2.1
theorem dX6_sign_5 : decode cX6_sign 5 = .ok (.iload_n 3, 1) := zdX6_sign_0.2.2.2.1
theorem dX6_sign_6 : decode cX6_sign 6 = .ok (.bipush 8, 2) := zdX6_sign_0.2.2.2.2.1
theorem dX6_sign_8 : decode cX6_sign 8 = .ok (.if_icmp .le 13, 3) := zdX6_sign_0.2.2.2.2.2.1
theorem dX6_sign_11 : decode cX6_sign 11 = .ok (.new 48, 3) := zdX6_sign_0.2.2.2.2.2.2.1
theorem dX6_sign_14 : decode cX6_sign 14 = .ok (.dup, 1) := zdX6_sign_0.2.2.2.2.2.2.2.1
theorem dX6_sign_15 : decode cX6_sign 15 = .ok (.ldc 146, 2) := zdX6_sign_0.2.2.2.2.2.2.2.2.1
theorem dX6_sign_17 : decode cX6_sign 17 = .ok (.invokespecial 52, 3) := zdX6_sign_0.2.2.2.2.2.2.2.2.2.1
theorem dX6_sign_20 : decode cX6_sign 20 = .ok (.athrow, 1) := zdX6_sign_0.2.2.2.2.2.2.2.2.2.2.1
theorem dX6_sign_21 : decode cX6_sign 21 = .ok (.iload_n 3, 1) := zdX6_sign_0.2.2.2.2.2.2.2.2.2.2.2.1
theorem dX6_sign_22 : decode cX6_sign 22 = .ok (.sipush 600, 3) := zdX6_sign_0.2.2.2.2.2.2.2.2.2.2.2.2.1
theorem dX6_sign_25 : decode cX6_sign 25 = .ok (.aload_n 0, 1) := zdX6_sign_0.2.2.2.2.2.2.2.2.2.2.2.2.2.1
theorem dX6_sign_26 : decode cX6_sign 26 = .ok (.getfield 36, 3) := zdX6_sign_0.2.2.2.2.2.2.2.2.2.2.2.2.2.2.1
theorem dX6_sign_29 : decode cX6_sign 29 = .ok (.getfield 148, 3) := zdX6_sign_0.2.2.2.2.2.2.2.2.2.2.2.2.2.2.2.1
theorem dX6_sign_32 : decode cX6_sign 32 = .ok (.invokevirtual 136, 3) := zdX6_sign_0.2.2.2.2.2.2.2.2.2.2.2.2.2.2.2.2.1
theorem dX6_sign_35 : decode cX6_sign 35 = .ok (.isub, 1) := zdX6_sign_0.2.2.2.2.2.2.2.2.2.2.2.2.2.2.2.2.2.1
theorem dX6_sign_36 : decode cX6_sign 36 = .ok (.if_icmp .le 13, 3) := zdX6_sign_0.2.2.2.2.2.2.2.2.2.2.2.2.2.2.2.2.2.2.1
theorem dX6_sign_39 : decode cX6_sign 39 = .ok (.new 151, 3) := zdX6_sign_0.2.2.2.2.2.2.2.2.2.2.2.2.2.2.2.2.2.2.2.1
theorem dX6_sign_42 : decode cX6_sign 42 = .ok (.dup, 1) := zdX6_sign_0.2.2.2.2.2.2.2.2.2.2.2.2.2.2.2.2.2.2.2.2.1
theorem dX6_sign_43 : decode cX6_sign 43 = .ok (.ldc 153, 2) := zdX6_sign_0.2.2.2.2.2.2.2.2.2.2.2.2.2.2.2.2.2.2.2.2.2.1
theorem dX6_sign_45 : decode cX6_sign 45 = .ok (.invokespecial 155, 3) := zdX6_sign_0.2.2.2.2.2.2.2.2.2.2.2.2.2.2.2.2.2.2.2.2.2.2.1
theorem dX6_sign_48 : decode cX6_sign 48 = .ok (.athrow, 1) := zdX6_sign_0.2.2.2.2.2.2.2.2.2.2.2.2.2.2.2.2.2.2.2.2.2.2.2.1
theorem dX6_sign_49 : decode cX6_sign 49 = .ok (.iload_n 3, 1) := zdX6_sign_0.2.2.2.2.2.2.2.2.2.2.2.2.2.2.2.2.2.2.2.2.2.2.2.2.1
theorem dX6_sign_50 : decode cX6_sign 50 = .ok (.iconst 1, 1) := zdX6_sign_0.2.2.2.2.2.2.2.2.2.2.2.2.2.2.2.2.2.2.2.2.2.2.2.2.2.1
theorem dX6_sign_51 : decode cX6_sign 51 = .ok (.isub, 1) := zdX6_sign_0.2.2.2.2.2.2.2.2.2.2.2.2.2.2.2.2.2.2.2.2.2.2.2.2.2.2.1
theorem dX6_sign_52 : decode cX6_sign 52 = .ok (.istore 4, 2) := zdX6_sign_0.2.2.2.2.2.2.2.2.2.2.2.2.2.2.2.2.2.2.2.2.2.2.2.2.2.2.2.1
theorem dX6_sign_54 : decode cX6_sign 54 = .ok (.iload 4, 2) := zdX6_sign_0.2.2.2.2.2.2.2.2.2.2.2.2.2.2.2.2.2.2.2.2.2.2.2.2.2.2.2.2.1
theorem dX6_sign_56 : decode cX6_sign 56 = .ok (.ifCond .lt 31, 3) := zdX6_sign_0.2.2.2.2.2.2.2.2.2.2.2.2.2.2.2.2.2.2.2.2.2.2.2.2.2.2.2.2.2.1
set_option maxRecDepth 20000 in
theorem zdX6_sign_59 : dAll cX6_sign [(59, .aload_n 0, 1), (60, .getfield 36, 3), (63, .getfield 148, 3), (66, .lload_n 1, 1), (67, .bipush 8, 2), (69, .iload 4, 2), (71, .imul, 1), (72, .lushr, 1), (73, .l2i, 1), (74, .sipush 255, 3), (77, .iand, 1), (78, .invokevirtual 156, 3), (81, .iinc 4 (-1), 3), (84, .goto (-30), 3), (87, .aload_n 0, 1), (88, .getfield 36, 3), (91, .getfield 148, 3), (94, .invokevirtual 136, 3), (97, .ireturn, 1)] := dAll_of (by decide +kernel)
theorem dX6_sign_59 : decode cX6_sign 59 = .ok (.aload_n 0, 1) := zdX6_sign_59.1
theorem dX6_sign_60 : decode cX6_sign 60 = .ok (.getfield 36, 3) := zdX6_sign_59.2.1
theorem dX6_sign_63 : decode cX6_sign 63 = .ok (.getfield 148, 3) := zdX6_sign_59.2.2.1
theorem dX6_sign_66 : decode cX6_sign 66 = .ok (.lload_n 1, 1) := zdX6_sign_59.2.2.2.1
theorem dX6_sign_67 : decode cX6_sign 67 = .ok (.bipush 8, 2) := zdX6_sign_59.2.2.2.2.1
theorem dX6_sign_69 : decode cX6_sign 69 = .ok (.iload 4, 2) := zdX6_sign_59.2.2.2.2.2.1
theorem dX6_sign_71 : decode cX6_sign 71 = .ok (.imul, 1) := zdX6_sign_59.2.2.2.2.2.2.1
theorem dX6_sign_72 : decode cX6_sign 72 = .ok (.lushr, 1) := zdX6_sign_59.2.2.2.2.2.2.2.1
theorem dX6_sign_73 : decode cX6_sign 73 = .ok (.l2i, 1) := zdX6_sign_59.2.2.2.2.2.2.2.2.1
theorem dX6_sign_74 : decode cX6_sign 74 = .ok (.sipush 255, 3) := zdX6_sign_59.2.2.2.2.2.2.2.2.2.1
theorem dX6_sign_77 : decode cX6_sign 77 = .ok (.iand, 1) := zdX6_sign_59.2.2.2.2.2.2.2.2.2.2.1
theorem dX6_sign_78 : decode cX6_sign 78 = .ok (.invokevirtual 156, 3) := zdX6_sign_59.2.2.2.2.2.2.2.2.2.2.2.1
theorem dX6_sign_81 : decode cX6_sign 81 = .ok (.iinc 4 (-1), 3) := zdX6_sign_59.2.2.2.2.2.2.2.2.2.2.2.2.1
theorem dX6_sign_84 : decode cX6_sign 84 = .ok (.goto (-30), 3) := zdX6_sign_59.2.2.2.2.2.2.2.2.2.2.2.2.2.1
theorem dX6_sign_87 : decode cX6_sign 87 = .ok (.aload_n 0, 1) := zdX6_sign_59.2.2.2.2.2.2.2.2.2.2.2.2.2.2.1
theorem dX6_sign_88 : decode cX6_sign 88 = .ok (.getfield 36, 3) := zdX6_sign_59.2.2.2.2.2.2.2.2.2.2.2.2.2.2.2.1
theorem dX6_sign_91 : decode cX6_sign 91 = .ok (.getfield 148, 3) := zdX6_sign_59.2.2.2.2.2.2.2.2.2.2.2.2.2.2.2.2.1
theorem dX6_sign_94 : decode cX6_sign 94 = .ok (.invokevirtual 136, 3) := zdX6_sign_59.2.2.2.2.2.2.2.2.2.2.2.2.2.2.2.2.2.1
theorem dX6_sign_97 : decode cX6_sign 97 = .ok (.ireturn, 1) := zdX6_sign_59.2.2.2.2.2.2.2.2.2.2.2.2.2.2.2.2.2.2.1
set_option maxRecDepth 20000 in
theorem ggX6_check_X2_wrongPlace : GoodIn wsX6_check wsX2_wrongPlace := goodIn_r _ [6, 7, 8, 9, 10, 11, 12, 13, 14, 15, 16, 17, 18, 19, 20, 5, 21, 22, 23, 24, 25, 26, 27, 28, 29, 30, 31, 32, 33, 34, 35, 36, 37, 38, 39, 40, 41, 42, 43, 44, 45, 46, 47, 48, 49, 50, 51, 52, 53, 54, 55, 56, 57, 58, 59, 60, 70, 71, 72, 73, 74, 75, 76, 77] rfl (by decide +kernel)
set_option maxRecDepth 20000 in
theorem gX6_check_X2_wrongPlace : GoodIn wsX6_check (wsV RX6 160 RX2 yX2_wrongPlace wsX2_wrongPlace) := goodIn_app (goodIn_of _ (by decide +kernel)) ggX6_check_X2_wrongPlace
set_option maxRecDepth 20000 in
theorem ggX6_check_X4_clear : GoodIn wsX6_check wsX4_clear := goodIn_r _ [64, 17, 76, 77] rfl (by decide +kernel)
set_option maxRecDepth 20000 in
theorem gX6_check_X4_clear : GoodIn wsX6_check (wsV RX6 163 RX4 yX4_clear wsX4_clear) := goodIn_app (goodIn_of _ (by decide +kernel)) ggX6_check_X4_clear
set_option maxRecDepth 20000 in
theorem zdX6_check_0 : dAll cX6_check [(0, .aload_n 0, 1), (1, .getfield 36, 3), (4, .invokevirtual 160, 3), (7, .istore_n 1, 1), (8, .aload_n 0, 1), (9, .getfield 36, 3), (12, .getfield 148, 3), (15, .invokevirtual 163, 3), (18, .iload_n 1, 1), (19, .ireturn, 1)] := dAll_of (by decide +kernel)
theorem dX6_check_0 : decode cX6_check 0 = .ok (.aload_n 0, 1) := zdX6_check_0.1
theorem dX6_check_1 : decode cX6_check 1 = .ok (.getfield 36, 3) := zdX6_check_0.2.1
theorem dX6_check_4 : decode cX6_check 4 = .ok (.invokevirtual 160, 3) := zdX6_check_0.2.2.1
theorem dX6_check_7 : decode cX6_check 7 = .ok (.istore_n 1, 1) := zdX6_check_0.2.2.2.1
theorem dX6_check_8 : decode cX6_check 8 = .ok (.aload_n 0, 1) := zdX6_check_0.2.2.2.2.1
theorem dX6_check_9 : decode cX6_check 9 = .ok (.getfield 36, 3) := zdX6_check_0.2.2.2.2.2.1
theorem dX6_check_12 : decode cX6_check 12 = .ok (.getfield 148, 3) := zdX6_check_0.2.2.2.2.2.2.1
theorem dX6_check_15 : decode cX6_check 15 = .ok (.invokevirtual 163, 3) := zdX6_check_0.2.2.2.2.2.2.2.1
theorem dX6_check_18 : decode cX6_check 18 = .ok (.iload_n 1, 1) := zdX6_check_0.2.2.2.2.2.2.2.2.1
theorem dX6_check_19 : decode cX6_check 19 = .ok (.ireturn, 1) := zdX6_check_0.2.2.2.2.2.2.2.2.2.1
set_option maxRecDepth 20000 in
theorem ggX6_count_X5_corners : GoodIn wsX6_count wsX5_corners := goodIn_r _ [9, 10, 76, 77, 78, 79, 80, 81, 82, 83] rfl (by decide +kernel)
set_option maxRecDepth 20000 in
theorem gX6_count_X5_corners : GoodIn wsX6_count (wsV RX6 166 RX5 yX5_corners wsX5_corners) := goodIn_app (goodIn_of _ (by decide +kernel)) ggX6_count_X5_corners
set_option maxRecDepth 20000 in
theorem ggX6_count_X5_howManyThere : GoodIn wsX6_count wsX5_howManyThere := goodIn_r _ [14, 15, 16, 17, 8, 18, 19, 20, 21, 22, 76, 77, 78, 79, 80, 81, 82, 83] rfl (by decide +kernel)
set_option maxRecDepth 20000 in
theorem gX6_count_X5_howManyThere : GoodIn wsX6_count (wsV RX6 169 RX5 yX5_howManyThere wsX5_howManyThere) := goodIn_app (goodIn_of _ (by decide +kernel)) ggX6_count_X5_howManyThere
set_option maxRecDepth 20000 in
theorem ggX6_count_X0_servedCalls : GoodIn wsX6_count wsX0_servedCalls := goodIn_r _ [27, 28, 29, 30, 31, 32, 33, 34, 35, 36, 37, 8, 38, 39, 20, 21, 22, 40, 16, 17, 18, 19, 41, 42, 43, 44, 45, 46, 47, 48, 49, 50, 51, 52, 53, 54, 55, 56, 57, 58, 84, 85, 86, 76, 77, 78, 79, 80, 81, 82, 83] rfl (by decide +kernel)
set_option maxRecDepth 20000 in
theorem gX6_count_X0_servedCalls : GoodIn wsX6_count (wsV RX6 173 RX0 yX0_servedCalls wsX0_servedCalls) := goodIn_app (goodIn_of _ (by decide +kernel)) ggX6_count_X0_servedCalls
set_option maxRecDepth 20000 in
theorem ggX6_count_X0_bursts : GoodIn wsX6_count wsX0_bursts := goodIn_r _ [62, 52, 16, 17, 8, 18, 19, 20, 21, 22, 63, 64, 26, 65, 66, 67, 68, 69, 70, 76, 77, 78, 79, 80, 81, 82, 83] rfl (by decide +kernel)
set_option maxRecDepth 20000 in
theorem gX6_count_X0_bursts : GoodIn wsX6_count (wsV RX6 177 RX0 yX0_bursts wsX0_bursts) := goodIn_app (goodIn_of _ (by decide +kernel)) ggX6_count_X0_bursts
set_option maxRecDepth 20000 in
theorem zdX6_count_0 : dAll cX6_count [(0, .iload_n 1, 1), (1, .tableswitch 106 0 5 #[39, 47, 58, 70, 82, 94], 39), (40, .aload_n 0, 1), (41, .getfield 10, 3), (44, .invokevirtual 166, 3), (47, .ireturn, 1), (48, .aload_n 0, 1), (49, .getfield 10, 3), (52, .iconst 0, 1), (53, .bipush 30, 2), (55, .invokevirtual 169, 3), (58, .ireturn, 1), (59, .aload_n 0, 1), (60, .getfield 10, 3), (63, .bipush 30, 2), (65, .bipush 41, 2), (67, .invokevirtual 169, 3), (70, .ireturn, 1), (71, .aload_n 0, 1), (72, .getfield 10, 3), (75, .bipush 41, 2), (77, .bipush 62, 2), (79, .invokevirtual 169, 3), (82, .ireturn, 1), (83, .aload_n 0, 1), (84, .getfield 22, 3), (87, .aload_n 0, 1), (88, .getfield 10, 3), (91, .invokevirtual 173, 3), (94, .ireturn, 1)] := dAll_of (by decide +kernel)
theorem dX6_count_0 : decode cX6_count 0 = .ok (.iload_n 1, 1) := zdX6_count_0.1
theorem dX6_count_1 : decode cX6_count 1 = .ok (.tableswitch 106 0 5 #[39, 47, 58, 70, 82, 94], 39) := zdX6_count_0.2.1
theorem dX6_count_40 : decode cX6_count 40 = .ok (.aload_n 0, 1) := zdX6_count_0.2.2.1
theorem dX6_count_41 : decode cX6_count 41 = .ok (.getfield 10, 3) := zdX6_count_0.2.2.2.1
theorem dX6_count_44 : decode cX6_count 44 = .ok (.invokevirtual 166, 3) := zdX6_count_0.2.2.2.2.1
theorem dX6_count_47 : decode cX6_count 47 = .ok (.ireturn, 1) := zdX6_count_0.2.2.2.2.2.1
theorem dX6_count_48 : decode cX6_count 48 = .ok (.aload_n 0, 1) := zdX6_count_0.2.2.2.2.2.2.1
theorem dX6_count_49 : decode cX6_count 49 = .ok (.getfield 10, 3) := zdX6_count_0.2.2.2.2.2.2.2.1
theorem dX6_count_52 : decode cX6_count 52 = .ok (.iconst 0, 1) := zdX6_count_0.2.2.2.2.2.2.2.2.1
theorem dX6_count_53 : decode cX6_count 53 = .ok (.bipush 30, 2) := zdX6_count_0.2.2.2.2.2.2.2.2.2.1
theorem dX6_count_55 : decode cX6_count 55 = .ok (.invokevirtual 169, 3) := zdX6_count_0.2.2.2.2.2.2.2.2.2.2.1
theorem dX6_count_58 : decode cX6_count 58 = .ok (.ireturn, 1) := zdX6_count_0.2.2.2.2.2.2.2.2.2.2.2.1
theorem dX6_count_59 : decode cX6_count 59 = .ok (.aload_n 0, 1) := zdX6_count_0.2.2.2.2.2.2.2.2.2.2.2.2.1
theorem dX6_count_60 : decode cX6_count 60 = .ok (.getfield 10, 3) := zdX6_count_0.2.2.2.2.2.2.2.2.2.2.2.2.2.1
theorem dX6_count_63 : decode cX6_count 63 = .ok (.bipush 30, 2) := zdX6_count_0.2.2.2.2.2.2.2.2.2.2.2.2.2.2.1
theorem dX6_count_65 : decode cX6_count 65 = .ok (.bipush 41, 2) := zdX6_count_0.2.2.2.2.2.2.2.2.2.2.2.2.2.2.2.1
theorem dX6_count_67 : decode cX6_count 67 = .ok (.invokevirtual 169, 3) := zdX6_count_0.2.2.2.2.2.2.2.2.2.2.2.2.2.2.2.2.1
theorem dX6_count_70 : decode cX6_count 70 = .ok (.ireturn, 1) := zdX6_count_0.2.2.2.2.2.2.2.2.2.2.2.2.2.2.2.2.2.1
theorem dX6_count_71 : decode cX6_count 71 = .ok (.aload_n 0, 1) := zdX6_count_0.2.2.2.2.2.2.2.2.2.2.2.2.2.2.2.2.2.2.1
theorem dX6_count_72 : decode cX6_count 72 = .ok (.getfield 10, 3) := zdX6_count_0.2.2.2.2.2.2.2.2.2.2.2.2.2.2.2.2.2.2.2.1
theorem dX6_count_75 : decode cX6_count 75 = .ok (.bipush 41, 2) := zdX6_count_0.2.2.2.2.2.2.2.2.2.2.2.2.2.2.2.2.2.2.2.2.1
theorem dX6_count_77 : decode cX6_count 77 = .ok (.bipush 62, 2) := zdX6_count_0.2.2.2.2.2.2.2.2.2.2.2.2.2.2.2.2.2.2.2.2.2.1
theorem dX6_count_79 : decode cX6_count 79 = .ok (.invokevirtual 169, 3) := zdX6_count_0.2.2.2.2.2.2.2.2.2.2.2.2.2.2.2.2.2.2.2.2.2.2.1
theorem dX6_count_82 : decode cX6_count 82 = .ok (.ireturn, 1) := zdX6_count_0.2.2.2.2.2.2.2.2.2.2.2.2.2.2.2.2.2.2.2.2.2.2.2.1
theorem dX6_count_83 : decode cX6_count 83 = .ok (.aload_n 0, 1) := zdX6_count_0.2.2.2.2.2.2.2.2.2.2.2.2.2.2.2.2.2.2.2.2.2.2.2.2.1
theorem dX6_count_84 : decode cX6_count 84 = .ok (.getfield 22, 3) := zdX6_count_0.2.2.2.2.2.2.2.2.2.2.2.2.2.2.2.2.2.2.2.2.2.2.2.2.2.1
theorem dX6_count_87 : decode cX6_count 87 = .ok (.aload_n 0, 1) := zdX6_count_0.2.2.2.2.2.2.2.2.2.2.2.2.2.2.2.2.2.2.2.2.2.2.2.2.2.2.1
theorem dX6_count_88 : decode cX6_count 88 = .ok (.getfield 10, 3) := zdX6_count_0.2.2.2.2.2.2.2.2.2.2.2.2.2.2.2.2.2.2.2.2.2.2.2.2.2.2.2.1
theorem dX6_count_91 : decode cX6_count 91 = .ok (.invokevirtual 173, 3) := zdX6_count_0.2.2.2.2.2.2.2.2.2.2.2.2.2.2.2.2.2.2.2.2.2.2.2.2.2.2.2.2.1
theorem dX6_count_94 : decode cX6_count 94 = .ok (.ireturn, 1) := zdX6_count_0.2.2.2.2.2.2.2.2.2.2.2.2.2.2.2.2.2.2.2.2.2.2.2.2.2.2.2.2.2.1
set_option maxRecDepth 20000 in
theorem zdX6_count_95 : dAll cX6_count [(95, .aload_n 0, 1), (96, .getfield 22, 3), (99, .aload_n 0, 1), (100, .getfield 10, 3), (103, .invokevirtual 177, 3), (106, .ireturn, 1), (107, .new 62, 3), (110, .dup, 1), (111, .ldc 86, 2), (113, .invokespecial 66, 3), (116, .athrow, 1)] := dAll_of (by decide +kernel)
theorem dX6_count_95 : decode cX6_count 95 = .ok (.aload_n 0, 1) := zdX6_count_95.1
theorem dX6_count_96 : decode cX6_count 96 = .ok (.getfield 22, 3) := zdX6_count_95.2.1
theorem dX6_count_99 : decode cX6_count 99 = .ok (.aload_n 0, 1) := zdX6_count_95.2.2.1
theorem dX6_count_100 : decode cX6_count 100 = .ok (.getfield 10, 3) := zdX6_count_95.2.2.2.1
theorem dX6_count_103 : decode cX6_count 103 = .ok (.invokevirtual 177, 3) := zdX6_count_95.2.2.2.2.1
theorem dX6_count_106 : decode cX6_count 106 = .ok (.ireturn, 1) := zdX6_count_95.2.2.2.2.2.1
theorem dX6_count_107 : decode cX6_count 107 = .ok (.new 62, 3) := zdX6_count_95.2.2.2.2.2.2.1
theorem dX6_count_110 : decode cX6_count 110 = .ok (.dup, 1) := zdX6_count_95.2.2.2.2.2.2.2.1
theorem dX6_count_111 : decode cX6_count 111 = .ok (.ldc 86, 2) := zdX6_count_95.2.2.2.2.2.2.2.2.1
theorem dX6_count_113 : decode cX6_count 113 = .ok (.invokespecial 66, 3) := zdX6_count_95.2.2.2.2.2.2.2.2.2.1
theorem dX6_count_116 : decode cX6_count 116 = .ok (.athrow, 1) := zdX6_count_95.2.2.2.2.2.2.2.2.2.2.1
set_option maxRecDepth 20000 in
theorem zdX6_isSize_0 : dAll cX6_isSize [(0, .iload_n 0, 1), (1, .ifCond .lt 13, 3), (4, .iload_n 0, 1), (5, .bipush 20, 2), (7, .if_icmp .gt 7, 3), (10, .iconst 1, 1), (11, .goto 4, 3), (14, .iconst 0, 1), (15, .ireturn, 1)] := dAll_of (by decide +kernel)
theorem dX6_isSize_0 : decode cX6_isSize 0 = .ok (.iload_n 0, 1) := zdX6_isSize_0.1
theorem dX6_isSize_1 : decode cX6_isSize 1 = .ok (.ifCond .lt 13, 3) := zdX6_isSize_0.2.1
theorem dX6_isSize_4 : decode cX6_isSize 4 = .ok (.iload_n 0, 1) := zdX6_isSize_0.2.2.1
theorem dX6_isSize_5 : decode cX6_isSize 5 = .ok (.bipush 20, 2) := zdX6_isSize_0.2.2.2.1
theorem dX6_isSize_7 : decode cX6_isSize 7 = .ok (.if_icmp .gt 7, 3) := zdX6_isSize_0.2.2.2.2.1
theorem dX6_isSize_10 : decode cX6_isSize 10 = .ok (.iconst 1, 1) := zdX6_isSize_0.2.2.2.2.2.1
theorem dX6_isSize_11 : decode cX6_isSize 11 = .ok (.goto 4, 3) := zdX6_isSize_0.2.2.2.2.2.2.1
theorem dX6_isSize_14 : decode cX6_isSize 14 = .ok (.iconst 0, 1) := zdX6_isSize_0.2.2.2.2.2.2.2.1
theorem dX6_isSize_15 : decode cX6_isSize 15 = .ok (.ireturn, 1) := zdX6_isSize_0.2.2.2.2.2.2.2.2.1
set_option maxRecDepth 20000 in
theorem zdX6_isVerdict_0 : dAll cX6_isVerdict [(0, .iload_n 0, 1), (1, .ifCond .lt 12, 3), (4, .iload_n 0, 1), (5, .iconst 5, 1), (6, .if_icmp .ge 7, 3), (9, .iconst 1, 1), (10, .goto 4, 3), (13, .iconst 0, 1), (14, .ireturn, 1)] := dAll_of (by decide +kernel)
theorem dX6_isVerdict_0 : decode cX6_isVerdict 0 = .ok (.iload_n 0, 1) := zdX6_isVerdict_0.1
theorem dX6_isVerdict_1 : decode cX6_isVerdict 1 = .ok (.ifCond .lt 12, 3) := zdX6_isVerdict_0.2.1
theorem dX6_isVerdict_4 : decode cX6_isVerdict 4 = .ok (.iload_n 0, 1) := zdX6_isVerdict_0.2.2.1
theorem dX6_isVerdict_5 : decode cX6_isVerdict 5 = .ok (.iconst 5, 1) := zdX6_isVerdict_0.2.2.2.1
theorem dX6_isVerdict_6 : decode cX6_isVerdict 6 = .ok (.if_icmp .ge 7, 3) := zdX6_isVerdict_0.2.2.2.2.1
theorem dX6_isVerdict_9 : decode cX6_isVerdict 9 = .ok (.iconst 1, 1) := zdX6_isVerdict_0.2.2.2.2.2.1
theorem dX6_isVerdict_10 : decode cX6_isVerdict 10 = .ok (.goto 4, 3) := zdX6_isVerdict_0.2.2.2.2.2.2.1
theorem dX6_isVerdict_13 : decode cX6_isVerdict 13 = .ok (.iconst 0, 1) := zdX6_isVerdict_0.2.2.2.2.2.2.2.1
theorem dX6_isVerdict_14 : decode cX6_isVerdict 14 = .ok (.ireturn, 1) := zdX6_isVerdict_0.2.2.2.2.2.2.2.2.1
set_option maxRecDepth 20000 in
theorem zdX6_isPart_0 : dAll cX6_isPart [(0, .iload_n 0, 1), (1, .ifCond .lt 13, 3), (4, .iload_n 0, 1), (5, .bipush 62, 2), (7, .if_icmp .ge 7, 3), (10, .iconst 1, 1), (11, .goto 4, 3), (14, .iconst 0, 1), (15, .ireturn, 1)] := dAll_of (by decide +kernel)
theorem dX6_isPart_0 : decode cX6_isPart 0 = .ok (.iload_n 0, 1) := zdX6_isPart_0.1
theorem dX6_isPart_1 : decode cX6_isPart 1 = .ok (.ifCond .lt 13, 3) := zdX6_isPart_0.2.1
theorem dX6_isPart_4 : decode cX6_isPart 4 = .ok (.iload_n 0, 1) := zdX6_isPart_0.2.2.1
theorem dX6_isPart_5 : decode cX6_isPart 5 = .ok (.bipush 62, 2) := zdX6_isPart_0.2.2.2.1
theorem dX6_isPart_7 : decode cX6_isPart 7 = .ok (.if_icmp .ge 7, 3) := zdX6_isPart_0.2.2.2.2.1
theorem dX6_isPart_10 : decode cX6_isPart 10 = .ok (.iconst 1, 1) := zdX6_isPart_0.2.2.2.2.2.1
theorem dX6_isPart_11 : decode cX6_isPart 11 = .ok (.goto 4, 3) := zdX6_isPart_0.2.2.2.2.2.2.1
theorem dX6_isPart_14 : decode cX6_isPart 14 = .ok (.iconst 0, 1) := zdX6_isPart_0.2.2.2.2.2.2.2.1
theorem dX6_isPart_15 : decode cX6_isPart 15 = .ok (.ireturn, 1) := zdX6_isPart_0.2.2.2.2.2.2.2.2.1
set_option maxRecDepth 20000 in
theorem zdX6_isCorner_0 : dAll cX6_isCorner [(0, .iload_n 0, 1), (1, .ifCond .lt 13, 3), (4, .iload_n 0, 1), (5, .bipush 21, 2), (7, .if_icmp .ge 7, 3), (10, .iconst 1, 1), (11, .goto 4, 3), (14, .iconst 0, 1), (15, .ireturn, 1)] := dAll_of (by decide +kernel)
theorem dX6_isCorner_0 : decode cX6_isCorner 0 = .ok (.iload_n 0, 1) := zdX6_isCorner_0.1
theorem dX6_isCorner_1 : decode cX6_isCorner 1 = .ok (.ifCond .lt 13, 3) := zdX6_isCorner_0.2.1
theorem dX6_isCorner_4 : decode cX6_isCorner 4 = .ok (.iload_n 0, 1) := zdX6_isCorner_0.2.2.1
theorem dX6_isCorner_5 : decode cX6_isCorner 5 = .ok (.bipush 21, 2) := zdX6_isCorner_0.2.2.2.1
theorem dX6_isCorner_7 : decode cX6_isCorner 7 = .ok (.if_icmp .ge 7, 3) := zdX6_isCorner_0.2.2.2.2.1
theorem dX6_isCorner_10 : decode cX6_isCorner 10 = .ok (.iconst 1, 1) := zdX6_isCorner_0.2.2.2.2.2.1
theorem dX6_isCorner_11 : decode cX6_isCorner 11 = .ok (.goto 4, 3) := zdX6_isCorner_0.2.2.2.2.2.2.1
theorem dX6_isCorner_14 : decode cX6_isCorner 14 = .ok (.iconst 0, 1) := zdX6_isCorner_0.2.2.2.2.2.2.2.1
theorem dX6_isCorner_15 : decode cX6_isCorner 15 = .ok (.ireturn, 1) := zdX6_isCorner_0.2.2.2.2.2.2.2.2.1
set_option maxRecDepth 20000 in
theorem zdX6_kindOf_0 : dAll cX6_kindOf [(0, .iload_n 0, 1), (1, .bipush 30, 2), (3, .if_icmp .ge 5, 3), (6, .iconst 0, 1), (7, .ireturn, 1), (8, .iload_n 0, 1), (9, .bipush 41, 2), (11, .if_icmp .ge 7, 3), (14, .iconst 1, 1), (15, .goto 4, 3), (18, .iconst 2, 1), (19, .ireturn, 1)] := dAll_of (by decide +kernel)
theorem dX6_kindOf_0 : decode cX6_kindOf 0 = .ok (.iload_n 0, 1) := zdX6_kindOf_0.1
theorem dX6_kindOf_1 : decode cX6_kindOf 1 = .ok (.bipush 30, 2) := zdX6_kindOf_0.2.1
theorem dX6_kindOf_3 : decode cX6_kindOf 3 = .ok (.if_icmp .ge 5, 3) := zdX6_kindOf_0.2.2.1
theorem dX6_kindOf_6 : decode cX6_kindOf 6 = .ok (.iconst 0, 1) := zdX6_kindOf_0.2.2.2.1
theorem dX6_kindOf_7 : decode cX6_kindOf 7 = .ok (.ireturn, 1) := zdX6_kindOf_0.2.2.2.2.1
theorem dX6_kindOf_8 : decode cX6_kindOf 8 = .ok (.iload_n 0, 1) := zdX6_kindOf_0.2.2.2.2.2.1
theorem dX6_kindOf_9 : decode cX6_kindOf 9 = .ok (.bipush 41, 2) := zdX6_kindOf_0.2.2.2.2.2.2.1
theorem dX6_kindOf_11 : decode cX6_kindOf 11 = .ok (.if_icmp .ge 7, 3) := zdX6_kindOf_0.2.2.2.2.2.2.2.1
theorem dX6_kindOf_14 : decode cX6_kindOf 14 = .ok (.iconst 1, 1) := zdX6_kindOf_0.2.2.2.2.2.2.2.2.1
theorem dX6_kindOf_15 : decode cX6_kindOf 15 = .ok (.goto 4, 3) := zdX6_kindOf_0.2.2.2.2.2.2.2.2.2.1
theorem dX6_kindOf_18 : decode cX6_kindOf 18 = .ok (.iconst 2, 1) := zdX6_kindOf_0.2.2.2.2.2.2.2.2.2.2.1
theorem dX6_kindOf_19 : decode cX6_kindOf 19 = .ok (.ireturn, 1) := zdX6_kindOf_0.2.2.2.2.2.2.2.2.2.2.2.1
set_option maxRecDepth 20000 in
theorem ggX7_init_X7_make : GoodIn wsX7_init wsX7_make := goodIn_r _ [19, 20, 21, 22, 23, 7, 10, 24, 25, 26, 18, 27, 5, 8, 9, 28, 29, 30, 31, 32, 33, 34, 35, 36, 37, 38, 39, 40, 41, 42, 43, 44, 45, 46, 47, 48, 49, 50, 51, 52, 53, 54, 55, 56] rfl (by decide +kernel)
set_option maxRecDepth 20000 in
theorem gX7_init_X7_make : GoodIn wsX7_init (wsV RX7 38 RX7 yX7_make wsX7_make) := goodIn_app (goodIn_of _ (by decide +kernel)) ggX7_init_X7_make
set_option maxRecDepth 20000 in
theorem zdX7_init_0 : dAll cX7_init [(0, .aload_n 0, 1), (1, .invokespecial 1, 3), (4, .aload_n 0, 1), (5, .bipush 62, 2), (7, .newarray .int, 2), (9, .putfield 7, 3), (12, .aload_n 0, 1), (13, .bipush 62, 2), (15, .newarray .boolean, 2), (17, .putfield 13, 3), (20, .aload_n 0, 1), (21, .bipush 62, 2), (23, .newarray .int, 2), (25, .putfield 17, 3), (28, .aload_n 0, 1), (29, .bipush 62, 2), (31, .newarray .int, 2), (33, .putfield 20, 3), (36, .aload_n 0, 1), (37, .bipush 62, 2), (39, .newarray .int, 2), (41, .putfield 23, 3), (44, .aload_n 0, 1), (45, .bipush 62, 2), (47, .newarray .boolean, 2), (49, .putfield 26, 3), (52, .aload_n 0, 1), (53, .bipush 21, 2), (55, .newarray .int, 2), (57, .putfield 29, 3)] := dAll_of (by decide +kernel)
theorem dX7_init_0 : decode cX7_init 0 = .ok (.aload_n 0, 1) := zdX7_init_0.1
theorem dX7_init_1 : decode cX7_init 1 = .ok (.invokespecial 1, 3) := zdX7_init_0.2.1
theorem dX7_init_4 : decode cX7_init 4 = .ok (.aload_n 0, 1) := zdX7_init_0.2.2.1
theorem dX7_init_5 : decode cX7_init 5 = .ok (.bipush 62, 2) := zdX7_init_0.2.2.2.1
theorem dX7_init_7 : decode cX7_init 7 = .ok (.newarray .int, 2) := zdX7_init_0.2.2.2.2.1
theorem dX7_init_9 : decode cX7_init 9 = .ok (.putfield 7, 3) := zdX7_init_0.2.2.2.2.2.1
theorem dX7_init_12 : decode cX7_init 12 = .ok (.aload_n 0, 1) := zdX7_init_0.2.2.2.2.2.2.1
theorem dX7_init_13 : decode cX7_init 13 = .ok (.bipush 62, 2) := zdX7_init_0.2.2.2.2.2.2.2.1
theorem dX7_init_15 : decode cX7_init 15 = .ok (.newarray .boolean, 2) := zdX7_init_0.2.2.2.2.2.2.2.2.1
theorem dX7_init_17 : decode cX7_init 17 = .ok (.putfield 13, 3) := zdX7_init_0.2.2.2.2.2.2.2.2.2.1
theorem dX7_init_20 : decode cX7_init 20 = .ok (.aload_n 0, 1) := zdX7_init_0.2.2.2.2.2.2.2.2.2.2.1
theorem dX7_init_21 : decode cX7_init 21 = .ok (.bipush 62, 2) := zdX7_init_0.2.2.2.2.2.2.2.2.2.2.2.1
theorem dX7_init_23 : decode cX7_init 23 = .ok (.newarray .int, 2) := zdX7_init_0.2.2.2.2.2.2.2.2.2.2.2.2.1
theorem dX7_init_25 : decode cX7_init 25 = .ok (.putfield 17, 3) := zdX7_init_0.2.2.2.2.2.2.2.2.2.2.2.2.2.1
theorem dX7_init_28 : decode cX7_init 28 = .ok (.aload_n 0, 1) := zdX7_init_0.2.2.2.2.2.2.2.2.2.2.2.2.2.2.1
theorem dX7_init_29 : decode cX7_init 29 = .ok (.bipush 62, 2) := zdX7_init_0.2.2.2.2.2.2.2.2.2.2.2.2.2.2.2.1
theorem dX7_init_31 : decode cX7_init 31 = .ok (.newarray .int, 2) := zdX7_init_0.2.2.2.2.2.2.2.2.2.2.2.2.2.2.2.2.1
theorem dX7_init_33 : decode cX7_init 33 = .ok (.putfield 20, 3) := zdX7_init_0.2.2.2.2.2.2.2.2.2.2.2.2.2.2.2.2.2.1
theorem dX7_init_36 : decode cX7_init 36 = .ok (.aload_n 0, 1) := zdX7_init_0.2.2.2.2.2.2.2.2.2.2.2.2.2.2.2.2.2.2.1
theorem dX7_init_37 : decode cX7_init 37 = .ok (.bipush 62, 2) := zdX7_init_0.2.2.2.2.2.2.2.2.2.2.2.2.2.2.2.2.2.2.2.1
theorem dX7_init_39 : decode cX7_init 39 = .ok (.newarray .int, 2) := zdX7_init_0.2.2.2.2.2.2.2.2.2.2.2.2.2.2.2.2.2.2.2.2.1
theorem dX7_init_41 : decode cX7_init 41 = .ok (.putfield 23, 3) := zdX7_init_0.2.2.2.2.2.2.2.2.2.2.2.2.2.2.2.2.2.2.2.2.2.1
theorem dX7_init_44 : decode cX7_init 44 = .ok (.aload_n 0, 1) := zdX7_init_0.2.2.2.2.2.2.2.2.2.2.2.2.2.2.2.2.2.2.2.2.2.2.1
theorem dX7_init_45 : decode cX7_init 45 = .ok (.bipush 62, 2) := zdX7_init_0.2.2.2.2.2.2.2.2.2.2.2.2.2.2.2.2.2.2.2.2.2.2.2.1
theorem dX7_init_47 : decode cX7_init 47 = .ok (.newarray .boolean, 2) := zdX7_init_0.2.2.2.2.2.2.2.2.2.2.2.2.2.2.2.2.2.2.2.2.2.2.2.2.1
theorem dX7_init_49 : decode cX7_init 49 = .ok (.putfield 26, 3) := zdX7_init_0.2.2.2.2.2.2.2.2.2.2.2.2.2.2.2.2.2.2.2.2.2.2.2.2.2.1
theorem dX7_init_52 : decode cX7_init 52 = .ok (.aload_n 0, 1) := zdX7_init_0.2.2.2.2.2.2.2.2.2.2.2.2.2.2.2.2.2.2.2.2.2.2.2.2.2.2.1
theorem dX7_init_53 : decode cX7_init 53 = .ok (.bipush 21, 2) := zdX7_init_0.2.2.2.2.2.2.2.2.2.2.2.2.2.2.2.2.2.2.2.2.2.2.2.2.2.2.2.1
theorem dX7_init_55 : decode cX7_init 55 = .ok (.newarray .int, 2) := zdX7_init_0.2.2.2.2.2.2.2.2.2.2.2.2.2.2.2.2.2.2.2.2.2.2.2.2.2.2.2.2.1
theorem dX7_init_57 : decode cX7_init 57 = .ok (.putfield 29, 3) := zdX7_init_0.2.2.2.2.2.2.2.2.2.2.2.2.2.2.2.2.2.2.2.2.2.2.2.2.2.2.2.2.2.1
set_option maxRecDepth 20000 in
theorem zdX7_init_60 : dAll cX7_init [(60, .aload_n 0, 1), (61, .sipush 1200, 3), (64, .newarray .int, 2), (66, .putfield 32, 3), (69, .aload_n 0, 1), (70, .sipush 600, 3), (73, .newarray .int, 2), (75, .putfield 35, 3), (78, .aload_n 0, 1), (79, .iconst 0, 1), (80, .iconst 0, 1), (81, .invokevirtual 38, 3), (84, .return_, 1)] := dAll_of (by decide +kernel)
theorem dX7_init_60 : decode cX7_init 60 = .ok (.aload_n 0, 1) := zdX7_init_60.1
theorem dX7_init_61 : decode cX7_init 61 = .ok (.sipush 1200, 3) := zdX7_init_60.2.1
theorem dX7_init_64 : decode cX7_init 64 = .ok (.newarray .int, 2) := zdX7_init_60.2.2.1
theorem dX7_init_66 : decode cX7_init 66 = .ok (.putfield 32, 3) := zdX7_init_60.2.2.2.1
theorem dX7_init_69 : decode cX7_init 69 = .ok (.aload_n 0, 1) := zdX7_init_60.2.2.2.2.1
theorem dX7_init_70 : decode cX7_init 70 = .ok (.sipush 600, 3) := zdX7_init_60.2.2.2.2.2.1
theorem dX7_init_73 : decode cX7_init 73 = .ok (.newarray .int, 2) := zdX7_init_60.2.2.2.2.2.2.1
theorem dX7_init_75 : decode cX7_init 75 = .ok (.putfield 35, 3) := zdX7_init_60.2.2.2.2.2.2.2.1
theorem dX7_init_78 : decode cX7_init 78 = .ok (.aload_n 0, 1) := zdX7_init_60.2.2.2.2.2.2.2.2.1
theorem dX7_init_79 : decode cX7_init 79 = .ok (.iconst 0, 1) := zdX7_init_60.2.2.2.2.2.2.2.2.2.1
theorem dX7_init_80 : decode cX7_init 80 = .ok (.iconst 0, 1) := zdX7_init_60.2.2.2.2.2.2.2.2.2.2.1
theorem dX7_init_81 : decode cX7_init 81 = .ok (.invokevirtual 38, 3) := zdX7_init_60.2.2.2.2.2.2.2.2.2.2.2.1
theorem dX7_init_84 : decode cX7_init 84 = .ok (.return_, 1) := zdX7_init_60.2.2.2.2.2.2.2.2.2.2.2.2.1
set_option maxRecDepth 20000 in
theorem zdX7_throwing_0 : dAll cX7_throwing [(0, .aload_n 0, 1), (1, .iload_n 1, 1), (2, .ifCond .eq 7, 3), (5, .iconst 1, 1), (6, .goto 12, 3), (9, .iload_n 2, 1), (10, .ifCond .eq 7, 3), (13, .iconst 2, 1), (14, .goto 4, 3), (17, .iconst 0, 1), (18, .putfield 42, 3), (21, .aload_n 0, 1), (22, .getfield 42, 3), (25, .ifCond .le 7, 3), (28, .iconst 1, 1), (29, .goto 4, 3), (32, .iconst 0, 1), (33, .ireturn, 1)] := dAll_of (by decide +kernel)
theorem dX7_throwing_0 : decode cX7_throwing 0 = .ok (.aload_n 0, 1) := zdX7_throwing_0.1
theorem dX7_throwing_1 : decode cX7_throwing 1 = .ok (.iload_n 1, 1) := zdX7_throwing_0.2.1
theorem dX7_throwing_2 : decode cX7_throwing 2 = .ok (.ifCond .eq 7, 3) := zdX7_throwing_0.2.2.1
theorem dX7_throwing_5 : decode cX7_throwing 5 = .ok (.iconst 1, 1) := zdX7_throwing_0.2.2.2.1
theorem dX7_throwing_6 : decode cX7_throwing 6 = .ok (.goto 12, 3) := zdX7_throwing_0.2.2.2.2.1
theorem dX7_throwing_9 : decode cX7_throwing 9 = .ok (.iload_n 2, 1) := zdX7_throwing_0.2.2.2.2.2.1
theorem dX7_throwing_10 : decode cX7_throwing 10 = .ok (.ifCond .eq 7, 3) := zdX7_throwing_0.2.2.2.2.2.2.1
theorem dX7_throwing_13 : decode cX7_throwing 13 = .ok (.iconst 2, 1) := zdX7_throwing_0.2.2.2.2.2.2.2.1
theorem dX7_throwing_14 : decode cX7_throwing 14 = .ok (.goto 4, 3) := zdX7_throwing_0.2.2.2.2.2.2.2.2.1
theorem dX7_throwing_17 : decode cX7_throwing 17 = .ok (.iconst 0, 1) := zdX7_throwing_0.2.2.2.2.2.2.2.2.2.1
theorem dX7_throwing_18 : decode cX7_throwing 18 = .ok (.putfield 42, 3) := zdX7_throwing_0.2.2.2.2.2.2.2.2.2.2.1
theorem dX7_throwing_21 : decode cX7_throwing 21 = .ok (.aload_n 0, 1) := zdX7_throwing_0.2.2.2.2.2.2.2.2.2.2.2.1
theorem dX7_throwing_22 : decode cX7_throwing 22 = .ok (.getfield 42, 3) := zdX7_throwing_0.2.2.2.2.2.2.2.2.2.2.2.2.1
theorem dX7_throwing_25 : decode cX7_throwing 25 = .ok (.ifCond .le 7, 3) := zdX7_throwing_0.2.2.2.2.2.2.2.2.2.2.2.2.2.1
theorem dX7_throwing_28 : decode cX7_throwing 28 = .ok (.iconst 1, 1) := zdX7_throwing_0.2.2.2.2.2.2.2.2.2.2.2.2.2.2.1
theorem dX7_throwing_29 : decode cX7_throwing 29 = .ok (.goto 4, 3) := zdX7_throwing_0.2.2.2.2.2.2.2.2.2.2.2.2.2.2.2.1
theorem dX7_throwing_32 : decode cX7_throwing 32 = .ok (.iconst 0, 1) := zdX7_throwing_0.2.2.2.2.2.2.2.2.2.2.2.2.2.2.2.2.1
theorem dX7_throwing_33 : decode cX7_throwing 33 = .ok (.ireturn, 1) := zdX7_throwing_0.2.2.2.2.2.2.2.2.2.2.2.2.2.2.2.2.2.1
set_option maxRecDepth 20000 in
theorem zdX7_in_0 : dAll cX7_in [(0, .iload_n 0, 1), (1, .iload_n 1, 1), (2, .if_icmp .lt 12, 3), (5, .iload_n 0, 1), (6, .iload_n 2, 1), (7, .if_icmp .gt 7, 3), (10, .iconst 1, 1), (11, .goto 4, 3), (14, .iconst 0, 1), (15, .ireturn, 1)] := dAll_of (by decide +kernel)
theorem dX7_in_0 : decode cX7_in 0 = .ok (.iload_n 0, 1) := zdX7_in_0.1
theorem dX7_in_1 : decode cX7_in 1 = .ok (.iload_n 1, 1) := zdX7_in_0.2.1
theorem dX7_in_2 : decode cX7_in 2 = .ok (.if_icmp .lt 12, 3) := zdX7_in_0.2.2.1
theorem dX7_in_5 : decode cX7_in 5 = .ok (.iload_n 0, 1) := zdX7_in_0.2.2.2.1
theorem dX7_in_6 : decode cX7_in 6 = .ok (.iload_n 2, 1) := zdX7_in_0.2.2.2.2.1
theorem dX7_in_7 : decode cX7_in 7 = .ok (.if_icmp .gt 7, 3) := zdX7_in_0.2.2.2.2.2.1
theorem dX7_in_10 : decode cX7_in 10 = .ok (.iconst 1, 1) := zdX7_in_0.2.2.2.2.2.2.1
theorem dX7_in_11 : decode cX7_in 11 = .ok (.goto 4, 3) := zdX7_in_0.2.2.2.2.2.2.2.1
theorem dX7_in_14 : decode cX7_in 14 = .ok (.iconst 0, 1) := zdX7_in_0.2.2.2.2.2.2.2.2.1
theorem dX7_in_15 : decode cX7_in 15 = .ok (.ireturn, 1) := zdX7_in_0.2.2.2.2.2.2.2.2.2.1
set_option maxRecDepth 20000 in
theorem zdX7_mix_0 : dAll cX7_mix [(0, .iload_n 0, 1), (1, .iload_n 0, 1), (2, .bipush 15, 2), (4, .iushr, 1), (5, .ixor, 1), (6, .istore_n 1, 1), (7, .iload_n 1, 1), (8, .ldc 46, 2), (10, .imul, 1), (11, .istore_n 1, 1), (12, .iload_n 1, 1), (13, .iload_n 1, 1), (14, .bipush 13, 2), (16, .iushr, 1), (17, .ixor, 1), (18, .istore_n 1, 1), (19, .iload_n 1, 1), (20, .ldc 47, 2), (22, .imul, 1), (23, .istore_n 1, 1), (24, .iload_n 1, 1), (25, .iload_n 1, 1), (26, .bipush 16, 2), (28, .iushr, 1), (29, .ixor, 1), (30, .ireturn, 1)] := dAll_of (by decide +kernel)
theorem dX7_mix_0 : decode cX7_mix 0 = .ok (.iload_n 0, 1) := zdX7_mix_0.1
theorem dX7_mix_1 : decode cX7_mix 1 = .ok (.iload_n 0, 1) := zdX7_mix_0.2.1
theorem dX7_mix_2 : decode cX7_mix 2 = .ok (.bipush 15, 2) := zdX7_mix_0.2.2.1
theorem dX7_mix_4 : decode cX7_mix 4 = .ok (.iushr, 1) := zdX7_mix_0.2.2.2.1
theorem dX7_mix_5 : decode cX7_mix 5 = .ok (.ixor, 1) := zdX7_mix_0.2.2.2.2.1
theorem dX7_mix_6 : decode cX7_mix 6 = .ok (.istore_n 1, 1) := zdX7_mix_0.2.2.2.2.2.1
theorem dX7_mix_7 : decode cX7_mix 7 = .ok (.iload_n 1, 1) := zdX7_mix_0.2.2.2.2.2.2.1
theorem dX7_mix_8 : decode cX7_mix 8 = .ok (.ldc 46, 2) := zdX7_mix_0.2.2.2.2.2.2.2.1
theorem dX7_mix_10 : decode cX7_mix 10 = .ok (.imul, 1) := zdX7_mix_0.2.2.2.2.2.2.2.2.1
theorem dX7_mix_11 : decode cX7_mix 11 = .ok (.istore_n 1, 1) := zdX7_mix_0.2.2.2.2.2.2.2.2.2.1
theorem dX7_mix_12 : decode cX7_mix 12 = .ok (.iload_n 1, 1) := zdX7_mix_0.2.2.2.2.2.2.2.2.2.2.1
theorem dX7_mix_13 : decode cX7_mix 13 = .ok (.iload_n 1, 1) := zdX7_mix_0.2.2.2.2.2.2.2.2.2.2.2.1
theorem dX7_mix_14 : decode cX7_mix 14 = .ok (.bipush 13, 2) := zdX7_mix_0.2.2.2.2.2.2.2.2.2.2.2.2.1
theorem dX7_mix_16 : decode cX7_mix 16 = .ok (.iushr, 1) := zdX7_mix_0.2.2.2.2.2.2.2.2.2.2.2.2.2.1
theorem dX7_mix_17 : decode cX7_mix 17 = .ok (.ixor, 1) := zdX7_mix_0.2.2.2.2.2.2.2.2.2.2.2.2.2.2.1
theorem dX7_mix_18 : decode cX7_mix 18 = .ok (.istore_n 1, 1) := zdX7_mix_0.2.2.2.2.2.2.2.2.2.2.2.2.2.2.2.1
theorem dX7_mix_19 : decode cX7_mix 19 = .ok (.iload_n 1, 1) := zdX7_mix_0.2.2.2.2.2.2.2.2.2.2.2.2.2.2.2.2.1
theorem dX7_mix_20 : decode cX7_mix 20 = .ok (.ldc 47, 2) := zdX7_mix_0.2.2.2.2.2.2.2.2.2.2.2.2.2.2.2.2.2.1
theorem dX7_mix_22 : decode cX7_mix 22 = .ok (.imul, 1) := zdX7_mix_0.2.2.2.2.2.2.2.2.2.2.2.2.2.2.2.2.2.2.1
theorem dX7_mix_23 : decode cX7_mix 23 = .ok (.istore_n 1, 1) := zdX7_mix_0.2.2.2.2.2.2.2.2.2.2.2.2.2.2.2.2.2.2.2.1
theorem dX7_mix_24 : decode cX7_mix 24 = .ok (.iload_n 1, 1) := zdX7_mix_0.2.2.2.2.2.2.2.2.2.2.2.2.2.2.2.2.2.2.2.2.1
theorem dX7_mix_25 : decode cX7_mix 25 = .ok (.iload_n 1, 1) := zdX7_mix_0.2.2.2.2.2.2.2.2.2.2.2.2.2.2.2.2.2.2.2.2.2.1
theorem dX7_mix_26 : decode cX7_mix 26 = .ok (.bipush 16, 2) := zdX7_mix_0.2.2.2.2.2.2.2.2.2.2.2.2.2.2.2.2.2.2.2.2.2.2.1
theorem dX7_mix_28 : decode cX7_mix 28 = .ok (.iushr, 1) := zdX7_mix_0.2.2.2.2.2.2.2.2.2.2.2.2.2.2.2.2.2.2.2.2.2.2.2.1
theorem dX7_mix_29 : decode cX7_mix 29 = .ok (.ixor, 1) := zdX7_mix_0.2.2.2.2.2.2.2.2.2.2.2.2.2.2.2.2.2.2.2.2.2.2.2.2.1
theorem dX7_mix_30 : decode cX7_mix 30 = .ok (.ireturn, 1) := zdX7_mix_0.2.2.2.2.2.2.2.2.2.2.2.2.2.2.2.2.2.2.2.2.2.2.2.2.2.1
set_option maxRecDepth 20000 in
theorem ggX7_number_X7_mix : GoodIn wsX7_number wsX7_mix := goodIn_r _ [6, 7, 8] rfl (by decide +kernel)
set_option maxRecDepth 20000 in
theorem gX7_number_X7_mix : GoodIn wsX7_number (va_wsS RX7 52 yX7_mix wsX7_mix) := goodIn_app (goodIn_of _ (by decide +kernel)) ggX7_number_X7_mix
set_option maxRecDepth 20000 in
theorem zdX7_number_0 : dAll cX7_number [(0, .aload_n 0, 1), (1, .getfield 48, 3), (4, .ldc 51, 2), (6, .iload_n 1, 1), (7, .imul, 1), (8, .iadd, 1), (9, .bipush 31, 2), (11, .iload_n 2, 1), (12, .imul, 1), (13, .iadd, 1), (14, .invokestatic 52, 3), (17, .iconst 4, 1), (18, .iushr, 1), (19, .iload_n 3, 1), (20, .irem, 1), (21, .ireturn, 1)] := dAll_of (by decide +kernel)
theorem dX7_number_0 : decode cX7_number 0 = .ok (.aload_n 0, 1) := zdX7_number_0.1
theorem dX7_number_1 : decode cX7_number 1 = .ok (.getfield 48, 3) := zdX7_number_0.2.1
theorem dX7_number_4 : decode cX7_number 4 = .ok (.ldc 51, 2) := zdX7_number_0.2.2.1
theorem dX7_number_6 : decode cX7_number 6 = .ok (.iload_n 1, 1) := zdX7_number_0.2.2.2.1
theorem dX7_number_7 : decode cX7_number 7 = .ok (.imul, 1) := zdX7_number_0.2.2.2.2.1
theorem dX7_number_8 : decode cX7_number 8 = .ok (.iadd, 1) := zdX7_number_0.2.2.2.2.2.1
theorem dX7_number_9 : decode cX7_number 9 = .ok (.bipush 31, 2) := zdX7_number_0.2.2.2.2.2.2.1
theorem dX7_number_11 : decode cX7_number 11 = .ok (.iload_n 2, 1) := zdX7_number_0.2.2.2.2.2.2.2.1
theorem dX7_number_12 : decode cX7_number 12 = .ok (.imul, 1) := zdX7_number_0.2.2.2.2.2.2.2.2.1
theorem dX7_number_13 : decode cX7_number 13 = .ok (.iadd, 1) := zdX7_number_0.2.2.2.2.2.2.2.2.2.1
theorem dX7_number_14 : decode cX7_number 14 = .ok (.invokestatic 52, 3) := zdX7_number_0.2.2.2.2.2.2.2.2.2.2.1
theorem dX7_number_17 : decode cX7_number 17 = .ok (.iconst 4, 1) := zdX7_number_0.2.2.2.2.2.2.2.2.2.2.2.1
theorem dX7_number_18 : decode cX7_number 18 = .ok (.iushr, 1) := zdX7_number_0.2.2.2.2.2.2.2.2.2.2.2.2.1
theorem dX7_number_19 : decode cX7_number 19 = .ok (.iload_n 3, 1) := zdX7_number_0.2.2.2.2.2.2.2.2.2.2.2.2.2.1
theorem dX7_number_20 : decode cX7_number 20 = .ok (.irem, 1) := zdX7_number_0.2.2.2.2.2.2.2.2.2.2.2.2.2.2.1
theorem dX7_number_21 : decode cX7_number 21 = .ok (.ireturn, 1) := zdX7_number_0.2.2.2.2.2.2.2.2.2.2.2.2.2.2.2.1
set_option maxRecDepth 20000 in
theorem zdX7_set_0 : dAll cX7_set [(0, .aload_n 0, 1), (1, .getfield 7, 3), (4, .iload_n 1, 1), (5, .iload_n 2, 1), (6, .iastore, 1), (7, .aload_n 0, 1), (8, .getfield 13, 3), (11, .iload_n 1, 1), (12, .iconst 1, 1), (13, .bastore, 1), (14, .aload_n 0, 1), (15, .getfield 17, 3), (18, .iload_n 1, 1), (19, .iload_n 3, 1), (20, .iastore, 1), (21, .aload_n 0, 1), (22, .getfield 20, 3), (25, .iload_n 1, 1), (26, .iload 4, 2), (28, .iastore, 1), (29, .aload_n 0, 1), (30, .getfield 23, 3), (33, .iload_n 1, 1), (34, .iload 5, 2), (36, .iastore, 1), (37, .return_, 1)] := dAll_of (by decide +kernel)
theorem dX7_set_0 : decode cX7_set 0 = .ok (.aload_n 0, 1) := zdX7_set_0.1
theorem dX7_set_1 : decode cX7_set 1 = .ok (.getfield 7, 3) := zdX7_set_0.2.1
theorem dX7_set_4 : decode cX7_set 4 = .ok (.iload_n 1, 1) := zdX7_set_0.2.2.1
theorem dX7_set_5 : decode cX7_set 5 = .ok (.iload_n 2, 1) := zdX7_set_0.2.2.2.1
theorem dX7_set_6 : decode cX7_set 6 = .ok (.iastore, 1) := zdX7_set_0.2.2.2.2.1
theorem dX7_set_7 : decode cX7_set 7 = .ok (.aload_n 0, 1) := zdX7_set_0.2.2.2.2.2.1
theorem dX7_set_8 : decode cX7_set 8 = .ok (.getfield 13, 3) := zdX7_set_0.2.2.2.2.2.2.1
theorem dX7_set_11 : decode cX7_set 11 = .ok (.iload_n 1, 1) := zdX7_set_0.2.2.2.2.2.2.2.1
theorem dX7_set_12 : decode cX7_set 12 = .ok (.iconst 1, 1) := zdX7_set_0.2.2.2.2.2.2.2.2.1
theorem dX7_set_13 : decode cX7_set 13 = .ok (.bastore, 1) := zdX7_set_0.2.2.2.2.2.2.2.2.2.1
theorem dX7_set_14 : decode cX7_set 14 = .ok (.aload_n 0, 1) := zdX7_set_0.2.2.2.2.2.2.2.2.2.2.1
theorem dX7_set_15 : decode cX7_set 15 = .ok (.getfield 17, 3) := zdX7_set_0.2.2.2.2.2.2.2.2.2.2.2.1
theorem dX7_set_18 : decode cX7_set 18 = .ok (.iload_n 1, 1) := zdX7_set_0.2.2.2.2.2.2.2.2.2.2.2.2.1
theorem dX7_set_19 : decode cX7_set 19 = .ok (.iload_n 3, 1) := zdX7_set_0.2.2.2.2.2.2.2.2.2.2.2.2.2.1
theorem dX7_set_20 : decode cX7_set 20 = .ok (.iastore, 1) := zdX7_set_0.2.2.2.2.2.2.2.2.2.2.2.2.2.2.1
theorem dX7_set_21 : decode cX7_set 21 = .ok (.aload_n 0, 1) := zdX7_set_0.2.2.2.2.2.2.2.2.2.2.2.2.2.2.2.1
theorem dX7_set_22 : decode cX7_set 22 = .ok (.getfield 20, 3) := zdX7_set_0.2.2.2.2.2.2.2.2.2.2.2.2.2.2.2.2.1
theorem dX7_set_25 : decode cX7_set 25 = .ok (.iload_n 1, 1) := zdX7_set_0.2.2.2.2.2.2.2.2.2.2.2.2.2.2.2.2.2.1
theorem dX7_set_26 : decode cX7_set 26 = .ok (.iload 4, 2) := zdX7_set_0.2.2.2.2.2.2.2.2.2.2.2.2.2.2.2.2.2.2.1
theorem dX7_set_28 : decode cX7_set 28 = .ok (.iastore, 1) := zdX7_set_0.2.2.2.2.2.2.2.2.2.2.2.2.2.2.2.2.2.2.2.1
theorem dX7_set_29 : decode cX7_set 29 = .ok (.aload_n 0, 1) := zdX7_set_0.2.2.2.2.2.2.2.2.2.2.2.2.2.2.2.2.2.2.2.2.1
theorem dX7_set_30 : decode cX7_set 30 = .ok (.getfield 23, 3) := zdX7_set_0.2.2.2.2.2.2.2.2.2.2.2.2.2.2.2.2.2.2.2.2.2.1
theorem dX7_set_33 : decode cX7_set 33 = .ok (.iload_n 1, 1) := zdX7_set_0.2.2.2.2.2.2.2.2.2.2.2.2.2.2.2.2.2.2.2.2.2.2.1
theorem dX7_set_34 : decode cX7_set 34 = .ok (.iload 5, 2) := zdX7_set_0.2.2.2.2.2.2.2.2.2.2.2.2.2.2.2.2.2.2.2.2.2.2.2.1
theorem dX7_set_36 : decode cX7_set 36 = .ok (.iastore, 1) := zdX7_set_0.2.2.2.2.2.2.2.2.2.2.2.2.2.2.2.2.2.2.2.2.2.2.2.2.1
theorem dX7_set_37 : decode cX7_set 37 = .ok (.return_, 1) := zdX7_set_0.2.2.2.2.2.2.2.2.2.2.2.2.2.2.2.2.2.2.2.2.2.2.2.2.2.1
set_option maxRecDepth 20000 in
theorem ggX7_make_X7_set : GoodIn wsX7_make wsX7_set := goodIn_r _ [11, 12, 5, 13, 14, 6, 25, 26, 27, 28, 29, 30, 31, 32, 33, 34, 35, 36, 37, 38, 39, 40, 41, 42, 43] rfl (by decide +kernel)
set_option maxRecDepth 20000 in
theorem gX7_make_X7_set : GoodIn wsX7_make (wsV RX7 65 RX7 yX7_set wsX7_set) := goodIn_app (goodIn_of _ (by decide +kernel)) ggX7_make_X7_set
set_option maxRecDepth 20000 in
theorem ggX7_make_X7_number : GoodIn wsX7_make wsX7_number := goodIn_r _ [18, 1, 19, 20, 21, 10, 22, 23, 24, 25, 26, 27, 28, 29, 30, 31, 32, 33, 34, 35, 36, 37, 38, 39, 40, 41, 42, 43] rfl (by decide +kernel)
set_option maxRecDepth 20000 in
theorem gX7_make_X7_number : GoodIn wsX7_make (wsV RX7 69 RX7 yX7_number wsX7_number) := goodIn_app (goodIn_of _ (by decide +kernel)) ggX7_make_X7_number
set_option maxRecDepth 20000 in
theorem zdX7_make_0 : dAll cX7_make [(0, .aload_n 0, 1), (1, .iload_n 1, 1), (2, .putfield 48, 3), (5, .aload_n 0, 1), (6, .iconst 1, 1), (7, .iload_n 2, 1), (8, .iadd, 1), (9, .putfield 56, 3), (12, .aload_n 0, 1), (13, .iconst 1, 1), (14, .iload_n 2, 1), (15, .iconst 2, 1), (16, .idiv, 1), (17, .iadd, 1), (18, .putfield 59, 3), (21, .aload_n 0, 1), (22, .iconst 1, 1), (23, .iload_n 2, 1), (24, .iadd, 1), (25, .putfield 62, 3), (28, .iconst 0, 1), (29, .istore_n 3, 1), (30, .iload_n 3, 1), (31, .bipush 62, 2), (33, .if_icmp .ge 25, 3), (36, .aload_n 0, 1), (37, .iload_n 3, 1), (38, .iconst (-1), 1), (39, .iconst 0, 1), (40, .iconst 0, 1)] := dAll_of (by decide +kernel)
theorem dX7_make_0 : decode cX7_make 0 = .ok (.aload_n 0, 1) := zdX7_make_0.1
theorem dX7_make_1 : decode cX7_make 1 = .ok (.iload_n 1, 1) := zdX7_make_0.2.1
theorem dX7_make_2 : decode cX7_make 2 = .ok (.putfield 48, 3) := zdX7_make_0.2.2.1
theorem dX7_make_5 : decode cX7_make 5 = .ok (.aload_n 0, 1) := zdX7_make_0.2.2.2.1
theorem dX7_make_6 : decode cX7_make 6 = .ok (.iconst 1, 1) := zdX7_make_0.2.2.2.2.1
theorem dX7_make_7 : decode cX7_make 7 = .ok (.iload_n 2, 1) := zdX7_make_0.2.2.2.2.2.1
theorem dX7_make_8 : decode cX7_make 8 = .ok (.iadd, 1) := zdX7_make_0.2.2.2.2.2.2.1
theorem dX7_make_9 : decode cX7_make 9 = .ok (.putfield 56, 3) := zdX7_make_0.2.2.2.2.2.2.2.1
theorem dX7_make_12 : decode cX7_make 12 = .ok (.aload_n 0, 1) := zdX7_make_0.2.2.2.2.2.2.2.2.1
theorem dX7_make_13 : decode cX7_make 13 = .ok (.iconst 1, 1) := zdX7_make_0.2.2.2.2.2.2.2.2.2.1
theorem dX7_make_14 : decode cX7_make 14 = .ok (.iload_n 2, 1) := zdX7_make_0.2.2.2.2.2.2.2.2.2.2.1
theorem dX7_make_15 : decode cX7_make 15 = .ok (.iconst 2, 1) := zdX7_make_0.2.2.2.2.2.2.2.2.2.2.2.1
theorem dX7_make_16 : decode cX7_make 16 = .ok (.idiv, 1) := zdX7_make_0.2.2.2.2.2.2.2.2.2.2.2.2.1
theorem dX7_make_17 : decode cX7_make 17 = .ok (.iadd, 1) := zdX7_make_0.2.2.2.2.2.2.2.2.2.2.2.2.2.1
theorem dX7_make_18 : decode cX7_make 18 = .ok (.putfield 59, 3) := zdX7_make_0.2.2.2.2.2.2.2.2.2.2.2.2.2.2.1
theorem dX7_make_21 : decode cX7_make 21 = .ok (.aload_n 0, 1) := zdX7_make_0.2.2.2.2.2.2.2.2.2.2.2.2.2.2.2.1
theorem dX7_make_22 : decode cX7_make 22 = .ok (.iconst 1, 1) := zdX7_make_0.2.2.2.2.2.2.2.2.2.2.2.2.2.2.2.2.1
theorem dX7_make_23 : decode cX7_make 23 = .ok (.iload_n 2, 1) := zdX7_make_0.2.2.2.2.2.2.2.2.2.2.2.2.2.2.2.2.2.1
theorem dX7_make_24 : decode cX7_make 24 = .ok (.iadd, 1) := zdX7_make_0.2.2.2.2.2.2.2.2.2.2.2.2.2.2.2.2.2.2.1
theorem dX7_make_25 : decode cX7_make 25 = .ok (.putfield 62, 3) := zdX7_make_0.2.2.2.2.2.2.2.2.2.2.2.2.2.2.2.2.2.2.2.1
theorem dX7_make_28 : decode cX7_make 28 = .ok (.iconst 0, 1) := zdX7_make_0.2.2.2.2.2.2.2.2.2.2.2.2.2.2.2.2.2.2.2.2.1
theorem dX7_make_29 : decode cX7_make 29 = .ok (.istore_n 3, 1) := zdX7_make_0.2.2.2.2.2.2.2.2.2.2.2.2.2.2.2.2.2.2.2.2.2.1
theorem dX7_make_30 : decode cX7_make 30 = .ok (.iload_n 3, 1) := zdX7_make_0.2.2.2.2.2.2.2.2.2.2.2.2.2.2.2.2.2.2.2.2.2.2.1
theorem dX7_make_31 : decode cX7_make 31 = .ok (.bipush 62, 2) := zdX7_make_0.2.2.2.2.2.2.2.2.2.2.2.2.2.2.2.2.2.2.2.2.2.2.2.1
theorem dX7_make_33 : decode cX7_make 33 = .ok (.if_icmp .ge 25, 3) := zdX7_make_0.2.2.2.2.2.2.2.2.2.2.2.2.2.2.2.2.2.2.2.2.2.2.2.2.1
theorem dX7_make_36 : decode cX7_make 36 = .ok (.aload_n 0, 1) := zdX7_make_0.2.2.2.2.2.2.2.2.2.2.2.2.2.2.2.2.2.2.2.2.2.2.2.2.2.1
theorem dX7_make_37 : decode cX7_make 37 = .ok (.iload_n 3, 1) := zdX7_make_0.2.2.2.2.2.2.2.2.2.2.2.2.2.2.2.2.2.2.2.2.2.2.2.2.2.2.1
theorem dX7_make_38 : decode cX7_make 38 = .ok (.iconst (-1), 1) := zdX7_make_0.2.2.2.2.2.2.2.2.2.2.2.2.2.2.2.2.2.2.2.2.2.2.2.2.2.2.2.1
theorem dX7_make_39 : decode cX7_make 39 = .ok (.iconst 0, 1) := zdX7_make_0.2.2.2.2.2.2.2.2.2.2.2.2.2.2.2.2.2.2.2.2.2.2.2.2.2.2.2.2.1
theorem dX7_make_40 : decode cX7_make 40 = .ok (.iconst 0, 1) := zdX7_make_0.2.2.2.2.2.2.2.2.2.2.2.2.2.2.2.2.2.2.2.2.2.2.2.2.2.2.2.2.2.1
set_option maxRecDepth 20000 in
theorem zdX7_make_41 : dAll cX7_make [(41, .iconst 0, 1), (42, .invokevirtual 65, 3), (45, .aload_n 0, 1), (46, .getfield 13, 3), (49, .iload_n 3, 1), (50, .iconst 0, 1), (51, .bastore, 1), (52, .iinc 3 1, 3), (55, .goto (-25), 3), (58, .iconst 1, 1), (59, .istore_n 3, 1), (60, .iload_n 3, 1), (61, .iload_n 2, 1), (62, .if_icmp .gt 35, 3), (65, .aload_n 0, 1), (66, .iload_n 3, 1), (67, .iconst 1, 1), (68, .isub, 1), (69, .iconst 0, 1), (70, .aload_n 0, 1), (71, .iconst 0, 1), (72, .iload_n 3, 1), (73, .iload_n 3, 1), (74, .invokevirtual 69, 3), (77, .iload_n 3, 1), (78, .iconst 1, 1), (79, .aload_n 0, 1), (80, .iconst 1, 1), (81, .iload_n 3, 1), (82, .bipush 99, 2)] := dAll_of (by decide +kernel)
theorem dX7_make_41 : decode cX7_make 41 = .ok (.iconst 0, 1) := zdX7_make_41.1
theorem dX7_make_42 : decode cX7_make 42 = .ok (.invokevirtual 65, 3) := zdX7_make_41.2.1
theorem dX7_make_45 : decode cX7_make 45 = .ok (.aload_n 0, 1) := zdX7_make_41.2.2.1
theorem dX7_make_46 : decode cX7_make 46 = .ok (.getfield 13, 3) := zdX7_make_41.2.2.2.1
theorem dX7_make_49 : decode cX7_make 49 = .ok (.iload_n 3, 1) := zdX7_make_41.2.2.2.2.1
theorem dX7_make_50 : decode cX7_make 50 = .ok (.iconst 0, 1) := zdX7_make_41.2.2.2.2.2.1
theorem dX7_make_51 : decode cX7_make 51 = .ok (.bastore, 1) := zdX7_make_41.2.2.2.2.2.2.1
theorem dX7_make_52 : decode cX7_make 52 = .ok (.iinc 3 1, 3) := zdX7_make_41.2.2.2.2.2.2.2.1
theorem dX7_make_55 : decode cX7_make 55 = .ok (.goto (-25), 3) := zdX7_make_41.2.2.2.2.2.2.2.2.1
theorem dX7_make_58 : decode cX7_make 58 = .ok (.iconst 1, 1) := zdX7_make_41.2.2.2.2.2.2.2.2.2.1
theorem dX7_make_59 : decode cX7_make 59 = .ok (.istore_n 3, 1) := zdX7_make_41.2.2.2.2.2.2.2.2.2.2.1
theorem dX7_make_60 : decode cX7_make 60 = .ok (.iload_n 3, 1) := zdX7_make_41.2.2.2.2.2.2.2.2.2.2.2.1
theorem dX7_make_61 : decode cX7_make 61 = .ok (.iload_n 2, 1) := zdX7_make_41.2.2.2.2.2.2.2.2.2.2.2.2.1
theorem dX7_make_62 : decode cX7_make 62 = .ok (.if_icmp .gt 35, 3) := zdX7_make_41.2.2.2.2.2.2.2.2.2.2.2.2.2.1
theorem dX7_make_65 : decode cX7_make 65 = .ok (.aload_n 0, 1) := zdX7_make_41.2.2.2.2.2.2.2.2.2.2.2.2.2.2.1
theorem dX7_make_66 : decode cX7_make 66 = .ok (.iload_n 3, 1) := zdX7_make_41.2.2.2.2.2.2.2.2.2.2.2.2.2.2.2.1
theorem dX7_make_67 : decode cX7_make 67 = .ok (.iconst 1, 1) := zdX7_make_41.2.2.2.2.2.2.2.2.2.2.2.2.2.2.2.2.1
theorem dX7_make_68 : decode cX7_make 68 = .ok (.isub, 1) := zdX7_make_41.2.2.2.2.2.2.2.2.2.2.2.2.2.2.2.2.2.1
theorem dX7_make_69 : decode cX7_make 69 = .ok (.iconst 0, 1) := zdX7_make_41.2.2.2.2.2.2.2.2.2.2.2.2.2.2.2.2.2.2.1
theorem dX7_make_70 : decode cX7_make 70 = .ok (.aload_n 0, 1) := zdX7_make_41.2.2.2.2.2.2.2.2.2.2.2.2.2.2.2.2.2.2.2.1
theorem dX7_make_71 : decode cX7_make 71 = .ok (.iconst 0, 1) := zdX7_make_41.2.2.2.2.2.2.2.2.2.2.2.2.2.2.2.2.2.2.2.2.1
theorem dX7_make_72 : decode cX7_make 72 = .ok (.iload_n 3, 1) := zdX7_make_41.2.2.2.2.2.2.2.2.2.2.2.2.2.2.2.2.2.2.2.2.2.1
theorem dX7_make_73 : decode cX7_make 73 = .ok (.iload_n 3, 1) := zdX7_make_41.2.2.2.2.2.2.2.2.2.2.2.2.2.2.2.2.2.2.2.2.2.2.1
theorem dX7_make_74 : decode cX7_make 74 = .ok (.invokevirtual 69, 3) := zdX7_make_41.2.2.2.2.2.2.2.2.2.2.2.2.2.2.2.2.2.2.2.2.2.2.2.1
theorem dX7_make_77 : decode cX7_make 77 = .ok (.iload_n 3, 1) := zdX7_make_41.2.2.2.2.2.2.2.2.2.2.2.2.2.2.2.2.2.2.2.2.2.2.2.2.1
theorem dX7_make_78 : decode cX7_make 78 = .ok (.iconst 1, 1) := zdX7_make_41.2.2.2.2.2.2.2.2.2.2.2.2.2.2.2.2.2.2.2.2.2.2.2.2.2.1
theorem dX7_make_79 : decode cX7_make 79 = .ok (.aload_n 0, 1) := zdX7_make_41.2.2.2.2.2.2.2.2.2.2.2.2.2.2.2.2.2.2.2.2.2.2.2.2.2.2.1
theorem dX7_make_80 : decode cX7_make 80 = .ok (.iconst 1, 1) := zdX7_make_41.2.2.2.2.2.2.2.2.2.2.2.2.2.2.2.2.2.2.2.2.2.2.2.2.2.2.2.1
theorem dX7_make_81 : decode cX7_make 81 = .ok (.iload_n 3, 1) := zdX7_make_41.2.2.2.2.2.2.2.2.2.2.2.2.2.2.2.2.2.2.2.2.2.2.2.2.2.2.2.2.1
theorem dX7_make_82 : decode cX7_make 82 = .ok (.bipush 99, 2) := zdX7_make_41.2.2.2.2.2.2.2.2.2.2.2.2.2.2.2.2.2.2.2.2.2.2.2.2.2.2.2.2.2.1
set_option maxRecDepth 20000 in
theorem zdX7_make_84 : dAll cX7_make [(84, .invokevirtual 69, 3), (87, .iadd, 1), (88, .invokevirtual 65, 3), (91, .iinc 3 1, 3), (94, .goto (-34), 3), (97, .iconst 0, 1), (98, .istore_n 3, 1), (99, .iload_n 3, 1), (100, .iload_n 2, 1), (101, .iconst 2, 1), (102, .idiv, 1), (103, .if_icmp .ge 90, 3), (106, .aload_n 0, 1), (107, .iconst 2, 1), (108, .iload_n 3, 1), (109, .aload_n 0, 1), (110, .getfield 56, 3), (113, .invokevirtual 69, 3), (116, .istore 4, 2), (118, .aload_n 0, 1), (119, .iconst 3, 1), (120, .iload_n 3, 1), (121, .aload_n 0, 1), (122, .getfield 56, 3), (125, .invokevirtual 69, 3), (128, .istore 5, 2), (130, .iload 4, 2), (132, .iload 5, 2), (134, .if_icmp .eq 53, 3), (137, .aload_n 0, 1)] := dAll_of (by decide +kernel)
theorem dX7_make_84 : decode cX7_make 84 = .ok (.invokevirtual 69, 3) := zdX7_make_84.1
theorem dX7_make_87 : decode cX7_make 87 = .ok (.iadd, 1) := zdX7_make_84.2.1
theorem dX7_make_88 : decode cX7_make 88 = .ok (.invokevirtual 65, 3) := zdX7_make_84.2.2.1
theorem dX7_make_91 : decode cX7_make 91 = .ok (.iinc 3 1, 3) := zdX7_make_84.2.2.2.1
theorem dX7_make_94 : decode cX7_make 94 = .ok (.goto (-34), 3) := zdX7_make_84.2.2.2.2.1
theorem dX7_make_97 : decode cX7_make 97 = .ok (.iconst 0, 1) := zdX7_make_84.2.2.2.2.2.1
theorem dX7_make_98 : decode cX7_make 98 = .ok (.istore_n 3, 1) := zdX7_make_84.2.2.2.2.2.2.1
theorem dX7_make_99 : decode cX7_make 99 = .ok (.iload_n 3, 1) := zdX7_make_84.2.2.2.2.2.2.2.1
theorem dX7_make_100 : decode cX7_make 100 = .ok (.iload_n 2, 1) := zdX7_make_84.2.2.2.2.2.2.2.2.1
theorem dX7_make_101 : decode cX7_make 101 = .ok (.iconst 2, 1) := zdX7_make_84.2.2.2.2.2.2.2.2.2.1
theorem dX7_make_102 : decode cX7_make 102 = .ok (.idiv, 1) := zdX7_make_84.2.2.2.2.2.2.2.2.2.2.1
theorem dX7_make_103 : decode cX7_make 103 = .ok (.if_icmp .ge 90, 3) := zdX7_make_84.2.2.2.2.2.2.2.2.2.2.2.1
theorem dX7_make_106 : decode cX7_make 106 = .ok (.aload_n 0, 1) := zdX7_make_84.2.2.2.2.2.2.2.2.2.2.2.2.1
theorem dX7_make_107 : decode cX7_make 107 = .ok (.iconst 2, 1) := zdX7_make_84.2.2.2.2.2.2.2.2.2.2.2.2.2.1
theorem dX7_make_108 : decode cX7_make 108 = .ok (.iload_n 3, 1) := zdX7_make_84.2.2.2.2.2.2.2.2.2.2.2.2.2.2.1
theorem dX7_make_109 : decode cX7_make 109 = .ok (.aload_n 0, 1) := zdX7_make_84.2.2.2.2.2.2.2.2.2.2.2.2.2.2.2.1
theorem dX7_make_110 : decode cX7_make 110 = .ok (.getfield 56, 3) := zdX7_make_84.2.2.2.2.2.2.2.2.2.2.2.2.2.2.2.2.1
theorem dX7_make_113 : decode cX7_make 113 = .ok (.invokevirtual 69, 3) := zdX7_make_84.2.2.2.2.2.2.2.2.2.2.2.2.2.2.2.2.2.1
theorem dX7_make_116 : decode cX7_make 116 = .ok (.istore 4, 2) := zdX7_make_84.2.2.2.2.2.2.2.2.2.2.2.2.2.2.2.2.2.2.1
theorem dX7_make_118 : decode cX7_make 118 = .ok (.aload_n 0, 1) := zdX7_make_84.2.2.2.2.2.2.2.2.2.2.2.2.2.2.2.2.2.2.2.1
theorem dX7_make_119 : decode cX7_make 119 = .ok (.iconst 3, 1) := zdX7_make_84.2.2.2.2.2.2.2.2.2.2.2.2.2.2.2.2.2.2.2.2.1
theorem dX7_make_120 : decode cX7_make 120 = .ok (.iload_n 3, 1) := zdX7_make_84.2.2.2.2.2.2.2.2.2.2.2.2.2.2.2.2.2.2.2.2.2.1
theorem dX7_make_121 : decode cX7_make 121 = .ok (.aload_n 0, 1) := zdX7_make_84.2.2.2.2.2.2.2.2.2.2.2.2.2.2.2.2.2.2.2.2.2.2.1
theorem dX7_make_122 : decode cX7_make 122 = .ok (.getfield 56, 3) := zdX7_make_84.2.2.2.2.2.2.2.2.2.2.2.2.2.2.2.2.2.2.2.2.2.2.2.1
theorem dX7_make_125 : decode cX7_make 125 = .ok (.invokevirtual 69, 3) := zdX7_make_84.2.2.2.2.2.2.2.2.2.2.2.2.2.2.2.2.2.2.2.2.2.2.2.2.1
theorem dX7_make_128 : decode cX7_make 128 = .ok (.istore 5, 2) := zdX7_make_84.2.2.2.2.2.2.2.2.2.2.2.2.2.2.2.2.2.2.2.2.2.2.2.2.2.1
theorem dX7_make_130 : decode cX7_make 130 = .ok (.iload 4, 2) := zdX7_make_84.2.2.2.2.2.2.2.2.2.2.2.2.2.2.2.2.2.2.2.2.2.2.2.2.2.2.1
theorem dX7_make_132 : decode cX7_make 132 = .ok (.iload 5, 2) := zdX7_make_84.2.2.2.2.2.2.2.2.2.2.2.2.2.2.2.2.2.2.2.2.2.2.2.2.2.2.2.1
theorem dX7_make_134 : decode cX7_make 134 = .ok (.if_icmp .eq 53, 3) := zdX7_make_84.2.2.2.2.2.2.2.2.2.2.2.2.2.2.2.2.2.2.2.2.2.2.2.2.2.2.2.2.1
theorem dX7_make_137 : decode cX7_make 137 = .ok (.aload_n 0, 1) := zdX7_make_84.2.2.2.2.2.2.2.2.2.2.2.2.2.2.2.2.2.2.2.2.2.2.2.2.2.2.2.2.2.1
set_option maxRecDepth 20000 in
theorem zdX7_make_138 : dAll cX7_make [(138, .bipush 20, 2), (140, .iload_n 3, 1), (141, .iadd, 1), (142, .iconst 0, 1), (143, .iload 4, 2), (145, .iload 5, 2), (147, .if_icmp .ge 8, 3), (150, .iload 4, 2), (152, .goto 5, 3), (155, .iload 5, 2), (157, .iload 4, 2)] := dAll_of (by decide +kernel)
theorem dX7_make_138 : decode cX7_make 138 = .ok (.bipush 20, 2) := zdX7_make_138.1
theorem dX7_make_140 : decode cX7_make 140 = .ok (.iload_n 3, 1) := zdX7_make_138.2.1
theorem dX7_make_141 : decode cX7_make 141 = .ok (.iadd, 1) := zdX7_make_138.2.2.1
theorem dX7_make_142 : decode cX7_make 142 = .ok (.iconst 0, 1) := zdX7_make_138.2.2.2.1
theorem dX7_make_143 : decode cX7_make 143 = .ok (.iload 4, 2) := zdX7_make_138.2.2.2.2.1
theorem dX7_make_145 : decode cX7_make 145 = .ok (.iload 5, 2) := zdX7_make_138.2.2.2.2.2.1
theorem dX7_make_147 : decode cX7_make 147 = .ok (.if_icmp .ge 8, 3) := zdX7_make_138.2.2.2.2.2.2.1
theorem dX7_make_150 : decode cX7_make 150 = .ok (.iload 4, 2) := zdX7_make_138.2.2.2.2.2.2.2.1
theorem dX7_make_152 : decode cX7_make 152 = .ok (.goto 5, 3) := zdX7_make_138.2.2.2.2.2.2.2.2.1
theorem dX7_make_155 : decode cX7_make 155 = .ok (.iload 5, 2) := zdX7_make_138.2.2.2.2.2.2.2.2.2.1
theorem dX7_make_157 : decode cX7_make 157 = .ok (.iload 4, 2) := zdX7_make_138.2.2.2.2.2.2.2.2.2.2.1
