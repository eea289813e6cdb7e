set_option maxRecDepth 20000 in
theorem ggX1_write_X4_clear : GoodIn wsX1_write wsX4_clear := goodIn_r _ [6, 7, 49, 50] rfl (by decide +kernel)
set_option maxRecDepth 20000 in
theorem gX1_write_X4_clear : GoodIn wsX1_write (wsV RX1 18 RX4 yX4_clear wsX4_clear) := goodIn_app (goodIn_of _ (by decide +kernel)) ggX1_write_X4_clear
set_option maxRecDepth 20000 in
theorem ggX1_write_X5_isThere : GoodIn wsX1_write wsX5_isThere := goodIn_r _ [12, 13, 14, 15, 16, 51, 52, 53, 54, 55, 56, 57, 58] rfl (by decide +kernel)
set_option maxRecDepth 20000 in
theorem gX1_write_X5_isThere : GoodIn wsX1_write (wsV RX1 21 RX5 yX5_isThere wsX5_isThere) := goodIn_app (goodIn_of _ (by decide +kernel)) ggX1_write_X5_isThere
set_option maxRecDepth 20000 in
theorem ggX1_write_X1_writePart : GoodIn wsX1_write wsX1_writePart := goodIn_r _ [21, 1, 22, 15, 23, 24, 25, 26, 5, 27, 7, 28, 29, 30, 31, 11, 32, 33, 14, 16, 34, 35, 36, 20, 37, 38, 39, 40, 41, 42, 43, 44, 45, 46, 47, 48, 49, 50, 51, 52, 53, 54, 55, 56, 57, 58] rfl (by decide +kernel)
set_option maxRecDepth 20000 in
theorem gX1_write_X1_writePart : GoodIn wsX1_write (wsV RX1 27 RX1 yX1_writePart wsX1_writePart) := goodIn_app (goodIn_of _ (by decide +kernel)) ggX1_write_X1_writePart
set_option maxRecDepth 20000 in
theorem ggX1_write_X4_add : GoodIn wsX1_write wsX4_add := goodIn_r _ [27, 7, 28, 49, 50] rfl (by decide +kernel)
set_option maxRecDepth 20000 in
theorem gX1_write_X4_add : GoodIn wsX1_write (wsV RX1 31 RX4 yX4_add wsX4_add) := goodIn_app (goodIn_of _ (by decide +kernel)) ggX1_write_X4_add
set_option maxRecDepth 20000 in
theorem zdX1_write_0 : dAll cX1_write [(0, .aload_n 0, 1), (1, .getfield 12, 3), (4, .invokevirtual 18, 3), (7, .iconst 0, 1), (8, .istore_n 2, 1), (9, .iload_n 2, 1), (10, .bipush 62, 2), (12, .if_icmp .ge 32, 3), (15, .aload_n 1, 1), (16, .iload_n 2, 1), (17, .invokevirtual 21, 3), (20, .ifCond .eq 18, 3), (23, .aload_n 0, 1), (24, .aload_n 1, 1), (25, .iload_n 2, 1), (26, .invokevirtual 27, 3), (29, .aload_n 0, 1), (30, .getfield 12, 3), (33, .bipush 59, 2), (35, .invokevirtual 31, 3), (38, .iinc 2 1, 3), (41, .goto (-32), 3), (44, .return_, 1)] := dAll_of (by decide +kernel)
theorem dX1_write_0 : decode cX1_write 0 = .ok (.aload_n 0, 1) := zdX1_write_0.1
theorem dX1_write_1 : decode cX1_write 1 = .ok (.getfield 12, 3) := zdX1_write_0.2.1
theorem dX1_write_4 : decode cX1_write 4 = .ok (.invokevirtual 18, 3) := zdX1_write_0.2.2.1
theorem dX1_write_7 : decode cX1_write 7 = .ok (.iconst 0, 1) := zdX1_write_0.2.2.2.1
theorem dX1_write_8 : decode cX1_write 8 = .ok (.istore_n 2, 1) := zdX1_write_0.2.2.2.2.1
theorem dX1_write_9 : decode cX1_write 9 = .ok (.iload_n 2, 1) := zdX1_write_0.2.2.2.2.2.1
theorem dX1_write_10 : decode cX1_write 10 = .ok (.bipush 62, 2) := zdX1_write_0.2.2.2.2.2.2.1
theorem dX1_write_12 : decode cX1_write 12 = .ok (.if_icmp .ge 32, 3) := zdX1_write_0.2.2.2.2.2.2.2.1
theorem dX1_write_15 : decode cX1_write 15 = .ok (.aload_n 1, 1) := zdX1_write_0.2.2.2.2.2.2.2.2.1
theorem dX1_write_16 : decode cX1_write 16 = .ok (.iload_n 2, 1) := zdX1_write_0.2.2.2.2.2.2.2.2.2.1
theorem dX1_write_17 : decode cX1_write 17 = .ok (.invokevirtual 21, 3) := zdX1_write_0.2.2.2.2.2.2.2.2.2.2.1
theorem dX1_write_20 : decode cX1_write 20 = .ok (.ifCond .eq 18, 3) := zdX1_write_0.2.2.2.2.2.2.2.2.2.2.2.1
theorem dX1_write_23 : decode cX1_write 23 = .ok (.aload_n 0, 1) := zdX1_write_0.2.2.2.2.2.2.2.2.2.2.2.2.1
theorem dX1_write_24 : decode cX1_write 24 = .ok (.aload_n 1, 1) := zdX1_write_0.2.2.2.2.2.2.2.2.2.2.2.2.2.1
theorem dX1_write_25 : decode cX1_write 25 = .ok (.iload_n 2, 1) := zdX1_write_0.2.2.2.2.2.2.2.2.2.2.2.2.2.2.1
theorem dX1_write_26 : decode cX1_write 26 = .ok (.invokevirtual 27, 3) := zdX1_write_0.2.2.2.2.2.2.2.2.2.2.2.2.2.2.2.1
theorem dX1_write_29 : decode cX1_write 29 = .ok (.aload_n 0, 1) := zdX1_write_0.2.2.2.2.2.2.2.2.2.2.2.2.2.2.2.2.1
theorem dX1_write_30 : decode cX1_write 30 = .ok (.getfield 12, 3) := zdX1_write_0.2.2.2.2.2.2.2.2.2.2.2.2.2.2.2.2.2.1
theorem dX1_write_33 : decode cX1_write 33 = .ok (.bipush 59, 2) := zdX1_write_0.2.2.2.2.2.2.2.2.2.2.2.2.2.2.2.2.2.2.1
theorem dX1_write_35 : decode cX1_write 35 = .ok (.invokevirtual 31, 3) := zdX1_write_0.2.2.2.2.2.2.2.2.2.2.2.2.2.2.2.2.2.2.2.1
theorem dX1_write_38 : decode cX1_write 38 = .ok (.iinc 2 1, 3) := zdX1_write_0.2.2.2.2.2.2.2.2.2.2.2.2.2.2.2.2.2.2.2.2.1
theorem dX1_write_41 : decode cX1_write 41 = .ok (.goto (-32), 3) := zdX1_write_0.2.2.2.2.2.2.2.2.2.2.2.2.2.2.2.2.2.2.2.2.2.1
theorem dX1_write_44 : decode cX1_write 44 = .ok (.return_, 1) := zdX1_write_0.2.2.2.2.2.2.2.2.2.2.2.2.2.2.2.2.2.2.2.2.2.2.1
set_option maxRecDepth 20000 in
theorem ggX1_writePart_X6_kindOf : GoodIn wsX1_writePart wsX6_kindOf := goodIn_r _ [4] rfl (by decide +kernel)
set_option maxRecDepth 20000 in
theorem gX1_writePart_X6_kindOf_n35 : GoodIn wsX1_writePart (wsX6_kindOf) := ggX1_writePart_X6_kindOf
set_option maxRecDepth 20000 in
theorem ggX1_writePart_X4_add : GoodIn wsX1_writePart wsX4_add := goodIn_r _ [9, 10, 11, 36, 37] rfl (by decide +kernel)
set_option maxRecDepth 20000 in
theorem gX1_writePart_X4_add : GoodIn wsX1_writePart (wsV RX1 31 RX4 yX4_add wsX4_add) := goodIn_app (goodIn_of _ (by decide +kernel)) ggX1_writePart_X4_add
set_option maxRecDepth 20000 in
theorem ggX1_writePart_X5_cornerOf : GoodIn wsX1_writePart wsX5_cornerOf := goodIn_r _ [16, 17, 18, 3, 19, 38, 39, 40, 41, 42, 43, 44, 45] rfl (by decide +kernel)
set_option maxRecDepth 20000 in
theorem gX1_writePart_X5_cornerOf : GoodIn wsX1_writePart (wsV RX1 39 RX5 yX5_cornerOf wsX5_cornerOf) := goodIn_app (goodIn_of _ (by decide +kernel)) ggX1_writePart_X5_cornerOf
set_option maxRecDepth 20000 in
theorem ggX1_writePart_X1_writeNumber : GoodIn wsX1_writePart wsX1_writeNumber := goodIn_r _ [24, 1, 5, 6, 7, 8, 9, 10, 11, 35, 36, 37] rfl (by decide +kernel)
set_option maxRecDepth 20000 in
theorem gX1_writePart_X1_writeNumber : GoodIn wsX1_writePart (wsV RX1 42 RX1 yX1_writeNumber wsX1_writeNumber) := goodIn_app (goodIn_of _ (by decide +kernel)) ggX1_writePart_X1_writeNumber
set_option maxRecDepth 20000 in
theorem ggX1_writePart_X5_secondOf : GoodIn wsX1_writePart wsX5_secondOf := goodIn_r _ [28, 29, 18, 3, 19, 38, 39, 40, 41, 42, 43, 44, 45] rfl (by decide +kernel)
set_option maxRecDepth 20000 in
theorem gX1_writePart_X5_secondOf : GoodIn wsX1_writePart (wsV RX1 45 RX5 yX5_secondOf wsX5_secondOf) := goodIn_app (goodIn_of _ (by decide +kernel)) ggX1_writePart_X5_secondOf
set_option maxRecDepth 20000 in
theorem ggX1_writePart_X5_thirdOf : GoodIn wsX1_writePart wsX5_thirdOf := goodIn_r _ [33, 34, 18, 3, 19, 38, 39, 40, 41, 42, 43, 44, 45] rfl (by decide +kernel)
set_option maxRecDepth 20000 in
theorem gX1_writePart_X5_thirdOf : GoodIn wsX1_writePart (wsV RX1 48 RX5 yX5_thirdOf wsX5_thirdOf) := goodIn_app (goodIn_of _ (by decide +kernel)) ggX1_writePart_X5_thirdOf
set_option maxRecDepth 20000 in
theorem zdX1_writePart_0 : dAll cX1_writePart [(0, .iload_n 2, 1), (1, .invokestatic 35, 3), (4, .istore_n 3, 1), (5, .aload_n 0, 1), (6, .getfield 12, 3), (9, .iload_n 3, 1), (10, .ifCond .ne 8, 3), (13, .bipush 115, 2), (15, .goto 15, 3), (18, .iload_n 3, 1), (19, .iconst 1, 1), (20, .if_icmp .ne 8, 3), (23, .bipush 117, 2), (25, .goto 5, 3), (28, .bipush 99, 2), (30, .invokevirtual 31, 3), (33, .aload_n 0, 1), (34, .aload_n 1, 1), (35, .iload_n 2, 1), (36, .invokevirtual 39, 3), (39, .invokevirtual 42, 3), (42, .aload_n 0, 1), (43, .getfield 12, 3), (46, .iload_n 3, 1), (47, .ifCond .ne 8, 3), (50, .bipush 45, 2), (52, .goto 5, 3), (55, .bipush 58, 2), (57, .invokevirtual 31, 3), (60, .aload_n 0, 1)] := dAll_of (by decide +kernel)
theorem dX1_writePart_0 : decode cX1_writePart 0 = .ok (.iload_n 2, 1) := zdX1_writePart_0.1
theorem dX1_writePart_1 : decode cX1_writePart 1 = .ok (.invokestatic 35, 3) := zdX1_writePart_0.2.1
theorem dX1_writePart_4 : decode cX1_writePart 4 = .ok (.istore_n 3, 1) := zdX1_writePart_0.2.2.1
theorem dX1_writePart_5 : decode cX1_writePart 5 = .ok (.aload_n 0, 1) := zdX1_writePart_0.2.2.2.1
theorem dX1_writePart_6 : decode cX1_writePart 6 = .ok (.getfield 12, 3) := zdX1_writePart_0.2.2.2.2.1
theorem dX1_writePart_9 : decode cX1_writePart 9 = .ok (.iload_n 3, 1) := zdX1_writePart_0.2.2.2.2.2.1
theorem dX1_writePart_10 : decode cX1_writePart 10 = .ok (.ifCond .ne 8, 3) := zdX1_writePart_0.2.2.2.2.2.2.1
theorem dX1_writePart_13 : decode cX1_writePart 13 = .ok (.bipush 115, 2) := zdX1_writePart_0.2.2.2.2.2.2.2.1
theorem dX1_writePart_15 : decode cX1_writePart 15 = .ok (.goto 15, 3) := zdX1_writePart_0.2.2.2.2.2.2.2.2.1
theorem dX1_writePart_18 : decode cX1_writePart 18 = .ok (.iload_n 3, 1) := zdX1_writePart_0.2.2.2.2.2.2.2.2.2.1
theorem dX1_writePart_19 : decode cX1_writePart 19 = .ok (.iconst 1, 1) := zdX1_writePart_0.2.2.2.2.2.2.2.2.2.2.1
theorem dX1_writePart_20 : decode cX1_writePart 20 = .ok (.if_icmp .ne 8, 3) := zdX1_writePart_0.2.2.2.2.2.2.2.2.2.2.2.1
theorem dX1_writePart_23 : decode cX1_writePart 23 = .ok (.bipush 117, 2) := zdX1_writePart_0.2.2.2.2.2.2.2.2.2.2.2.2.1
theorem dX1_writePart_25 : decode cX1_writePart 25 = .ok (.goto 5, 3) := zdX1_writePart_0.2.2.2.2.2.2.2.2.2.2.2.2.2.1
theorem dX1_writePart_28 : decode cX1_writePart 28 = .ok (.bipush 99, 2) := zdX1_writePart_0.2.2.2.2.2.2.2.2.2.2.2.2.2.2.1
theorem dX1_writePart_30 : decode cX1_writePart 30 = .ok (.invokevirtual 31, 3) := zdX1_writePart_0.2.2.2.2.2.2.2.2.2.2.2.2.2.2.2.1
theorem dX1_writePart_33 : decode cX1_writePart 33 = .ok (.aload_n 0, 1) := zdX1_writePart_0.2.2.2.2.2.2.2.2.2.2.2.2.2.2.2.2.1
theorem dX1_writePart_34 : decode cX1_writePart 34 = .ok (.aload_n 1, 1) := zdX1_writePart_0.2.2.2.2.2.2.2.2.2.2.2.2.2.2.2.2.2.1
theorem dX1_writePart_35 : decode cX1_writePart 35 = .ok (.iload_n 2, 1) := zdX1_writePart_0.2.2.2.2.2.2.2.2.2.2.2.2.2.2.2.2.2.2.1
theorem dX1_writePart_36 : decode cX1_writePart 36 = .ok (.invokevirtual 39, 3) := zdX1_writePart_0.2.2.2.2.2.2.2.2.2.2.2.2.2.2.2.2.2.2.2.1
theorem dX1_writePart_39 : decode cX1_writePart 39 = .ok (.invokevirtual 42, 3) := zdX1_writePart_0.2.2.2.2.2.2.2.2.2.2.2.2.2.2.2.2.2.2.2.2.1
theorem dX1_writePart_42 : decode cX1_writePart 42 = .ok (.aload_n 0, 1) := zdX1_writePart_0.2.2.2.2.2.2.2.2.2.2.2.2.2.2.2.2.2.2.2.2.2.1
theorem dX1_writePart_43 : decode cX1_writePart 43 = .ok (.getfield 12, 3) := zdX1_writePart_0.2.2.2.2.2.2.2.2.2.2.2.2.2.2.2.2.2.2.2.2.2.2.1
theorem dX1_writePart_46 : decode cX1_writePart 46 = .ok (.iload_n 3, 1) := zdX1_writePart_0.2.2.2.2.2.2.2.2.2.2.2.2.2.2.2.2.2.2.2.2.2.2.2.1
theorem dX1_writePart_47 : decode cX1_writePart 47 = .ok (.ifCond .ne 8, 3) := zdX1_writePart_0.2.2.2.2.2.2.2.2.2.2.2.2.2.2.2.2.2.2.2.2.2.2.2.2.1
theorem dX1_writePart_50 : decode cX1_writePart 50 = .ok (.bipush 45, 2) := zdX1_writePart_0.2.2.2.2.2.2.2.2.2.2.2.2.2.2.2.2.2.2.2.2.2.2.2.2.2.1
theorem dX1_writePart_52 : decode cX1_writePart 52 = .ok (.goto 5, 3) := zdX1_writePart_0.2.2.2.2.2.2.2.2.2.2.2.2.2.2.2.2.2.2.2.2.2.2.2.2.2.2.1
theorem dX1_writePart_55 : decode cX1_writePart 55 = .ok (.bipush 58, 2) := zdX1_writePart_0.2.2.2.2.2.2.2.2.2.2.2.2.2.2.2.2.2.2.2.2.2.2.2.2.2.2.2.1
theorem dX1_writePart_57 : decode cX1_writePart 57 = .ok (.invokevirtual 31, 3) := zdX1_writePart_0.2.2.2.2.2.2.2.2.2.2.2.2.2.2.2.2.2.2.2.2.2.2.2.2.2.2.2.2.1
theorem dX1_writePart_60 : decode cX1_writePart 60 = .ok (.aload_n 0, 1) := zdX1_writePart_0.2.2.2.2.2.2.2.2.2.2.2.2.2.2.2.2.2.2.2.2.2.2.2.2.2.2.2.2.2.1
set_option maxRecDepth 20000 in
theorem zdX1_writePart_61 : dAll cX1_writePart [(61, .aload_n 1, 1), (62, .iload_n 2, 1), (63, .invokevirtual 45, 3), (66, .invokevirtual 42, 3), (69, .iload_n 3, 1), (70, .iconst 1, 1), (71, .if_icmp .eq 30, 3), (74, .aload_n 0, 1), (75, .getfield 12, 3), (78, .iload_n 3, 1), (79, .ifCond .ne 8, 3), (82, .bipush 58, 2), (84, .goto 5, 3), (87, .bipush 64, 2), (89, .invokevirtual 31, 3), (92, .aload_n 0, 1), (93, .aload_n 1, 1), (94, .iload_n 2, 1), (95, .invokevirtual 48, 3), (98, .invokevirtual 42, 3), (101, .return_, 1)] := dAll_of (by decide +kernel)
theorem dX1_writePart_61 : decode cX1_writePart 61 = .ok (.aload_n 1, 1) := zdX1_writePart_61.1
theorem dX1_writePart_62 : decode cX1_writePart 62 = .ok (.iload_n 2, 1) := zdX1_writePart_61.2.1
theorem dX1_writePart_63 : decode cX1_writePart 63 = .ok (.invokevirtual 45, 3) := zdX1_writePart_61.2.2.1
theorem dX1_writePart_66 : decode cX1_writePart 66 = .ok (.invokevirtual 42, 3) := zdX1_writePart_61.2.2.2.1
theorem dX1_writePart_69 : decode cX1_writePart 69 = .ok (.iload_n 3, 1) := zdX1_writePart_61.2.2.2.2.1
theorem dX1_writePart_70 : decode cX1_writePart 70 = .ok (.iconst 1, 1) := zdX1_writePart_61.2.2.2.2.2.1
theorem dX1_writePart_71 : decode cX1_writePart 71 = .ok (.if_icmp .eq 30, 3) := zdX1_writePart_61.2.2.2.2.2.2.1
theorem dX1_writePart_74 : decode cX1_writePart 74 = .ok (.aload_n 0, 1) := zdX1_writePart_61.2.2.2.2.2.2.2.1
theorem dX1_writePart_75 : decode cX1_writePart 75 = .ok (.getfield 12, 3) := zdX1_writePart_61.2.2.2.2.2.2.2.2.1
theorem dX1_writePart_78 : decode cX1_writePart 78 = .ok (.iload_n 3, 1) := zdX1_writePart_61.2.2.2.2.2.2.2.2.2.1
theorem dX1_writePart_79 : decode cX1_writePart 79 = .ok (.ifCond .ne 8, 3) := zdX1_writePart_61.2.2.2.2.2.2.2.2.2.2.1
theorem dX1_writePart_82 : decode cX1_writePart 82 = .ok (.bipush 58, 2) := zdX1_writePart_61.2.2.2.2.2.2.2.2.2.2.2.1
theorem dX1_writePart_84 : decode cX1_writePart 84 = .ok (.goto 5, 3) := zdX1_writePart_61.2.2.2.2.2.2.2.2.2.2.2.2.1
theorem dX1_writePart_87 : decode cX1_writePart 87 = .ok (.bipush 64, 2) := zdX1_writePart_61.2.2.2.2.2.2.2.2.2.2.2.2.2.1
theorem dX1_writePart_89 : decode cX1_writePart 89 = .ok (.invokevirtual 31, 3) := zdX1_writePart_61.2.2.2.2.2.2.2.2.2.2.2.2.2.2.1
theorem dX1_writePart_92 : decode cX1_writePart 92 = .ok (.aload_n 0, 1) := zdX1_writePart_61.2.2.2.2.2.2.2.2.2.2.2.2.2.2.2.1
theorem dX1_writePart_93 : decode cX1_writePart 93 = .ok (.aload_n 1, 1) := zdX1_writePart_61.2.2.2.2.2.2.2.2.2.2.2.2.2.2.2.2.1
theorem dX1_writePart_94 : decode cX1_writePart 94 = .ok (.iload_n 2, 1) := zdX1_writePart_61.2.2.2.2.2.2.2.2.2.2.2.2.2.2.2.2.2.1
theorem dX1_writePart_95 : decode cX1_writePart 95 = .ok (.invokevirtual 48, 3) := zdX1_writePart_61.2.2.2.2.2.2.2.2.2.2.2.2.2.2.2.2.2.2.1
theorem dX1_writePart_98 : decode cX1_writePart 98 = .ok (.invokevirtual 42, 3) := zdX1_writePart_61.2.2.2.2.2.2.2.2.2.2.2.2.2.2.2.2.2.2.2.1
theorem dX1_writePart_101 : decode cX1_writePart 101 = .ok (.return_, 1) := zdX1_writePart_61.2.2.2.2.2.2.2.2.2.2.2.2.2.2.2.2.2.2.2.2.1
set_option maxRecDepth 20000 in
theorem ggX1_writeNumber_X4_add : GoodIn wsX1_writeNumber wsX4_add := goodIn_r _ [6, 7, 8, 10, 11] rfl (by decide +kernel)
set_option maxRecDepth 20000 in
theorem gX1_writeNumber_X4_add : GoodIn wsX1_writeNumber (wsV RX1 31 RX4 yX4_add wsX4_add) := goodIn_app (goodIn_of _ (by decide +kernel)) ggX1_writeNumber_X4_add
set_option maxRecDepth 20000 in
theorem zdX1_writeNumber_0 : dAll cX1_writeNumber [(0, .iload_n 1, 1), (1, .sipush 1000, 3), (4, .if_icmp .lt 21, 3), (7, .aload_n 0, 1), (8, .getfield 12, 3), (11, .bipush 48, 2), (13, .iload_n 1, 1), (14, .sipush 1000, 3), (17, .idiv, 1), (18, .bipush 10, 2), (20, .irem, 1), (21, .iadd, 1), (22, .invokevirtual 31, 3), (25, .iload_n 1, 1), (26, .bipush 100, 2), (28, .if_icmp .lt 20, 3), (31, .aload_n 0, 1), (32, .getfield 12, 3), (35, .bipush 48, 2), (37, .iload_n 1, 1), (38, .bipush 100, 2), (40, .idiv, 1), (41, .bipush 10, 2), (43, .irem, 1), (44, .iadd, 1), (45, .invokevirtual 31, 3), (48, .iload_n 1, 1), (49, .bipush 10, 2), (51, .if_icmp .lt 20, 3), (54, .aload_n 0, 1)] := dAll_of (by decide +kernel)
theorem dX1_writeNumber_0 : decode cX1_writeNumber 0 = .ok (.iload_n 1, 1) := zdX1_writeNumber_0.1
theorem dX1_writeNumber_1 : decode cX1_writeNumber 1 = .ok (.sipush 1000, 3) := zdX1_writeNumber_0.2.1
theorem dX1_writeNumber_4 : decode cX1_writeNumber 4 = .ok (.if_icmp .lt 21, 3) := zdX1_writeNumber_0.2.2.1
theorem dX1_writeNumber_7 : decode cX1_writeNumber 7 = .ok (.aload_n 0, 1) := zdX1_writeNumber_0.2.2.2.1
theorem dX1_writeNumber_8 : decode cX1_writeNumber 8 = .ok (.getfield 12, 3) := zdX1_writeNumber_0.2.2.2.2.1
theorem dX1_writeNumber_11 : decode cX1_writeNumber 11 = .ok (.bipush 48, 2) := zdX1_writeNumber_0.2.2.2.2.2.1
theorem dX1_writeNumber_13 : decode cX1_writeNumber 13 = .ok (.iload_n 1, 1) := zdX1_writeNumber_0.2.2.2.2.2.2.1
theorem dX1_writeNumber_14 : decode cX1_writeNumber 14 = .ok (.sipush 1000, 3) := zdX1_writeNumber_0.2.2.2.2.2.2.2.1
theorem dX1_writeNumber_17 : decode cX1_writeNumber 17 = .ok (.idiv, 1) := zdX1_writeNumber_0.2.2.2.2.2.2.2.2.1
theorem dX1_writeNumber_18 : decode cX1_writeNumber 18 = .ok (.bipush 10, 2) := zdX1_writeNumber_0.2.2.2.2.2.2.2.2.2.1
theorem dX1_writeNumber_20 : decode cX1_writeNumber 20 = .ok (.irem, 1) := zdX1_writeNumber_0.2.2.2.2.2.2.2.2.2.2.1
theorem dX1_writeNumber_21 : decode cX1_writeNumber 21 = .ok (.iadd, 1) := zdX1_writeNumber_0.2.2.2.2.2.2.2.2.2.2.2.1
theorem dX1_writeNumber_22 : decode cX1_writeNumber 22 = .ok (.invokevirtual 31, 3) := zdX1_writeNumber_0.2.2.2.2.2.2.2.2.2.2.2.2.1
theorem dX1_writeNumber_25 : decode cX1_writeNumber 25 = .ok (.iload_n 1, 1) := zdX1_writeNumber_0.2.2.2.2.2.2.2.2.2.2.2.2.2.1
theorem dX1_writeNumber_26 : decode cX1_writeNumber 26 = .ok (.bipush 100, 2) := zdX1_writeNumber_0.2.2.2.2.2.2.2.2.2.2.2.2.2.2.1
theorem dX1_writeNumber_28 : decode cX1_writeNumber 28 = .ok (.if_icmp .lt 20, 3) := zdX1_writeNumber_0.2.2.2.2.2.2.2.2.2.2.2.2.2.2.2.1
theorem dX1_writeNumber_31 : decode cX1_writeNumber 31 = .ok (.aload_n 0, 1) := zdX1_writeNumber_0.2.2.2.2.2.2.2.2.2.2.2.2.2.2.2.2.1
theorem dX1_writeNumber_32 : decode cX1_writeNumber 32 = .ok (.getfield 12, 3) := zdX1_writeNumber_0.2.2.2.2.2.2.2.2.2.2.2.2.2.2.2.2.2.1
theorem dX1_writeNumber_35 : decode cX1_writeNumber 35 = .ok (.bipush 48, 2) := zdX1_writeNumber_0.2.2.2.2.2.2.2.2.2.2.2.2.2.2.2.2.2.2.1
theorem dX1_writeNumber_37 : decode cX1_writeNumber 37 = .ok (.iload_n 1, 1) := zdX1_writeNumber_0.2.2.2.2.2.2.2.2.2.2.2.2.2.2.2.2.2.2.2.1
theorem dX1_writeNumber_38 : decode cX1_writeNumber 38 = .ok (.bipush 100, 2) := zdX1_writeNumber_0.2.2.2.2.2.2.2.2.2.2.2.2.2.2.2.2.2.2.2.2.1
theorem dX1_writeNumber_40 : decode cX1_writeNumber 40 = .ok (.idiv, 1) := zdX1_writeNumber_0.2.2.2.2.2.2.2.2.2.2.2.2.2.2.2.2.2.2.2.2.2.1
theorem dX1_writeNumber_41 : decode cX1_writeNumber 41 = .ok (.bipush 10, 2) := zdX1_writeNumber_0.2.2.2.2.2.2.2.2.2.2.2.2.2.2.2.2.2.2.2.2.2.2.1
theorem dX1_writeNumber_43 : decode cX1_writeNumber 43 = .ok (.irem, 1) := zdX1_writeNumber_0.2.2.2.2.2.2.2.2.2.2.2.2.2.2.2.2.2.2.2.2.2.2.2.1
theorem dX1_writeNumber_44 : decode cX1_writeNumber 44 = .ok (.iadd, 1) := zdX1_writeNumber_0.2.2.2.2.2.2.2.2.2.2.2.2.2.2.2.2.2.2.2.2.2.2.2.2.1
theorem dX1_writeNumber_45 : decode cX1_writeNumber 45 = .ok (.invokevirtual 31, 3) := zdX1_writeNumber_0.2.2.2.2.2.2.2.2.2.2.2.2.2.2.2.2.2.2.2.2.2.2.2.2.2.1
theorem dX1_writeNumber_48 : decode cX1_writeNumber 48 = .ok (.iload_n 1, 1) := zdX1_writeNumber_0.2.2.2.2.2.2.2.2.2.2.2.2.2.2.2.2.2.2.2.2.2.2.2.2.2.2.1
theorem dX1_writeNumber_49 : decode cX1_writeNumber 49 = .ok (.bipush 10, 2) := zdX1_writeNumber_0.2.2.2.2.2.2.2.2.2.2.2.2.2.2.2.2.2.2.2.2.2.2.2.2.2.2.2.1
theorem dX1_writeNumber_51 : decode cX1_writeNumber 51 = .ok (.if_icmp .lt 20, 3) := zdX1_writeNumber_0.2.2.2.2.2.2.2.2.2.2.2.2.2.2.2.2.2.2.2.2.2.2.2.2.2.2.2.2.1
theorem dX1_writeNumber_54 : decode cX1_writeNumber 54 = .ok (.aload_n 0, 1) := zdX1_writeNumber_0.2.2.2.2.2.2.2.2.2.2.2.2.2.2.2.2.2.2.2.2.2.2.2.2.2.2.2.2.2.1
set_option maxRecDepth 20000 in
theorem zdX1_writeNumber_55 : dAll cX1_writeNumber [(55, .getfield 12, 3), (58, .bipush 48, 2), (60, .iload_n 1, 1), (61, .bipush 10, 2), (63, .idiv, 1), (64, .bipush 10, 2), (66, .irem, 1), (67, .iadd, 1), (68, .invokevirtual 31, 3), (71, .aload_n 0, 1), (72, .getfield 12, 3), (75, .bipush 48, 2), (77, .iload_n 1, 1), (78, .bipush 10, 2), (80, .irem, 1), (81, .iadd, 1), (82, .invokevirtual 31, 3), (85, .return_, 1)] := dAll_of (by decide +kernel)
theorem dX1_writeNumber_55 : decode cX1_writeNumber 55 = .ok (.getfield 12, 3) := zdX1_writeNumber_55.1
theorem dX1_writeNumber_58 : decode cX1_writeNumber 58 = .ok (.bipush 48, 2) := zdX1_writeNumber_55.2.1
theorem dX1_writeNumber_60 : decode cX1_writeNumber 60 = .ok (.iload_n 1, 1) := zdX1_writeNumber_55.2.2.1
theorem dX1_writeNumber_61 : decode cX1_writeNumber 61 = .ok (.bipush 10, 2) := zdX1_writeNumber_55.2.2.2.1
theorem dX1_writeNumber_63 : decode cX1_writeNumber 63 = .ok (.idiv, 1) := zdX1_writeNumber_55.2.2.2.2.1
theorem dX1_writeNumber_64 : decode cX1_writeNumber 64 = .ok (.bipush 10, 2) := zdX1_writeNumber_55.2.2.2.2.2.1
theorem dX1_writeNumber_66 : decode cX1_writeNumber 66 = .ok (.irem, 1) := zdX1_writeNumber_55.2.2.2.2.2.2.1
theorem dX1_writeNumber_67 : decode cX1_writeNumber 67 = .ok (.iadd, 1) := zdX1_writeNumber_55.2.2.2.2.2.2.2.1
theorem dX1_writeNumber_68 : decode cX1_writeNumber 68 = .ok (.invokevirtual 31, 3) := zdX1_writeNumber_55.2.2.2.2.2.2.2.2.1
theorem dX1_writeNumber_71 : decode cX1_writeNumber 71 = .ok (.aload_n 0, 1) := zdX1_writeNumber_55.2.2.2.2.2.2.2.2.2.1
theorem dX1_writeNumber_72 : decode cX1_writeNumber 72 = .ok (.getfield 12, 3) := zdX1_writeNumber_55.2.2.2.2.2.2.2.2.2.2.1
theorem dX1_writeNumber_75 : decode cX1_writeNumber 75 = .ok (.bipush 48, 2) := zdX1_writeNumber_55.2.2.2.2.2.2.2.2.2.2.2.1
theorem dX1_writeNumber_77 : decode cX1_writeNumber 77 = .ok (.iload_n 1, 1) := zdX1_writeNumber_55.2.2.2.2.2.2.2.2.2.2.2.2.1
theorem dX1_writeNumber_78 : decode cX1_writeNumber 78 = .ok (.bipush 10, 2) := zdX1_writeNumber_55.2.2.2.2.2.2.2.2.2.2.2.2.2.1
theorem dX1_writeNumber_80 : decode cX1_writeNumber 80 = .ok (.irem, 1) := zdX1_writeNumber_55.2.2.2.2.2.2.2.2.2.2.2.2.2.2.1
theorem dX1_writeNumber_81 : decode cX1_writeNumber 81 = .ok (.iadd, 1) := zdX1_writeNumber_55.2.2.2.2.2.2.2.2.2.2.2.2.2.2.2.1
theorem dX1_writeNumber_82 : decode cX1_writeNumber 82 = .ok (.invokevirtual 31, 3) := zdX1_writeNumber_55.2.2.2.2.2.2.2.2.2.2.2.2.2.2.2.2.1
theorem dX1_writeNumber_85 : decode cX1_writeNumber 85 = .ok (.return_, 1) := zdX1_writeNumber_55.2.2.2.2.2.2.2.2.2.2.2.2.2.2.2.2.2.1
set_option maxRecDepth 20000 in
theorem ggX2_init_X4_init : GoodIn wsX2_init wsX4_init := goodIn_r _ [12, 13, 2, 3, 8, 14, 15, 16] rfl (by decide +kernel)
set_option maxRecDepth 20000 in
theorem gX2_init_X4_init : GoodIn wsX2_init (wsX4_init) := ggX2_init_X4_init
set_option maxRecDepth 20000 in
theorem zdX2_init_0 : dAll cX2_init [(0, .aload_n 0, 1), (1, .invokespecial 3, 3), (4, .aload_n 0, 1), (5, .new 9, 3), (8, .dup, 1), (9, .invokespecial 11, 3), (12, .putfield 12, 3), (15, .aload_n 0, 1), (16, .iconst 3, 1), (17, .newarray .int, 2), (19, .putfield 18, 3), (22, .return_, 1)] := dAll_of (by decide +kernel)
theorem dX2_init_0 : decode cX2_init 0 = .ok (.aload_n 0, 1) := zdX2_init_0.1
theorem dX2_init_1 : decode cX2_init 1 = .ok (.invokespecial 3, 3) := zdX2_init_0.2.1
theorem dX2_init_4 : decode cX2_init 4 = .ok (.aload_n 0, 1) := zdX2_init_0.2.2.1
theorem dX2_init_5 : decode cX2_init 5 = .ok (.new 9, 3) := zdX2_init_0.2.2.2.1
theorem dX2_init_8 : decode cX2_init 8 = .ok (.dup, 1) := zdX2_init_0.2.2.2.2.1
theorem dX2_init_9 : decode cX2_init 9 = .ok (.invokespecial 11, 3) := zdX2_init_0.2.2.2.2.2.1
theorem dX2_init_12 : decode cX2_init 12 = .ok (.putfield 12, 3) := zdX2_init_0.2.2.2.2.2.2.1
theorem dX2_init_15 : decode cX2_init 15 = .ok (.aload_n 0, 1) := zdX2_init_0.2.2.2.2.2.2.2.1
theorem dX2_init_16 : decode cX2_init 16 = .ok (.iconst 3, 1) := zdX2_init_0.2.2.2.2.2.2.2.2.1
theorem dX2_init_17 : decode cX2_init 17 = .ok (.newarray .int, 2) := zdX2_init_0.2.2.2.2.2.2.2.2.2.1
theorem dX2_init_19 : decode cX2_init 19 = .ok (.putfield 18, 3) := zdX2_init_0.2.2.2.2.2.2.2.2.2.2.1
theorem dX2_init_22 : decode cX2_init 22 = .ok (.return_, 1) := zdX2_init_0.2.2.2.2.2.2.2.2.2.2.2.1
set_option maxRecDepth 20000 in
theorem ggX2_wrongPlace_X4_length : GoodIn wsX2_wrongPlace wsX4_length := goodIn_r _ [10, 11, 62, 63] rfl (by decide +kernel)
set_option maxRecDepth 20000 in
theorem gX2_wrongPlace_X4_length : GoodIn wsX2_wrongPlace (wsV RX2 32 RX4 yX4_length wsX4_length) := goodIn_app (goodIn_of _ (by decide +kernel)) ggX2_wrongPlace_X4_length
set_option maxRecDepth 20000 in
theorem ggX2_wrongPlace_X2_readRow : GoodIn wsX2_wrongPlace wsX2_readRow := goodIn_r _ [16, 5, 1, 2, 4, 17, 18, 19, 9, 20, 11, 21, 22, 23, 15, 24, 25, 26, 27, 28, 29, 30, 31, 3, 32, 33, 34, 35, 36, 37, 38, 39, 40, 41, 42, 43, 44, 45, 46, 47, 48, 49, 50, 51, 52, 53, 54, 55, 56, 57, 58, 59, 60, 61, 62, 63] rfl (by decide +kernel)
set_option maxRecDepth 20000 in
theorem gX2_wrongPlace_X2_readRow : GoodIn wsX2_wrongPlace (wsV RX2 36 RX2 yX2_readRow wsX2_readRow) := goodIn_app (goodIn_of _ (by decide +kernel)) ggX2_wrongPlace_X2_readRow
set_option maxRecDepth 20000 in
theorem zdX2_wrongPlace_0 : dAll cX2_wrongPlace [(0, .aload_n 0, 1), (1, .iconst 0, 1), (2, .putfield 22, 3), (5, .aload_n 0, 1), (6, .iconst 0, 1), (7, .putfield 26, 3), (10, .aload_n 0, 1), (11, .iconst (-1), 1), (12, .putfield 29, 3), (15, .iconst 0, 1), (16, .istore_n 1, 1), (17, .iload_n 1, 1), (18, .iconst 3, 1), (19, .if_icmp .ge 16, 3), (22, .aload_n 0, 1), (23, .getfield 18, 3), (26, .iload_n 1, 1), (27, .iconst 0, 1), (28, .iastore, 1), (29, .iinc 1 1, 3), (32, .goto (-15), 3), (35, .iconst 1, 1), (36, .istore_n 1, 1), (37, .iconst 0, 1), (38, .istore_n 2, 1), (39, .iload_n 2, 1), (40, .sipush 600, 3), (43, .if_icmp .ge 32, 3), (46, .iload_n 1, 1), (47, .ifCond .eq 28, 3)] := dAll_of (by decide +kernel)
theorem dX2_wrongPlace_0 : decode cX2_wrongPlace 0 = .ok (.aload_n 0, 1) := zdX2_wrongPlace_0.1
theorem dX2_wrongPlace_1 : decode cX2_wrongPlace 1 = .ok (.iconst 0, 1) := zdX2_wrongPlace_0.2.1
theorem dX2_wrongPlace_2 : decode cX2_wrongPlace 2 = .ok (.putfield 22, 3) := zdX2_wrongPlace_0.2.2.1
theorem dX2_wrongPlace_5 : decode cX2_wrongPlace 5 = .ok (.aload_n 0, 1) := zdX2_wrongPlace_0.2.2.2.1
theorem dX2_wrongPlace_6 : decode cX2_wrongPlace 6 = .ok (.iconst 0, 1) := zdX2_wrongPlace_0.2.2.2.2.1
theorem dX2_wrongPlace_7 : decode cX2_wrongPlace 7 = .ok (.putfield 26, 3) := zdX2_wrongPlace_0.2.2.2.2.2.1
theorem dX2_wrongPlace_10 : decode cX2_wrongPlace 10 = .ok (.aload_n 0, 1) := zdX2_wrongPlace_0.2.2.2.2.2.2.1
theorem dX2_wrongPlace_11 : decode cX2_wrongPlace 11 = .ok (.iconst (-1), 1) := zdX2_wrongPlace_0.2.2.2.2.2.2.2.1
theorem dX2_wrongPlace_12 : decode cX2_wrongPlace 12 = .ok (.putfield 29, 3) := zdX2_wrongPlace_0.2.2.2.2.2.2.2.2.1
theorem dX2_wrongPlace_15 : decode cX2_wrongPlace 15 = .ok (.iconst 0, 1) := zdX2_wrongPlace_0.2.2.2.2.2.2.2.2.2.1
theorem dX2_wrongPlace_16 : decode cX2_wrongPlace 16 = .ok (.istore_n 1, 1) := zdX2_wrongPlace_0.2.2.2.2.2.2.2.2.2.2.1
theorem dX2_wrongPlace_17 : decode cX2_wrongPlace 17 = .ok (.iload_n 1, 1) := zdX2_wrongPlace_0.2.2.2.2.2.2.2.2.2.2.2.1
theorem dX2_wrongPlace_18 : decode cX2_wrongPlace 18 = .ok (.iconst 3, 1) := zdX2_wrongPlace_0.2.2.2.2.2.2.2.2.2.2.2.2.1
theorem dX2_wrongPlace_19 : decode cX2_wrongPlace 19 = .ok (.if_icmp .ge 16, 3) := zdX2_wrongPlace_0.2.2.2.2.2.2.2.2.2.2.2.2.2.1
theorem dX2_wrongPlace_22 : decode cX2_wrongPlace 22 = .ok (.aload_n 0, 1) := zdX2_wrongPlace_0.2.2.2.2.2.2.2.2.2.2.2.2.2.2.1
theorem dX2_wrongPlace_23 : decode cX2_wrongPlace 23 = .ok (.getfield 18, 3) := zdX2_wrongPlace_0.2.2.2.2.2.2.2.2.2.2.2.2.2.2.2.1
theorem dX2_wrongPlace_26 : decode cX2_wrongPlace 26 = .ok (.iload_n 1, 1) := zdX2_wrongPlace_0.2.2.2.2.2.2.2.2.2.2.2.2.2.2.2.2.1
theorem dX2_wrongPlace_27 : decode cX2_wrongPlace 27 = .ok (.iconst 0, 1) := zdX2_wrongPlace_0.2.2.2.2.2.2.2.2.2.2.2.2.2.2.2.2.2.1
theorem dX2_wrongPlace_28 : decode cX2_wrongPlace 28 = .ok (.iastore, 1) := zdX2_wrongPlace_0.2.2.2.2.2.2.2.2.2.2.2.2.2.2.2.2.2.2.1
theorem dX2_wrongPlace_29 : decode cX2_wrongPlace 29 = .ok (.iinc 1 1, 3) := zdX2_wrongPlace_0.2.2.2.2.2.2.2.2.2.2.2.2.2.2.2.2.2.2.2.1
theorem dX2_wrongPlace_32 : decode cX2_wrongPlace 32 = .ok (.goto (-15), 3) := zdX2_wrongPlace_0.2.2.2.2.2.2.2.2.2.2.2.2.2.2.2.2.2.2.2.2.1
theorem dX2_wrongPlace_35 : decode cX2_wrongPlace 35 = .ok (.iconst 1, 1) := zdX2_wrongPlace_0.2.2.2.2.2.2.2.2.2.2.2.2.2.2.2.2.2.2.2.2.2.1
theorem dX2_wrongPlace_36 : decode cX2_wrongPlace 36 = .ok (.istore_n 1, 1) := zdX2_wrongPlace_0.2.2.2.2.2.2.2.2.2.2.2.2.2.2.2.2.2.2.2.2.2.2.1
theorem dX2_wrongPlace_37 : decode cX2_wrongPlace 37 = .ok (.iconst 0, 1) := zdX2_wrongPlace_0.2.2.2.2.2.2.2.2.2.2.2.2.2.2.2.2.2.2.2.2.2.2.2.1
theorem dX2_wrongPlace_38 : decode cX2_wrongPlace 38 = .ok (.istore_n 2, 1) := zdX2_wrongPlace_0.2.2.2.2.2.2.2.2.2.2.2.2.2.2.2.2.2.2.2.2.2.2.2.2.1
theorem dX2_wrongPlace_39 : decode cX2_wrongPlace 39 = .ok (.iload_n 2, 1) := zdX2_wrongPlace_0.2.2.2.2.2.2.2.2.2.2.2.2.2.2.2.2.2.2.2.2.2.2.2.2.2.1
theorem dX2_wrongPlace_40 : decode cX2_wrongPlace 40 = .ok (.sipush 600, 3) := zdX2_wrongPlace_0.2.2.2.2.2.2.2.2.2.2.2.2.2.2.2.2.2.2.2.2.2.2.2.2.2.2.1
theorem dX2_wrongPlace_43 : decode cX2_wrongPlace 43 = .ok (.if_icmp .ge 32, 3) := zdX2_wrongPlace_0.2.2.2.2.2.2.2.2.2.2.2.2.2.2.2.2.2.2.2.2.2.2.2.2.2.2.2.1
theorem dX2_wrongPlace_46 : decode cX2_wrongPlace 46 = .ok (.iload_n 1, 1) := zdX2_wrongPlace_0.2.2.2.2.2.2.2.2.2.2.2.2.2.2.2.2.2.2.2.2.2.2.2.2.2.2.2.2.1
theorem dX2_wrongPlace_47 : decode cX2_wrongPlace 47 = .ok (.ifCond .eq 28, 3) := zdX2_wrongPlace_0.2.2.2.2.2.2.2.2.2.2.2.2.2.2.2.2.2.2.2.2.2.2.2.2.2.2.2.2.2.1
set_option maxRecDepth 20000 in
theorem zdX2_wrongPlace_50 : dAll cX2_wrongPlace [(50, .aload_n 0, 1), (51, .getfield 22, 3), (54, .aload_n 0, 1), (55, .getfield 12, 3), (58, .invokevirtual 32, 3), (61, .if_icmp .ge 14, 3), (64, .aload_n 0, 1), (65, .invokevirtual 36, 3), (68, .istore_n 1, 1), (69, .iinc 2 1, 3), (72, .goto (-33), 3), (75, .aload_n 0, 1), (76, .getfield 29, 3), (79, .ireturn, 1)] := dAll_of (by decide +kernel)
theorem dX2_wrongPlace_50 : decode cX2_wrongPlace 50 = .ok (.aload_n 0, 1) := zdX2_wrongPlace_50.1
theorem dX2_wrongPlace_51 : decode cX2_wrongPlace 51 = .ok (.getfield 22, 3) := zdX2_wrongPlace_50.2.1
theorem dX2_wrongPlace_54 : decode cX2_wrongPlace 54 = .ok (.aload_n 0, 1) := zdX2_wrongPlace_50.2.2.1
theorem dX2_wrongPlace_55 : decode cX2_wrongPlace 55 = .ok (.getfield 12, 3) := zdX2_wrongPlace_50.2.2.2.1
theorem dX2_wrongPlace_58 : decode cX2_wrongPlace 58 = .ok (.invokevirtual 32, 3) := zdX2_wrongPlace_50.2.2.2.2.1
theorem dX2_wrongPlace_61 : decode cX2_wrongPlace 61 = .ok (.if_icmp .ge 14, 3) := zdX2_wrongPlace_50.2.2.2.2.2.1
theorem dX2_wrongPlace_64 : decode cX2_wrongPlace 64 = .ok (.aload_n 0, 1) := zdX2_wrongPlace_50.2.2.2.2.2.2.1
theorem dX2_wrongPlace_65 : decode cX2_wrongPlace 65 = .ok (.invokevirtual 36, 3) := zdX2_wrongPlace_50.2.2.2.2.2.2.2.1
theorem dX2_wrongPlace_68 : decode cX2_wrongPlace 68 = .ok (.istore_n 1, 1) := zdX2_wrongPlace_50.2.2.2.2.2.2.2.2.1
theorem dX2_wrongPlace_69 : decode cX2_wrongPlace 69 = .ok (.iinc 2 1, 3) := zdX2_wrongPlace_50.2.2.2.2.2.2.2.2.2.1
theorem dX2_wrongPlace_72 : decode cX2_wrongPlace 72 = .ok (.goto (-33), 3) := zdX2_wrongPlace_50.2.2.2.2.2.2.2.2.2.2.1
theorem dX2_wrongPlace_75 : decode cX2_wrongPlace 75 = .ok (.aload_n 0, 1) := zdX2_wrongPlace_50.2.2.2.2.2.2.2.2.2.2.2.1
theorem dX2_wrongPlace_76 : decode cX2_wrongPlace 76 = .ok (.getfield 29, 3) := zdX2_wrongPlace_50.2.2.2.2.2.2.2.2.2.2.2.2.1
theorem dX2_wrongPlace_79 : decode cX2_wrongPlace 79 = .ok (.ireturn, 1) := zdX2_wrongPlace_50.2.2.2.2.2.2.2.2.2.2.2.2.2.1
set_option maxRecDepth 20000 in
theorem ggX2_readRow_X4_byteAt : GoodIn wsX2_readRow wsX4_byteAt := goodIn_r _ [9, 10, 11, 54, 55] rfl (by decide +kernel)
set_option maxRecDepth 20000 in
theorem gX2_readRow_X4_byteAt : GoodIn wsX2_readRow (wsV RX2 40 RX4 yX4_byteAt wsX4_byteAt) := goodIn_app (goodIn_of _ (by decide +kernel)) ggX2_readRow_X4_byteAt
set_option maxRecDepth 20000 in
theorem ggX2_readRow_X2_kindOfLetter : GoodIn wsX2_readRow wsX2_kindOfLetter := goodIn_r _ [15] rfl (by decide +kernel)
set_option maxRecDepth 20000 in
theorem gX2_readRow_X2_kindOfLetter : GoodIn wsX2_readRow (va_wsS RX2 44 yX2_kindOfLetter wsX2_kindOfLetter) := goodIn_app (goodIn_of _ (by decide +kernel)) ggX2_readRow_X2_kindOfLetter
set_option maxRecDepth 20000 in
theorem ggX2_readRow_X2_mostRowsOf : GoodIn wsX2_readRow wsX2_mostRowsOf := goodIn_r _ [18] rfl (by decide +kernel)
set_option maxRecDepth 20000 in
theorem gX2_readRow_X2_mostRowsOf : GoodIn wsX2_readRow (va_wsS RX2 47 yX2_mostRowsOf wsX2_mostRowsOf) := goodIn_app (goodIn_of _ (by decide +kernel)) ggX2_readRow_X2_mostRowsOf
set_option maxRecDepth 20000 in
theorem ggX2_readRow_X2_wrongAt : GoodIn wsX2_readRow wsX2_wrongAt := goodIn_r _ [22, 23, 48, 49, 50, 51, 52, 53] rfl (by decide +kernel)
set_option maxRecDepth 20000 in
theorem gX2_readRow_X2_wrongAt : GoodIn wsX2_readRow (wsV RX2 50 RX2 yX2_wrongAt wsX2_wrongAt) := goodIn_app (goodIn_of _ (by decide +kernel)) ggX2_readRow_X2_wrongAt
set_option maxRecDepth 20000 in
theorem ggX2_readRow_X2_readStreet : GoodIn wsX2_readRow wsX2_readStreet := goodIn_r _ [27, 28, 29, 30, 31, 14, 32, 2, 1, 5, 6, 7, 8, 9, 10, 11, 33, 34, 35, 19, 20, 21, 22, 23, 36, 37, 38, 39, 48, 49, 50, 51, 52, 53, 54, 55] rfl (by decide +kernel)
set_option maxRecDepth 20000 in
theorem gX2_readRow_X2_readStreet : GoodIn wsX2_readRow (wsV RX2 54 RX2 yX2_readStreet wsX2_readStreet) := goodIn_app (goodIn_of _ (by decide +kernel)) ggX2_readRow_X2_readStreet
set_option maxRecDepth 20000 in
theorem ggX2_readRow_X2_readByte : GoodIn wsX2_readRow wsX2_readByte := goodIn_r _ [39, 1, 2, 5, 6, 7, 8, 9, 10, 11, 19, 20, 21, 14, 22, 23, 48, 49, 50, 51, 52, 53, 54, 55] rfl (by decide +kernel)
set_option maxRecDepth 20000 in
theorem gX2_readRow_X2_readByte : GoodIn wsX2_readRow (wsV RX2 57 RX2 yX2_readByte wsX2_readByte) := goodIn_app (goodIn_of _ (by decide +kernel)) ggX2_readRow_X2_readByte
set_option maxRecDepth 20000 in
theorem ggX2_readRow_X2_readUnit : GoodIn wsX2_readRow wsX2_readUnit := goodIn_r _ [43, 29, 30, 31, 14, 32, 2, 1, 28, 5, 6, 7, 8, 9, 10, 11, 33, 34, 35, 19, 20, 21, 22, 23, 36, 37, 38, 39, 48, 49, 50, 51, 52, 53, 54, 55] rfl (by decide +kernel)
set_option maxRecDepth 20000 in
theorem gX2_readRow_X2_readUnit : GoodIn wsX2_readRow (wsV RX2 60 RX2 yX2_readUnit wsX2_readUnit) := goodIn_app (goodIn_of _ (by decide +kernel)) ggX2_readRow_X2_readUnit
set_option maxRecDepth 20000 in
theorem ggX2_readRow_X2_readCall : GoodIn wsX2_readRow wsX2_readCall := goodIn_r _ [47, 29, 30, 31, 14, 32, 2, 1, 28, 5, 6, 7, 8, 9, 10, 11, 33, 34, 35, 19, 20, 21, 22, 23, 36, 37, 38, 39, 48, 49, 50, 51, 52, 53, 54, 55] rfl (by decide +kernel)
set_option maxRecDepth 20000 in
theorem gX2_readRow_X2_readCall : GoodIn wsX2_readRow (wsV RX2 63 RX2 yX2_readCall wsX2_readCall) := goodIn_app (goodIn_of _ (by decide +kernel)) ggX2_readRow_X2_readCall
set_option maxRecDepth 20000 in
theorem zdX2_readRow_0 : dAll cX2_readRow [(0, .aload_n 0, 1), (1, .getfield 12, 3), (4, .aload_n 0, 1), (5, .getfield 22, 3), (8, .invokevirtual 40, 3), (11, .invokestatic 44, 3), (14, .istore_n 1, 1), (15, .iload_n 1, 1), (16, .ifCond .lt 29, 3), (19, .iload_n 1, 1), (20, .iconst 3, 1), (21, .if_icmp .ge 24, 3), (24, .iload_n 1, 1), (25, .aload_n 0, 1), (26, .getfield 26, 3), (29, .if_icmp .lt 16, 3), (32, .aload_n 0, 1), (33, .getfield 18, 3), (36, .iload_n 1, 1), (37, .iaload, 1), (38, .iload_n 1, 1), (39, .invokestatic 47, 3), (42, .if_icmp .lt 12, 3), (45, .aload_n 0, 1), (46, .aload_n 0, 1), (47, .getfield 22, 3), (50, .invokevirtual 50, 3), (53, .ireturn, 1), (54, .aload_n 0, 1), (55, .iload_n 1, 1)] := dAll_of (by decide +kernel)
theorem dX2_readRow_0 : decode cX2_readRow 0 = .ok (.aload_n 0, 1) := zdX2_readRow_0.1
theorem dX2_readRow_1 : decode cX2_readRow 1 = .ok (.getfield 12, 3) := zdX2_readRow_0.2.1
theorem dX2_readRow_4 : decode cX2_readRow 4 = .ok (.aload_n 0, 1) := zdX2_readRow_0.2.2.1
theorem dX2_readRow_5 : decode cX2_readRow 5 = .ok (.getfield 22, 3) := zdX2_readRow_0.2.2.2.1
theorem dX2_readRow_8 : decode cX2_readRow 8 = .ok (.invokevirtual 40, 3) := zdX2_readRow_0.2.2.2.2.1
theorem dX2_readRow_11 : decode cX2_readRow 11 = .ok (.invokestatic 44, 3) := zdX2_readRow_0.2.2.2.2.2.1
theorem dX2_readRow_14 : decode cX2_readRow 14 = .ok (.istore_n 1, 1) := zdX2_readRow_0.2.2.2.2.2.2.1
theorem dX2_readRow_15 : decode cX2_readRow 15 = .ok (.iload_n 1, 1) := zdX2_readRow_0.2.2.2.2.2.2.2.1
theorem dX2_readRow_16 : decode cX2_readRow 16 = .ok (.ifCond .lt 29, 3) := zdX2_readRow_0.2.2.2.2.2.2.2.2.1
theorem dX2_readRow_19 : decode cX2_readRow 19 = .ok (.iload_n 1, 1) := zdX2_readRow_0.2.2.2.2.2.2.2.2.2.1
theorem dX2_readRow_20 : decode cX2_readRow 20 = .ok (.iconst 3, 1) := zdX2_readRow_0.2.2.2.2.2.2.2.2.2.2.1
theorem dX2_readRow_21 : decode cX2_readRow 21 = .ok (.if_icmp .ge 24, 3) := zdX2_readRow_0.2.2.2.2.2.2.2.2.2.2.2.1
theorem dX2_readRow_24 : decode cX2_readRow 24 = .ok (.iload_n 1, 1) := zdX2_readRow_0.2.2.2.2.2.2.2.2.2.2.2.2.1
theorem dX2_readRow_25 : decode cX2_readRow 25 = .ok (.aload_n 0, 1) := zdX2_readRow_0.2.2.2.2.2.2.2.2.2.2.2.2.2.1
theorem dX2_readRow_26 : decode cX2_readRow 26 = .ok (.getfield 26, 3) := zdX2_readRow_0.2.2.2.2.2.2.2.2.2.2.2.2.2.2.1
theorem dX2_readRow_29 : decode cX2_readRow 29 = .ok (.if_icmp .lt 16, 3) := zdX2_readRow_0.2.2.2.2.2.2.2.2.2.2.2.2.2.2.2.1
theorem dX2_readRow_32 : decode cX2_readRow 32 = .ok (.aload_n 0, 1) := zdX2_readRow_0.2.2.2.2.2.2.2.2.2.2.2.2.2.2.2.2.1
theorem dX2_readRow_33 : decode cX2_readRow 33 = .ok (.getfield 18, 3) := zdX2_readRow_0.2.2.2.2.2.2.2.2.2.2.2.2.2.2.2.2.2.1
theorem dX2_readRow_36 : decode cX2_readRow 36 = .ok (.iload_n 1, 1) := zdX2_readRow_0.2.2.2.2.2.2.2.2.2.2.2.2.2.2.2.2.2.2.1
theorem dX2_readRow_37 : decode cX2_readRow 37 = .ok (.iaload, 1) := zdX2_readRow_0.2.2.2.2.2.2.2.2.2.2.2.2.2.2.2.2.2.2.2.1
theorem dX2_readRow_38 : decode cX2_readRow 38 = .ok (.iload_n 1, 1) := zdX2_readRow_0.2.2.2.2.2.2.2.2.2.2.2.2.2.2.2.2.2.2.2.2.1
theorem dX2_readRow_39 : decode cX2_readRow 39 = .ok (.invokestatic 47, 3) := zdX2_readRow_0.2.2.2.2.2.2.2.2.2.2.2.2.2.2.2.2.2.2.2.2.2.1
theorem dX2_readRow_42 : decode cX2_readRow 42 = .ok (.if_icmp .lt 12, 3) := zdX2_readRow_0.2.2.2.2.2.2.2.2.2.2.2.2.2.2.2.2.2.2.2.2.2.2.1
theorem dX2_readRow_45 : decode cX2_readRow 45 = .ok (.aload_n 0, 1) := zdX2_readRow_0.2.2.2.2.2.2.2.2.2.2.2.2.2.2.2.2.2.2.2.2.2.2.2.1
theorem dX2_readRow_46 : decode cX2_readRow 46 = .ok (.aload_n 0, 1) := zdX2_readRow_0.2.2.2.2.2.2.2.2.2.2.2.2.2.2.2.2.2.2.2.2.2.2.2.2.1
theorem dX2_readRow_47 : decode cX2_readRow 47 = .ok (.getfield 22, 3) := zdX2_readRow_0.2.2.2.2.2.2.2.2.2.2.2.2.2.2.2.2.2.2.2.2.2.2.2.2.2.1
theorem dX2_readRow_50 : decode cX2_readRow 50 = .ok (.invokevirtual 50, 3) := zdX2_readRow_0.2.2.2.2.2.2.2.2.2.2.2.2.2.2.2.2.2.2.2.2.2.2.2.2.2.2.1
theorem dX2_readRow_53 : decode cX2_readRow 53 = .ok (.ireturn, 1) := zdX2_readRow_0.2.2.2.2.2.2.2.2.2.2.2.2.2.2.2.2.2.2.2.2.2.2.2.2.2.2.2.1
theorem dX2_readRow_54 : decode cX2_readRow 54 = .ok (.aload_n 0, 1) := zdX2_readRow_0.2.2.2.2.2.2.2.2.2.2.2.2.2.2.2.2.2.2.2.2.2.2.2.2.2.2.2.2.1
theorem dX2_readRow_55 : decode cX2_readRow 55 = .ok (.iload_n 1, 1) := zdX2_readRow_0.2.2.2.2.2.2.2.2.2.2.2.2.2.2.2.2.2.2.2.2.2.2.2.2.2.2.2.2.2.1
set_option maxRecDepth 20000 in
theorem zdX2_readRow_56 : dAll cX2_readRow [(56, .putfield 26, 3), (59, .aload_n 0, 1), (60, .getfield 18, 3), (63, .iload_n 1, 1), (64, .dup2, 1), (65, .iaload, 1), (66, .iconst 1, 1), (67, .iadd, 1), (68, .iastore, 1), (69, .aload_n 0, 1), (70, .dup, 1), (71, .getfield 22, 3), (74, .iconst 1, 1), (75, .iadd, 1), (76, .putfield 22, 3), (79, .iload_n 1, 1), (80, .ifCond .ne 25, 3), (83, .aload_n 0, 1), (84, .invokevirtual 54, 3), (87, .ifCond .eq 16, 3), (90, .aload_n 0, 1), (91, .bipush 59, 2), (93, .invokevirtual 57, 3), (96, .ifCond .eq 7, 3), (99, .iconst 1, 1), (100, .goto 4, 3), (103, .iconst 0, 1), (104, .ireturn, 1), (105, .iload_n 1, 1), (106, .iconst 1, 1)] := dAll_of (by decide +kernel)
theorem dX2_readRow_56 : decode cX2_readRow 56 = .ok (.putfield 26, 3) := zdX2_readRow_56.1
theorem dX2_readRow_59 : decode cX2_readRow 59 = .ok (.aload_n 0, 1) := zdX2_readRow_56.2.1
theorem dX2_readRow_60 : decode cX2_readRow 60 = .ok (.getfield 18, 3) := zdX2_readRow_56.2.2.1
theorem dX2_readRow_63 : decode cX2_readRow 63 = .ok (.iload_n 1, 1) := zdX2_readRow_56.2.2.2.1
theorem dX2_readRow_64 : decode cX2_readRow 64 = .ok (.dup2, 1) := zdX2_readRow_56.2.2.2.2.1
theorem dX2_readRow_65 : decode cX2_readRow 65 = .ok (.iaload, 1) := zdX2_readRow_56.2.2.2.2.2.1
theorem dX2_readRow_66 : decode cX2_readRow 66 = .ok (.iconst 1, 1) := zdX2_readRow_56.2.2.2.2.2.2.1
theorem dX2_readRow_67 : decode cX2_readRow 67 = .ok (.iadd, 1) := zdX2_readRow_56.2.2.2.2.2.2.2.1
theorem dX2_readRow_68 : decode cX2_readRow 68 = .ok (.iastore, 1) := zdX2_readRow_56.2.2.2.2.2.2.2.2.1
theorem dX2_readRow_69 : decode cX2_readRow 69 = .ok (.aload_n 0, 1) := zdX2_readRow_56.2.2.2.2.2.2.2.2.2.1
theorem dX2_readRow_70 : decode cX2_readRow 70 = .ok (.dup, 1) := zdX2_readRow_56.2.2.2.2.2.2.2.2.2.2.1
theorem dX2_readRow_71 : decode cX2_readRow 71 = .ok (.getfield 22, 3) := zdX2_readRow_56.2.2.2.2.2.2.2.2.2.2.2.1
theorem dX2_readRow_74 : decode cX2_readRow 74 = .ok (.iconst 1, 1) := zdX2_readRow_56.2.2.2.2.2.2.2.2.2.2.2.2.1
theorem dX2_readRow_75 : decode cX2_readRow 75 = .ok (.iadd, 1) := zdX2_readRow_56.2.2.2.2.2.2.2.2.2.2.2.2.2.1
theorem dX2_readRow_76 : decode cX2_readRow 76 = .ok (.putfield 22, 3) := zdX2_readRow_56.2.2.2.2.2.2.2.2.2.2.2.2.2.2.1
theorem dX2_readRow_79 : decode cX2_readRow 79 = .ok (.iload_n 1, 1) := zdX2_readRow_56.2.2.2.2.2.2.2.2.2.2.2.2.2.2.2.1
theorem dX2_readRow_80 : decode cX2_readRow 80 = .ok (.ifCond .ne 25, 3) := zdX2_readRow_56.2.2.2.2.2.2.2.2.2.2.2.2.2.2.2.2.1
theorem dX2_readRow_83 : decode cX2_readRow 83 = .ok (.aload_n 0, 1) := zdX2_readRow_56.2.2.2.2.2.2.2.2.2.2.2.2.2.2.2.2.2.1
theorem dX2_readRow_84 : decode cX2_readRow 84 = .ok (.invokevirtual 54, 3) := zdX2_readRow_56.2.2.2.2.2.2.2.2.2.2.2.2.2.2.2.2.2.2.1
theorem dX2_readRow_87 : decode cX2_readRow 87 = .ok (.ifCond .eq 16, 3) := zdX2_readRow_56.2.2.2.2.2.2.2.2.2.2.2.2.2.2.2.2.2.2.2.1
theorem dX2_readRow_90 : decode cX2_readRow 90 = .ok (.aload_n 0, 1) := zdX2_readRow_56.2.2.2.2.2.2.2.2.2.2.2.2.2.2.2.2.2.2.2.2.1
theorem dX2_readRow_91 : decode cX2_readRow 91 = .ok (.bipush 59, 2) := zdX2_readRow_56.2.2.2.2.2.2.2.2.2.2.2.2.2.2.2.2.2.2.2.2.2.1
theorem dX2_readRow_93 : decode cX2_readRow 93 = .ok (.invokevirtual 57, 3) := zdX2_readRow_56.2.2.2.2.2.2.2.2.2.2.2.2.2.2.2.2.2.2.2.2.2.2.1
theorem dX2_readRow_96 : decode cX2_readRow 96 = .ok (.ifCond .eq 7, 3) := zdX2_readRow_56.2.2.2.2.2.2.2.2.2.2.2.2.2.2.2.2.2.2.2.2.2.2.2.1
theorem dX2_readRow_99 : decode cX2_readRow 99 = .ok (.iconst 1, 1) := zdX2_readRow_56.2.2.2.2.2.2.2.2.2.2.2.2.2.2.2.2.2.2.2.2.2.2.2.2.1
theorem dX2_readRow_100 : decode cX2_readRow 100 = .ok (.goto 4, 3) := zdX2_readRow_56.2.2.2.2.2.2.2.2.2.2.2.2.2.2.2.2.2.2.2.2.2.2.2.2.2.1
theorem dX2_readRow_103 : decode cX2_readRow 103 = .ok (.iconst 0, 1) := zdX2_readRow_56.2.2.2.2.2.2.2.2.2.2.2.2.2.2.2.2.2.2.2.2.2.2.2.2.2.2.1
theorem dX2_readRow_104 : decode cX2_readRow 104 = .ok (.ireturn, 1) := zdX2_readRow_56.2.2.2.2.2.2.2.2.2.2.2.2.2.2.2.2.2.2.2.2.2.2.2.2.2.2.2.1
theorem dX2_readRow_105 : decode cX2_readRow 105 = .ok (.iload_n 1, 1) := zdX2_readRow_56.2.2.2.2.2.2.2.2.2.2.2.2.2.2.2.2.2.2.2.2.2.2.2.2.2.2.2.2.1
theorem dX2_readRow_106 : decode cX2_readRow 106 = .ok (.iconst 1, 1) := zdX2_readRow_56.2.2.2.2.2.2.2.2.2.2.2.2.2.2.2.2.2.2.2.2.2.2.2.2.2.2.2.2.2.1
set_option maxRecDepth 20000 in
theorem zdX2_readRow_107 : dAll cX2_readRow [(107, .if_icmp .ne 13, 3), (110, .aload_n 0, 1), (111, .invokevirtual 60, 3), (114, .ifCond .eq 26, 3), (117, .goto 10, 3), (120, .aload_n 0, 1), (121, .invokevirtual 63, 3), (124, .ifCond .eq 16, 3), (127, .aload_n 0, 1), (128, .bipush 59, 2), (130, .invokevirtual 57, 3), (133, .ifCond .eq 7, 3), (136, .iconst 1, 1), (137, .goto 4, 3), (140, .iconst 0, 1), (141, .ireturn, 1)] := dAll_of (by decide +kernel)
theorem dX2_readRow_107 : decode cX2_readRow 107 = .ok (.if_icmp .ne 13, 3) := zdX2_readRow_107.1
theorem dX2_readRow_110 : decode cX2_readRow 110 = .ok (.aload_n 0, 1) := zdX2_readRow_107.2.1
theorem dX2_readRow_111 : decode cX2_readRow 111 = .ok (.invokevirtual 60, 3) := zdX2_readRow_107.2.2.1
theorem dX2_readRow_114 : decode cX2_readRow 114 = .ok (.ifCond .eq 26, 3) := zdX2_readRow_107.2.2.2.1
theorem dX2_readRow_117 : decode cX2_readRow 117 = .ok (.goto 10, 3) := zdX2_readRow_107.2.2.2.2.1
theorem dX2_readRow_120 : decode cX2_readRow 120 = .ok (.aload_n 0, 1) := zdX2_readRow_107.2.2.2.2.2.1
theorem dX2_readRow_121 : decode cX2_readRow 121 = .ok (.invokevirtual 63, 3) := zdX2_readRow_107.2.2.2.2.2.2.1
theorem dX2_readRow_124 : decode cX2_readRow 124 = .ok (.ifCond .eq 16, 3) := zdX2_readRow_107.2.2.2.2.2.2.2.1
theorem dX2_readRow_127 : decode cX2_readRow 127 = .ok (.aload_n 0, 1) := zdX2_readRow_107.2.2.2.2.2.2.2.2.1
theorem dX2_readRow_128 : decode cX2_readRow 128 = .ok (.bipush 59, 2) := zdX2_readRow_107.2.2.2.2.2.2.2.2.2.1
theorem dX2_readRow_130 : decode cX2_readRow 130 = .ok (.invokevirtual 57, 3) := zdX2_readRow_107.2.2.2.2.2.2.2.2.2.2.1
theorem dX2_readRow_133 : decode cX2_readRow 133 = .ok (.ifCond .eq 7, 3) := zdX2_readRow_107.2.2.2.2.2.2.2.2.2.2.2.1
theorem dX2_readRow_136 : decode cX2_readRow 136 = .ok (.iconst 1, 1) := zdX2_readRow_107.2.2.2.2.2.2.2.2.2.2.2.2.1
theorem dX2_readRow_137 : decode cX2_readRow 137 = .ok (.goto 4, 3) := zdX2_readRow_107.2.2.2.2.2.2.2.2.2.2.2.2.2.1
theorem dX2_readRow_140 : decode cX2_readRow 140 = .ok (.iconst 0, 1) := zdX2_readRow_107.2.2.2.2.2.2.2.2.2.2.2.2.2.2.1
theorem dX2_readRow_141 : decode cX2_readRow 141 = .ok (.ireturn, 1) := zdX2_readRow_107.2.2.2.2.2.2.2.2.2.2.2.2.2.2.2.1
set_option maxRecDepth 20000 in
theorem zdX2_kindOfLetter_0 : dAll cX2_kindOfLetter [(0, .iload_n 0, 1), (1, .lookupswitch 41 #[(99, 39), (115, 35), (117, 37)], 35), (36, .iconst 0, 1), (37, .ireturn, 1), (38, .iconst 1, 1), (39, .ireturn, 1), (40, .iconst 2, 1), (41, .ireturn, 1), (42, .iconst (-1), 1), (43, .ireturn, 1)] := dAll_of (by decide +kernel)
theorem dX2_kindOfLetter_0 : decode cX2_kindOfLetter 0 = .ok (.iload_n 0, 1) := zdX2_kindOfLetter_0.1
theorem dX2_kindOfLetter_1 : decode cX2_kindOfLetter 1 = .ok (.lookupswitch 41 #[(99, 39), (115, 35), (117, 37)], 35) := zdX2_kindOfLetter_0.2.1
theorem dX2_kindOfLetter_36 : decode cX2_kindOfLetter 36 = .ok (.iconst 0, 1) := zdX2_kindOfLetter_0.2.2.1
theorem dX2_kindOfLetter_37 : decode cX2_kindOfLetter 37 = .ok (.ireturn, 1) := zdX2_kindOfLetter_0.2.2.2.1
theorem dX2_kindOfLetter_38 : decode cX2_kindOfLetter 38 = .ok (.iconst 1, 1) := zdX2_kindOfLetter_0.2.2.2.2.1
theorem dX2_kindOfLetter_39 : decode cX2_kindOfLetter 39 = .ok (.ireturn, 1) := zdX2_kindOfLetter_0.2.2.2.2.2.1
theorem dX2_kindOfLetter_40 : decode cX2_kindOfLetter 40 = .ok (.iconst 2, 1) := zdX2_kindOfLetter_0.2.2.2.2.2.2.1
theorem dX2_kindOfLetter_41 : decode cX2_kindOfLetter 41 = .ok (.ireturn, 1) := zdX2_kindOfLetter_0.2.2.2.2.2.2.2.1
theorem dX2_kindOfLetter_42 : decode cX2_kindOfLetter 42 = .ok (.iconst (-1), 1) := zdX2_kindOfLetter_0.2.2.2.2.2.2.2.2.1
theorem dX2_kindOfLetter_43 : decode cX2_kindOfLetter 43 = .ok (.ireturn, 1) := zdX2_kindOfLetter_0.2.2.2.2.2.2.2.2.2.1
set_option maxRecDepth 20000 in
theorem zdX2_mostRowsOf_0 : dAll cX2_mostRowsOf [(0, .iload_n 0, 1), (1, .ifCond .ne 6, 3), (4, .bipush 30, 2), (6, .ireturn, 1), (7, .iload_n 0, 1), (8, .iconst 1, 1), (9, .if_icmp .ne 8, 3), (12, .bipush 11, 2), (14, .goto 5, 3), (17, .bipush 21, 2), (19, .ireturn, 1)] := dAll_of (by decide +kernel)
theorem dX2_mostRowsOf_0 : decode cX2_mostRowsOf 0 = .ok (.iload_n 0, 1) := zdX2_mostRowsOf_0.1
theorem dX2_mostRowsOf_1 : decode cX2_mostRowsOf 1 = .ok (.ifCond .ne 6, 3) := zdX2_mostRowsOf_0.2.1
theorem dX2_mostRowsOf_4 : decode cX2_mostRowsOf 4 = .ok (.bipush 30, 2) := zdX2_mostRowsOf_0.2.2.1
theorem dX2_mostRowsOf_6 : decode cX2_mostRowsOf 6 = .ok (.ireturn, 1) := zdX2_mostRowsOf_0.2.2.2.1
theorem dX2_mostRowsOf_7 : decode cX2_mostRowsOf 7 = .ok (.iload_n 0, 1) := zdX2_mostRowsOf_0.2.2.2.2.1
theorem dX2_mostRowsOf_8 : decode cX2_mostRowsOf 8 = .ok (.iconst 1, 1) := zdX2_mostRowsOf_0.2.2.2.2.2.1
theorem dX2_mostRowsOf_9 : decode cX2_mostRowsOf 9 = .ok (.if_icmp .ne 8, 3) := zdX2_mostRowsOf_0.2.2.2.2.2.2.1
theorem dX2_mostRowsOf_12 : decode cX2_mostRowsOf 12 = .ok (.bipush 11, 2) := zdX2_mostRowsOf_0.2.2.2.2.2.2.2.1
theorem dX2_mostRowsOf_14 : decode cX2_mostRowsOf 14 = .ok (.goto 5, 3) := zdX2_mostRowsOf_0.2.2.2.2.2.2.2.2.1
theorem dX2_mostRowsOf_17 : decode cX2_mostRowsOf 17 = .ok (.bipush 21, 2) := zdX2_mostRowsOf_0.2.2.2.2.2.2.2.2.2.1
theorem dX2_mostRowsOf_19 : decode cX2_mostRowsOf 19 = .ok (.ireturn, 1) := zdX2_mostRowsOf_0.2.2.2.2.2.2.2.2.2.2.1
set_option maxRecDepth 20000 in
theorem ggX2_readStreet_X2_readNumber : GoodIn wsX2_readStreet wsX2_readNumber := goodIn_r _ [6, 7, 8, 1, 9, 10, 11, 12, 13, 14, 15, 16, 17, 5, 18, 19, 20, 21, 22, 23, 28, 29, 30, 31, 32, 33, 34, 35] rfl (by decide +kernel)
set_option maxRecDepth 20000 in
theorem gX2_readStreet_X2_readNumber : GoodIn wsX2_readStreet (wsV RX2 66 RX2 yX2_readNumber wsX2_readNumber) := goodIn_app (goodIn_of _ (by decide +kernel)) ggX2_readStreet_X2_readNumber
set_option maxRecDepth 20000 in
theorem ggX2_readStreet_X2_readByte : GoodIn wsX2_readStreet wsX2_readByte := goodIn_r _ [27, 8, 7, 9, 10, 11, 12, 13, 14, 15, 19, 20, 21, 5, 22, 23, 28, 29, 30, 31, 32, 33, 34, 35] rfl (by decide +kernel)
set_option maxRecDepth 20000 in
theorem gX2_readStreet_X2_readByte : GoodIn wsX2_readStreet (wsV RX2 57 RX2 yX2_readByte wsX2_readByte) := goodIn_app (goodIn_of _ (by decide +kernel)) ggX2_readStreet_X2_readByte
set_option maxRecDepth 20000 in
theorem zdX2_readStreet_0 : dAll cX2_readStreet [(0, .aload_n 0, 1), (1, .iconst 0, 1), (2, .bipush 20, 2), (4, .invokevirtual 66, 3), (7, .ifCond .eq 50, 3), (10, .aload_n 0, 1), (11, .bipush 45, 2), (13, .invokevirtual 57, 3), (16, .ifCond .eq 41, 3), (19, .aload_n 0, 1), (20, .aload_n 0, 1), (21, .getfield 70, 3), (24, .iconst 1, 1), (25, .iadd, 1), (26, .bipush 20, 2), (28, .invokevirtual 66, 3), (31, .ifCond .eq 26, 3), (34, .aload_n 0, 1), (35, .bipush 58, 2), (37, .invokevirtual 57, 3), (40, .ifCond .eq 17, 3), (43, .aload_n 0, 1), (44, .iconst 1, 1), (45, .bipush 99, 2), (47, .invokevirtual 66, 3), (50, .ifCond .eq 7, 3), (53, .iconst 1, 1), (54, .goto 4, 3), (57, .iconst 0, 1), (58, .ireturn, 1)] := dAll_of (by decide +kernel)
theorem dX2_readStreet_0 : decode cX2_readStreet 0 = .ok (.aload_n 0, 1) := zdX2_readStreet_0.1
theorem dX2_readStreet_1 : decode cX2_readStreet 1 = .ok (.iconst 0, 1) := zdX2_readStreet_0.2.1
theorem dX2_readStreet_2 : decode cX2_readStreet 2 = .ok (.bipush 20, 2) := zdX2_readStreet_0.2.2.1
theorem dX2_readStreet_4 : decode cX2_readStreet 4 = .ok (.invokevirtual 66, 3) := zdX2_readStreet_0.2.2.2.1
theorem dX2_readStreet_7 : decode cX2_readStreet 7 = .ok (.ifCond .eq 50, 3) := zdX2_readStreet_0.2.2.2.2.1
theorem dX2_readStreet_10 : decode cX2_readStreet 10 = .ok (.aload_n 0, 1) := zdX2_readStreet_0.2.2.2.2.2.1
theorem dX2_readStreet_11 : decode cX2_readStreet 11 = .ok (.bipush 45, 2) := zdX2_readStreet_0.2.2.2.2.2.2.1
theorem dX2_readStreet_13 : decode cX2_readStreet 13 = .ok (.invokevirtual 57, 3) := zdX2_readStreet_0.2.2.2.2.2.2.2.1
theorem dX2_readStreet_16 : decode cX2_readStreet 16 = .ok (.ifCond .eq 41, 3) := zdX2_readStreet_0.2.2.2.2.2.2.2.2.1
theorem dX2_readStreet_19 : decode cX2_readStreet 19 = .ok (.aload_n 0, 1) := zdX2_readStreet_0.2.2.2.2.2.2.2.2.2.1
theorem dX2_readStreet_20 : decode cX2_readStreet 20 = .ok (.aload_n 0, 1) := zdX2_readStreet_0.2.2.2.2.2.2.2.2.2.2.1
theorem dX2_readStreet_21 : decode cX2_readStreet 21 = .ok (.getfield 70, 3) := zdX2_readStreet_0.2.2.2.2.2.2.2.2.2.2.2.1
theorem dX2_readStreet_24 : decode cX2_readStreet 24 = .ok (.iconst 1, 1) := zdX2_readStreet_0.2.2.2.2.2.2.2.2.2.2.2.2.1
theorem dX2_readStreet_25 : decode cX2_readStreet 25 = .ok (.iadd, 1) := zdX2_readStreet_0.2.2.2.2.2.2.2.2.2.2.2.2.2.1
theorem dX2_readStreet_26 : decode cX2_readStreet 26 = .ok (.bipush 20, 2) := zdX2_readStreet_0.2.2.2.2.2.2.2.2.2.2.2.2.2.2.1
theorem dX2_readStreet_28 : decode cX2_readStreet 28 = .ok (.invokevirtual 66, 3) := zdX2_readStreet_0.2.2.2.2.2.2.2.2.2.2.2.2.2.2.2.1
theorem dX2_readStreet_31 : decode cX2_readStreet 31 = .ok (.ifCond .eq 26, 3) := zdX2_readStreet_0.2.2.2.2.2.2.2.2.2.2.2.2.2.2.2.2.1
theorem dX2_readStreet_34 : decode cX2_readStreet 34 = .ok (.aload_n 0, 1) := zdX2_readStreet_0.2.2.2.2.2.2.2.2.2.2.2.2.2.2.2.2.2.1
theorem dX2_readStreet_35 : decode cX2_readStreet 35 = .ok (.bipush 58, 2) := zdX2_readStreet_0.2.2.2.2.2.2.2.2.2.2.2.2.2.2.2.2.2.2.1
theorem dX2_readStreet_37 : decode cX2_readStreet 37 = .ok (.invokevirtual 57, 3) := zdX2_readStreet_0.2.2.2.2.2.2.2.2.2.2.2.2.2.2.2.2.2.2.2.1
theorem dX2_readStreet_40 : decode cX2_readStreet 40 = .ok (.ifCond .eq 17, 3) := zdX2_readStreet_0.2.2.2.2.2.2.2.2.2.2.2.2.2.2.2.2.2.2.2.2.1
theorem dX2_readStreet_43 : decode cX2_readStreet 43 = .ok (.aload_n 0, 1) := zdX2_readStreet_0.2.2.2.2.2.2.2.2.2.2.2.2.2.2.2.2.2.2.2.2.2.1
theorem dX2_readStreet_44 : decode cX2_readStreet 44 = .ok (.iconst 1, 1) := zdX2_readStreet_0.2.2.2.2.2.2.2.2.2.2.2.2.2.2.2.2.2.2.2.2.2.2.1
theorem dX2_readStreet_45 : decode cX2_readStreet 45 = .ok (.bipush 99, 2) := zdX2_readStreet_0.2.2.2.2.2.2.2.2.2.2.2.2.2.2.2.2.2.2.2.2.2.2.2.1
theorem dX2_readStreet_47 : decode cX2_readStreet 47 = .ok (.invokevirtual 66, 3) := zdX2_readStreet_0.2.2.2.2.2.2.2.2.2.2.2.2.2.2.2.2.2.2.2.2.2.2.2.2.1
theorem dX2_readStreet_50 : decode cX2_readStreet 50 = .ok (.ifCond .eq 7, 3) := zdX2_readStreet_0.2.2.2.2.2.2.2.2.2.2.2.2.2.2.2.2.2.2.2.2.2.2.2.2.2.1
theorem dX2_readStreet_53 : decode cX2_readStreet 53 = .ok (.iconst 1, 1) := zdX2_readStreet_0.2.2.2.2.2.2.2.2.2.2.2.2.2.2.2.2.2.2.2.2.2.2.2.2.2.2.1
theorem dX2_readStreet_54 : decode cX2_readStreet 54 = .ok (.goto 4, 3) := zdX2_readStreet_0.2.2.2.2.2.2.2.2.2.2.2.2.2.2.2.2.2.2.2.2.2.2.2.2.2.2.2.1
theorem dX2_readStreet_57 : decode cX2_readStreet 57 = .ok (.iconst 0, 1) := zdX2_readStreet_0.2.2.2.2.2.2.2.2.2.2.2.2.2.2.2.2.2.2.2.2.2.2.2.2.2.2.2.2.1
theorem dX2_readStreet_58 : decode cX2_readStreet 58 = .ok (.ireturn, 1) := zdX2_readStreet_0.2.2.2.2.2.2.2.2.2.2.2.2.2.2.2.2.2.2.2.2.2.2.2.2.2.2.2.2.2.1
set_option maxRecDepth 20000 in
theorem ggX2_readUnit_X2_readNumber : GoodIn wsX2_readUnit wsX2_readNumber := goodIn_r _ [5, 6, 7, 8, 9, 10, 11, 12, 13, 14, 15, 16, 17, 4, 18, 19, 20, 21, 22, 23, 28, 29, 30, 31, 32, 33, 34, 35] rfl (by decide +kernel)
set_option maxRecDepth 20000 in
theorem gX2_readUnit_X2_readNumber : GoodIn wsX2_readUnit (wsV RX2 66 RX2 yX2_readNumber wsX2_readNumber) := goodIn_app (goodIn_of _ (by decide +kernel)) ggX2_readUnit_X2_readNumber
set_option maxRecDepth 20000 in
theorem ggX2_readUnit_X2_readByte : GoodIn wsX2_readUnit wsX2_readByte := goodIn_r _ [27, 7, 6, 9, 10, 11, 12, 13, 14, 15, 19, 20, 21, 4, 22, 23, 28, 29, 30, 31, 32, 33, 34, 35] rfl (by decide +kernel)
set_option maxRecDepth 20000 in
theorem gX2_readUnit_X2_readByte : GoodIn wsX2_readUnit (wsV RX2 57 RX2 yX2_readByte wsX2_readByte) := goodIn_app (goodIn_of _ (by decide +kernel)) ggX2_readUnit_X2_readByte
set_option maxRecDepth 20000 in
theorem zdX2_readUnit_0 : dAll cX2_readUnit [(0, .aload_n 0, 1), (1, .iconst 0, 1), (2, .bipush 20, 2), (4, .invokevirtual 66, 3), (7, .ifCond .eq 26, 3), (10, .aload_n 0, 1), (11, .bipush 58, 2), (13, .invokevirtual 57, 3), (16, .ifCond .eq 17, 3), (19, .aload_n 0, 1), (20, .iconst 1, 1), (21, .bipush 7, 2), (23, .invokevirtual 66, 3), (26, .ifCond .eq 7, 3), (29, .iconst 1, 1), (30, .goto 4, 3), (33, .iconst 0, 1), (34, .ireturn, 1)] := dAll_of (by decide +kernel)
theorem dX2_readUnit_0 : decode cX2_readUnit 0 = .ok (.aload_n 0, 1) := zdX2_readUnit_0.1
theorem dX2_readUnit_1 : decode cX2_readUnit 1 = .ok (.iconst 0, 1) := zdX2_readUnit_0.2.1
theorem dX2_readUnit_2 : decode cX2_readUnit 2 = .ok (.bipush 20, 2) := zdX2_readUnit_0.2.2.1
theorem dX2_readUnit_4 : decode cX2_readUnit 4 = .ok (.invokevirtual 66, 3) := zdX2_readUnit_0.2.2.2.1
theorem dX2_readUnit_7 : decode cX2_readUnit 7 = .ok (.ifCond .eq 26, 3) := zdX2_readUnit_0.2.2.2.2.1
theorem dX2_readUnit_10 : decode cX2_readUnit 10 = .ok (.aload_n 0, 1) := zdX2_readUnit_0.2.2.2.2.2.1
theorem dX2_readUnit_11 : decode cX2_readUnit 11 = .ok (.bipush 58, 2) := zdX2_readUnit_0.2.2.2.2.2.2.1
theorem dX2_readUnit_13 : decode cX2_readUnit 13 = .ok (.invokevirtual 57, 3) := zdX2_readUnit_0.2.2.2.2.2.2.2.1
theorem dX2_readUnit_16 : decode cX2_readUnit 16 = .ok (.ifCond .eq 17, 3) := zdX2_readUnit_0.2.2.2.2.2.2.2.2.1
theorem dX2_readUnit_19 : decode cX2_readUnit 19 = .ok (.aload_n 0, 1) := zdX2_readUnit_0.2.2.2.2.2.2.2.2.2.1
theorem dX2_readUnit_20 : decode cX2_readUnit 20 = .ok (.iconst 1, 1) := zdX2_readUnit_0.2.2.2.2.2.2.2.2.2.2.1
theorem dX2_readUnit_21 : decode cX2_readUnit 21 = .ok (.bipush 7, 2) := zdX2_readUnit_0.2.2.2.2.2.2.2.2.2.2.2.1
theorem dX2_readUnit_23 : decode cX2_readUnit 23 = .ok (.invokevirtual 66, 3) := zdX2_readUnit_0.2.2.2.2.2.2.2.2.2.2.2.2.1
theorem dX2_readUnit_26 : decode cX2_readUnit 26 = .ok (.ifCond .eq 7, 3) := zdX2_readUnit_0.2.2.2.2.2.2.2.2.2.2.2.2.2.1
theorem dX2_readUnit_29 : decode cX2_readUnit 29 = .ok (.iconst 1, 1) := zdX2_readUnit_0.2.2.2.2.2.2.2.2.2.2.2.2.2.2.1
theorem dX2_readUnit_30 : decode cX2_readUnit 30 = .ok (.goto 4, 3) := zdX2_readUnit_0.2.2.2.2.2.2.2.2.2.2.2.2.2.2.2.1
theorem dX2_readUnit_33 : decode cX2_readUnit 33 = .ok (.iconst 0, 1) := zdX2_readUnit_0.2.2.2.2.2.2.2.2.2.2.2.2.2.2.2.2.1
theorem dX2_readUnit_34 : decode cX2_readUnit 34 = .ok (.ireturn, 1) := zdX2_readUnit_0.2.2.2.2.2.2.2.2.2.2.2.2.2.2.2.2.2.1
set_option maxRecDepth 20000 in
theorem ggX2_readCall_X2_readNumber : GoodIn wsX2_readCall wsX2_readNumber := goodIn_r _ [5, 6, 7, 8, 9, 10, 11, 12, 13, 14, 15, 16, 17, 4, 18, 19, 20, 21, 22, 23, 28, 29, 30, 31, 32, 33, 34, 35] rfl (by decide +kernel)
set_option maxRecDepth 20000 in
theorem gX2_readCall_X2_readNumber : GoodIn wsX2_readCall (wsV RX2 66 RX2 yX2_readNumber wsX2_readNumber) := goodIn_app (goodIn_of _ (by decide +kernel)) ggX2_readCall_X2_readNumber
set_option maxRecDepth 20000 in
theorem ggX2_readCall_X2_readByte : GoodIn wsX2_readCall wsX2_readByte := goodIn_r _ [27, 7, 6, 9, 10, 11, 12, 13, 14, 15, 19, 20, 21, 4, 22, 23, 28, 29, 30, 31, 32, 33, 34, 35] rfl (by decide +kernel)
set_option maxRecDepth 20000 in
theorem gX2_readCall_X2_readByte : GoodIn wsX2_readCall (wsV RX2 57 RX2 yX2_readByte wsX2_readByte) := goodIn_app (goodIn_of _ (by decide +kernel)) ggX2_readCall_X2_readByte
set_option maxRecDepth 20000 in
theorem zdX2_readCall_0 : dAll cX2_readCall [(0, .aload_n 0, 1), (1, .iconst 0, 1), (2, .bipush 20, 2), (4, .invokevirtual 66, 3), (7, .ifCond .eq 45, 3), (10, .aload_n 0, 1), (11, .bipush 58, 2), (13, .invokevirtual 57, 3), (16, .ifCond .eq 36, 3), (19, .aload_n 0, 1), (20, .iconst 0, 1), (21, .iconst 2, 1), (22, .invokevirtual 66, 3), (25, .ifCond .eq 27, 3), (28, .aload_n 0, 1), (29, .bipush 64, 2), (31, .invokevirtual 57, 3), (34, .ifCond .eq 18, 3), (37, .aload_n 0, 1), (38, .iconst 0, 1), (39, .sipush 1439, 3), (42, .invokevirtual 66, 3), (45, .ifCond .eq 7, 3), (48, .iconst 1, 1), (49, .goto 4, 3), (52, .iconst 0, 1), (53, .ireturn, 1)] := dAll_of (by decide +kernel)
theorem dX2_readCall_0 : decode cX2_readCall 0 = .ok (.aload_n 0, 1) := zdX2_readCall_0.1
theorem dX2_readCall_1 : decode cX2_readCall 1 = .ok (.iconst 0, 1) := zdX2_readCall_0.2.1
theorem dX2_readCall_2 : decode cX2_readCall 2 = .ok (.bipush 20, 2) := zdX2_readCall_0.2.2.1
theorem dX2_readCall_4 : decode cX2_readCall 4 = .ok (.invokevirtual 66, 3) := zdX2_readCall_0.2.2.2.1
theorem dX2_readCall_7 : decode cX2_readCall 7 = .ok (.ifCond .eq 45, 3) := zdX2_readCall_0.2.2.2.2.1
theorem dX2_readCall_10 : decode cX2_readCall 10 = .ok (.aload_n 0, 1) := zdX2_readCall_0.2.2.2.2.2.1
theorem dX2_readCall_11 : decode cX2_readCall 11 = .ok (.bipush 58, 2) := zdX2_readCall_0.2.2.2.2.2.2.1
theorem dX2_readCall_13 : decode cX2_readCall 13 = .ok (.invokevirtual 57, 3) := zdX2_readCall_0.2.2.2.2.2.2.2.1
theorem dX2_readCall_16 : decode cX2_readCall 16 = .ok (.ifCond .eq 36, 3) := zdX2_readCall_0.2.2.2.2.2.2.2.2.1
theorem dX2_readCall_19 : decode cX2_readCall 19 = .ok (.aload_n 0, 1) := zdX2_readCall_0.2.2.2.2.2.2.2.2.2.1
theorem dX2_readCall_20 : decode cX2_readCall 20 = .ok (.iconst 0, 1) := zdX2_readCall_0.2.2.2.2.2.2.2.2.2.2.1
theorem dX2_readCall_21 : decode cX2_readCall 21 = .ok (.iconst 2, 1) := zdX2_readCall_0.2.2.2.2.2.2.2.2.2.2.2.1
theorem dX2_readCall_22 : decode cX2_readCall 22 = .ok (.invokevirtual 66, 3) := zdX2_readCall_0.2.2.2.2.2.2.2.2.2.2.2.2.1
theorem dX2_readCall_25 : decode cX2_readCall 25 = .ok (.ifCond .eq 27, 3) := zdX2_readCall_0.2.2.2.2.2.2.2.2.2.2.2.2.2.1
theorem dX2_readCall_28 : decode cX2_readCall 28 = .ok (.aload_n 0, 1) := zdX2_readCall_0.2.2.2.2.2.2.2.2.2.2.2.2.2.2.1
theorem dX2_readCall_29 : decode cX2_readCall 29 = .ok (.bipush 64, 2) := zdX2_readCall_0.2.2.2.2.2.2.2.2.2.2.2.2.2.2.2.1
theorem dX2_readCall_31 : decode cX2_readCall 31 = .ok (.invokevirtual 57, 3) := zdX2_readCall_0.2.2.2.2.2.2.2.2.2.2.2.2.2.2.2.2.1
theorem dX2_readCall_34 : decode cX2_readCall 34 = .ok (.ifCond .eq 18, 3) := zdX2_readCall_0.2.2.2.2.2.2.2.2.2.2.2.2.2.2.2.2.2.1
theorem dX2_readCall_37 : decode cX2_readCall 37 = .ok (.aload_n 0, 1) := zdX2_readCall_0.2.2.2.2.2.2.2.2.2.2.2.2.2.2.2.2.2.2.1
theorem dX2_readCall_38 : decode cX2_readCall 38 = .ok (.iconst 0, 1) := zdX2_readCall_0.2.2.2.2.2.2.2.2.2.2.2.2.2.2.2.2.2.2.2.1
theorem dX2_readCall_39 : decode cX2_readCall 39 = .ok (.sipush 1439, 3) := zdX2_readCall_0.2.2.2.2.2.2.2.2.2.2.2.2.2.2.2.2.2.2.2.2.1
theorem dX2_readCall_42 : decode cX2_readCall 42 = .ok (.invokevirtual 66, 3) := zdX2_readCall_0.2.2.2.2.2.2.2.2.2.2.2.2.2.2.2.2.2.2.2.2.2.1
theorem dX2_readCall_45 : decode cX2_readCall 45 = .ok (.ifCond .eq 7, 3) := zdX2_readCall_0.2.2.2.2.2.2.2.2.2.2.2.2.2.2.2.2.2.2.2.2.2.2.1
theorem dX2_readCall_48 : decode cX2_readCall 48 = .ok (.iconst 1, 1) := zdX2_readCall_0.2.2.2.2.2.2.2.2.2.2.2.2.2.2.2.2.2.2.2.2.2.2.2.1
theorem dX2_readCall_49 : decode cX2_readCall 49 = .ok (.goto 4, 3) := zdX2_readCall_0.2.2.2.2.2.2.2.2.2.2.2.2.2.2.2.2.2.2.2.2.2.2.2.2.1
theorem dX2_readCall_52 : decode cX2_readCall 52 = .ok (.iconst 0, 1) := zdX2_readCall_0.2.2.2.2.2.2.2.2.2.2.2.2.2.2.2.2.2.2.2.2.2.2.2.2.2.1
theorem dX2_readCall_53 : decode cX2_readCall 53 = .ok (.ireturn, 1) := zdX2_readCall_0.2.2.2.2.2.2.2.2.2.2.2.2.2.2.2.2.2.2.2.2.2.2.2.2.2.2.1
set_option maxRecDepth 20000 in
theorem ggX2_readByte_X4_byteAt : GoodIn wsX2_readByte wsX4_byteAt := goodIn_r _ [7, 8, 9, 22, 23] rfl (by decide +kernel)
set_option maxRecDepth 20000 in
theorem gX2_readByte_X4_byteAt : GoodIn wsX2_readByte (wsV RX2 40 RX4 yX4_byteAt wsX4_byteAt) := goodIn_app (goodIn_of _ (by decide +kernel)) ggX2_readByte_X4_byteAt
set_option maxRecDepth 20000 in
theorem ggX2_readByte_X2_wrongAt : GoodIn wsX2_readByte wsX2_wrongAt := goodIn_r _ [14, 15, 16, 17, 18, 19, 20, 21] rfl (by decide +kernel)
set_option maxRecDepth 20000 in
theorem gX2_readByte_X2_wrongAt : GoodIn wsX2_readByte (wsV RX2 50 RX2 yX2_wrongAt wsX2_wrongAt) := goodIn_app (goodIn_of _ (by decide +kernel)) ggX2_readByte_X2_wrongAt
set_option maxRecDepth 20000 in
theorem zdX2_readByte_0 : dAll cX2_readByte [(0, .aload_n 0, 1), (1, .getfield 12, 3), (4, .aload_n 0, 1), (5, .getfield 22, 3), (8, .invokevirtual 40, 3), (11, .iload_n 1, 1), (12, .if_icmp .eq 12, 3), (15, .aload_n 0, 1), (16, .aload_n 0, 1), (17, .getfield 22, 3)] := dAll_of (by decide +kernel)
theorem dX2_readByte_0 : decode cX2_readByte 0 = .ok (.aload_n 0, 1) := zdX2_readByte_0.1
theorem dX2_readByte_1 : decode cX2_readByte 1 = .ok (.getfield 12, 3) := zdX2_readByte_0.2.1
theorem dX2_readByte_4 : decode cX2_readByte 4 = .ok (.aload_n 0, 1) := zdX2_readByte_0.2.2.1
theorem dX2_readByte_5 : decode cX2_readByte 5 = .ok (.getfield 22, 3) := zdX2_readByte_0.2.2.2.1
theorem dX2_readByte_8 : decode cX2_readByte 8 = .ok (.invokevirtual 40, 3) := zdX2_readByte_0.2.2.2.2.1
theorem dX2_readByte_11 : decode cX2_readByte 11 = .ok (.iload_n 1, 1) := zdX2_readByte_0.2.2.2.2.2.1
theorem dX2_readByte_12 : decode cX2_readByte 12 = .ok (.if_icmp .eq 12, 3) := zdX2_readByte_0.2.2.2.2.2.2.1
theorem dX2_readByte_15 : decode cX2_readByte 15 = .ok (.aload_n 0, 1) := zdX2_readByte_0.2.2.2.2.2.2.2.1
theorem dX2_readByte_16 : decode cX2_readByte 16 = .ok (.aload_n 0, 1) := zdX2_readByte_0.2.2.2.2.2.2.2.2.1
theorem dX2_readByte_17 : decode cX2_readByte 17 = .ok (.getfield 22, 3) := zdX2_readByte_0.2.2.2.2.2.2.2.2.2.1
