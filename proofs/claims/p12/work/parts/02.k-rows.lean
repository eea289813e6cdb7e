set_option maxRecDepth 20000 in
theorem zdX7_shrink_81 : dAll cX7_shrink [(81, .iconst 0, 1), (82, .bastore, 1), (83, .aload_n 0, 1), (84, .iload_n 1, 1), (85, .invokevirtual 108, 3), (88, .istore 6, 2), (90, .aload_n 0, 1), (91, .getfield 13, 3), (94, .iload 5, 2), (96, .iload 6, 2), (98, .ifCond .ne 7, 3), (101, .iconst 1, 1), (102, .goto 4, 3), (105, .iconst 0, 1), (106, .bastore, 1), (107, .iload_n 3, 1), (108, .iload 6, 2), (110, .ifCond .eq 7, 3), (113, .iconst 1, 1), (114, .goto 4, 3), (117, .iconst 0, 1), (118, .iadd, 1), (119, .istore_n 3, 1), (120, .iload 4, 2), (122, .ifCond .ne 8, 3), (125, .iload 6, 2), (127, .ifCond .eq 7, 3), (130, .iconst 1, 1), (131, .goto 4, 3), (134, .iconst 0, 1)] := dAll_of (by decide +kernel)
theorem dX7_shrink_81 : decode cX7_shrink 81 = .ok (.iconst 0, 1) := zdX7_shrink_81.1
theorem dX7_shrink_82 : decode cX7_shrink 82 = .ok (.bastore, 1) := zdX7_shrink_81.2.1
theorem dX7_shrink_83 : decode cX7_shrink 83 = .ok (.aload_n 0, 1) := zdX7_shrink_81.2.2.1
theorem dX7_shrink_84 : decode cX7_shrink 84 = .ok (.iload_n 1, 1) := zdX7_shrink_81.2.2.2.1
theorem dX7_shrink_85 : decode cX7_shrink 85 = .ok (.invokevirtual 108, 3) := zdX7_shrink_81.2.2.2.2.1
theorem dX7_shrink_88 : decode cX7_shrink 88 = .ok (.istore 6, 2) := zdX7_shrink_81.2.2.2.2.2.1
theorem dX7_shrink_90 : decode cX7_shrink 90 = .ok (.aload_n 0, 1) := zdX7_shrink_81.2.2.2.2.2.2.1
theorem dX7_shrink_91 : decode cX7_shrink 91 = .ok (.getfield 13, 3) := zdX7_shrink_81.2.2.2.2.2.2.2.1
theorem dX7_shrink_94 : decode cX7_shrink 94 = .ok (.iload 5, 2) := zdX7_shrink_81.2.2.2.2.2.2.2.2.1
theorem dX7_shrink_96 : decode cX7_shrink 96 = .ok (.iload 6, 2) := zdX7_shrink_81.2.2.2.2.2.2.2.2.2.1
theorem dX7_shrink_98 : decode cX7_shrink 98 = .ok (.ifCond .ne 7, 3) := zdX7_shrink_81.2.2.2.2.2.2.2.2.2.2.1
theorem dX7_shrink_101 : decode cX7_shrink 101 = .ok (.iconst 1, 1) := zdX7_shrink_81.2.2.2.2.2.2.2.2.2.2.2.1
theorem dX7_shrink_102 : decode cX7_shrink 102 = .ok (.goto 4, 3) := zdX7_shrink_81.2.2.2.2.2.2.2.2.2.2.2.2.1
theorem dX7_shrink_105 : decode cX7_shrink 105 = .ok (.iconst 0, 1) := zdX7_shrink_81.2.2.2.2.2.2.2.2.2.2.2.2.2.1
theorem dX7_shrink_106 : decode cX7_shrink 106 = .ok (.bastore, 1) := zdX7_shrink_81.2.2.2.2.2.2.2.2.2.2.2.2.2.2.1
theorem dX7_shrink_107 : decode cX7_shrink 107 = .ok (.iload_n 3, 1) := zdX7_shrink_81.2.2.2.2.2.2.2.2.2.2.2.2.2.2.2.1
theorem dX7_shrink_108 : decode cX7_shrink 108 = .ok (.iload 6, 2) := zdX7_shrink_81.2.2.2.2.2.2.2.2.2.2.2.2.2.2.2.2.1
theorem dX7_shrink_110 : decode cX7_shrink 110 = .ok (.ifCond .eq 7, 3) := zdX7_shrink_81.2.2.2.2.2.2.2.2.2.2.2.2.2.2.2.2.2.1
theorem dX7_shrink_113 : decode cX7_shrink 113 = .ok (.iconst 1, 1) := zdX7_shrink_81.2.2.2.2.2.2.2.2.2.2.2.2.2.2.2.2.2.2.1
theorem dX7_shrink_114 : decode cX7_shrink 114 = .ok (.goto 4, 3) := zdX7_shrink_81.2.2.2.2.2.2.2.2.2.2.2.2.2.2.2.2.2.2.2.1
theorem dX7_shrink_117 : decode cX7_shrink 117 = .ok (.iconst 0, 1) := zdX7_shrink_81.2.2.2.2.2.2.2.2.2.2.2.2.2.2.2.2.2.2.2.2.1
theorem dX7_shrink_118 : decode cX7_shrink 118 = .ok (.iadd, 1) := zdX7_shrink_81.2.2.2.2.2.2.2.2.2.2.2.2.2.2.2.2.2.2.2.2.2.1
theorem dX7_shrink_119 : decode cX7_shrink 119 = .ok (.istore_n 3, 1) := zdX7_shrink_81.2.2.2.2.2.2.2.2.2.2.2.2.2.2.2.2.2.2.2.2.2.2.1
theorem dX7_shrink_120 : decode cX7_shrink 120 = .ok (.iload 4, 2) := zdX7_shrink_81.2.2.2.2.2.2.2.2.2.2.2.2.2.2.2.2.2.2.2.2.2.2.2.1
theorem dX7_shrink_122 : decode cX7_shrink 122 = .ok (.ifCond .ne 8, 3) := zdX7_shrink_81.2.2.2.2.2.2.2.2.2.2.2.2.2.2.2.2.2.2.2.2.2.2.2.2.1
theorem dX7_shrink_125 : decode cX7_shrink 125 = .ok (.iload 6, 2) := zdX7_shrink_81.2.2.2.2.2.2.2.2.2.2.2.2.2.2.2.2.2.2.2.2.2.2.2.2.2.1
theorem dX7_shrink_127 : decode cX7_shrink 127 = .ok (.ifCond .eq 7, 3) := zdX7_shrink_81.2.2.2.2.2.2.2.2.2.2.2.2.2.2.2.2.2.2.2.2.2.2.2.2.2.2.1
theorem dX7_shrink_130 : decode cX7_shrink 130 = .ok (.iconst 1, 1) := zdX7_shrink_81.2.2.2.2.2.2.2.2.2.2.2.2.2.2.2.2.2.2.2.2.2.2.2.2.2.2.2.1
theorem dX7_shrink_131 : decode cX7_shrink 131 = .ok (.goto 4, 3) := zdX7_shrink_81.2.2.2.2.2.2.2.2.2.2.2.2.2.2.2.2.2.2.2.2.2.2.2.2.2.2.2.2.1
theorem dX7_shrink_134 : decode cX7_shrink 134 = .ok (.iconst 0, 1) := zdX7_shrink_81.2.2.2.2.2.2.2.2.2.2.2.2.2.2.2.2.2.2.2.2.2.2.2.2.2.2.2.2.2.1
set_option maxRecDepth 20000 in
theorem zdX7_shrink_135 : dAll cX7_shrink [(135, .istore 4, 2), (137, .iinc 5 1, 3), (140, .goto (-82), 3), (143, .goto (-96), 3), (146, .iload_n 3, 1), (147, .ireturn, 1)] := dAll_of (by decide +kernel)
theorem dX7_shrink_135 : decode cX7_shrink 135 = .ok (.istore 4, 2) := zdX7_shrink_135.1
theorem dX7_shrink_137 : decode cX7_shrink 137 = .ok (.iinc 5 1, 3) := zdX7_shrink_135.2.1
theorem dX7_shrink_140 : decode cX7_shrink 140 = .ok (.goto (-82), 3) := zdX7_shrink_135.2.2.1
theorem dX7_shrink_143 : decode cX7_shrink 143 = .ok (.goto (-96), 3) := zdX7_shrink_135.2.2.2.1
theorem dX7_shrink_146 : decode cX7_shrink 146 = .ok (.iload_n 3, 1) := zdX7_shrink_135.2.2.2.2.1
theorem dX7_shrink_147 : decode cX7_shrink 147 = .ok (.ireturn, 1) := zdX7_shrink_135.2.2.2.2.2.1
set_option maxRecDepth 20000 in
theorem ggX7_find_X7_in : GoodIn wsX7_find wsX7_in := goodIn_r _ [8] rfl (by decide +kernel)
set_option maxRecDepth 20000 in
theorem gX7_find_X7_in : GoodIn wsX7_find (va_wsS RX7 76 yX7_in wsX7_in) := goodIn_app (goodIn_of _ (by decide +kernel)) ggX7_find_X7_in
set_option maxRecDepth 20000 in
theorem ggX7_find_X7_throwing : GoodIn wsX7_find wsX7_throwing := goodIn_r _ [12, 13, 61, 62, 63, 64, 65, 66, 67, 68, 69, 70, 71, 72, 73, 74, 75, 76, 77, 78, 79] rfl (by decide +kernel)
set_option maxRecDepth 20000 in
theorem gX7_find_X7_throwing : GoodIn wsX7_find (wsV RX7 80 RX7 yX7_throwing wsX7_throwing) := goodIn_app (goodIn_of _ (by decide +kernel)) ggX7_find_X7_throwing
set_option maxRecDepth 20000 in
theorem ggX7_find_X7_make : GoodIn wsX7_find wsX7_make := goodIn_r _ [17, 1, 2, 18, 19, 4, 20, 21, 22, 23, 7, 24, 25, 26, 27, 28, 29, 30, 31, 32, 33, 34, 35, 36, 37, 61, 62, 63, 64, 65, 66, 67, 68, 69, 70, 71, 72, 73, 74, 75, 76, 77, 78, 79] rfl (by decide +kernel)
set_option maxRecDepth 20000 in
theorem gX7_find_X7_make : GoodIn wsX7_find (wsV RX7 38 RX7 yX7_make wsX7_make) := goodIn_app (goodIn_of _ (by decide +kernel)) ggX7_find_X7_make
set_option maxRecDepth 20000 in
theorem ggX7_find_X7_isSo : GoodIn wsX7_find wsX7_isSo := goodIn_r _ [41, 25, 4, 27, 20, 42, 43, 44, 7, 45, 26, 46, 47, 48, 49, 50, 51, 52, 53, 54, 55, 56, 57, 58, 59, 60, 5, 6, 8, 61, 62, 63, 64, 65, 66, 67, 68, 69, 70, 71, 72, 73, 74, 75, 76, 77, 78, 79] rfl (by decide +kernel)
set_option maxRecDepth 20000 in
theorem gX7_find_X7_isSo : GoodIn wsX7_find (wsV RX7 108 RX7 yX7_isSo wsX7_isSo) := goodIn_app (goodIn_of _ (by decide +kernel)) ggX7_find_X7_isSo
set_option maxRecDepth 20000 in
theorem zdX7_find_0 : dAll cX7_find [(0, .aload_n 0, 1), (1, .iload_n 1, 1), (2, .iconst 0, 1), (3, .iconst 4, 1), (4, .invokestatic 76, 3), (7, .ifCond .ne 7, 3), (10, .iconst 1, 1), (11, .goto 4, 3), (14, .iconst 0, 1), (15, .iload_n 3, 1), (16, .iconst 0, 1), (17, .bipush 20, 2), (19, .invokestatic 76, 3), (22, .ifCond .eq 14, 3), (25, .iload 4, 2), (27, .iconst 1, 1), (28, .bipush 50, 2), (30, .invokestatic 76, 3), (33, .ifCond .ne 7, 3), (36, .iconst 1, 1), (37, .goto 4, 3), (40, .iconst 0, 1), (41, .invokevirtual 80, 3), (44, .ifCond .eq 5, 3), (47, .iconst 0, 1), (48, .ireturn, 1), (49, .aload_n 0, 1), (50, .getfield 48, 3), (53, .istore 5, 2), (55, .aload_n 0, 1)] := dAll_of (by decide +kernel)
theorem dX7_find_0 : decode cX7_find 0 = .ok (.aload_n 0, 1) := zdX7_find_0.1
theorem dX7_find_1 : decode cX7_find 1 = .ok (.iload_n 1, 1) := zdX7_find_0.2.1
theorem dX7_find_2 : decode cX7_find 2 = .ok (.iconst 0, 1) := zdX7_find_0.2.2.1
theorem dX7_find_3 : decode cX7_find 3 = .ok (.iconst 4, 1) := zdX7_find_0.2.2.2.1
theorem dX7_find_4 : decode cX7_find 4 = .ok (.invokestatic 76, 3) := zdX7_find_0.2.2.2.2.1
theorem dX7_find_7 : decode cX7_find 7 = .ok (.ifCond .ne 7, 3) := zdX7_find_0.2.2.2.2.2.1
theorem dX7_find_10 : decode cX7_find 10 = .ok (.iconst 1, 1) := zdX7_find_0.2.2.2.2.2.2.1
theorem dX7_find_11 : decode cX7_find 11 = .ok (.goto 4, 3) := zdX7_find_0.2.2.2.2.2.2.2.1
theorem dX7_find_14 : decode cX7_find 14 = .ok (.iconst 0, 1) := zdX7_find_0.2.2.2.2.2.2.2.2.1
theorem dX7_find_15 : decode cX7_find 15 = .ok (.iload_n 3, 1) := zdX7_find_0.2.2.2.2.2.2.2.2.2.1
theorem dX7_find_16 : decode cX7_find 16 = .ok (.iconst 0, 1) := zdX7_find_0.2.2.2.2.2.2.2.2.2.2.1
theorem dX7_find_17 : decode cX7_find 17 = .ok (.bipush 20, 2) := zdX7_find_0.2.2.2.2.2.2.2.2.2.2.2.1
theorem dX7_find_19 : decode cX7_find 19 = .ok (.invokestatic 76, 3) := zdX7_find_0.2.2.2.2.2.2.2.2.2.2.2.2.1
theorem dX7_find_22 : decode cX7_find 22 = .ok (.ifCond .eq 14, 3) := zdX7_find_0.2.2.2.2.2.2.2.2.2.2.2.2.2.1
theorem dX7_find_25 : decode cX7_find 25 = .ok (.iload 4, 2) := zdX7_find_0.2.2.2.2.2.2.2.2.2.2.2.2.2.2.1
theorem dX7_find_27 : decode cX7_find 27 = .ok (.iconst 1, 1) := zdX7_find_0.2.2.2.2.2.2.2.2.2.2.2.2.2.2.2.1
theorem dX7_find_28 : decode cX7_find 28 = .ok (.bipush 50, 2) := zdX7_find_0.2.2.2.2.2.2.2.2.2.2.2.2.2.2.2.2.1
theorem dX7_find_30 : decode cX7_find 30 = .ok (.invokestatic 76, 3) := zdX7_find_0.2.2.2.2.2.2.2.2.2.2.2.2.2.2.2.2.2.1
theorem dX7_find_33 : decode cX7_find 33 = .ok (.ifCond .ne 7, 3) := zdX7_find_0.2.2.2.2.2.2.2.2.2.2.2.2.2.2.2.2.2.2.1
theorem dX7_find_36 : decode cX7_find 36 = .ok (.iconst 1, 1) := zdX7_find_0.2.2.2.2.2.2.2.2.2.2.2.2.2.2.2.2.2.2.2.1
theorem dX7_find_37 : decode cX7_find 37 = .ok (.goto 4, 3) := zdX7_find_0.2.2.2.2.2.2.2.2.2.2.2.2.2.2.2.2.2.2.2.2.1
theorem dX7_find_40 : decode cX7_find 40 = .ok (.iconst 0, 1) := zdX7_find_0.2.2.2.2.2.2.2.2.2.2.2.2.2.2.2.2.2.2.2.2.2.1
theorem dX7_find_41 : decode cX7_find 41 = .ok (.invokevirtual 80, 3) := zdX7_find_0.2.2.2.2.2.2.2.2.2.2.2.2.2.2.2.2.2.2.2.2.2.2.1
theorem dX7_find_44 : decode cX7_find 44 = .ok (.ifCond .eq 5, 3) := zdX7_find_0.2.2.2.2.2.2.2.2.2.2.2.2.2.2.2.2.2.2.2.2.2.2.2.1
theorem dX7_find_47 : decode cX7_find 47 = .ok (.iconst 0, 1) := zdX7_find_0.2.2.2.2.2.2.2.2.2.2.2.2.2.2.2.2.2.2.2.2.2.2.2.2.1
theorem dX7_find_48 : decode cX7_find 48 = .ok (.ireturn, 1) := zdX7_find_0.2.2.2.2.2.2.2.2.2.2.2.2.2.2.2.2.2.2.2.2.2.2.2.2.2.1
theorem dX7_find_49 : decode cX7_find 49 = .ok (.aload_n 0, 1) := zdX7_find_0.2.2.2.2.2.2.2.2.2.2.2.2.2.2.2.2.2.2.2.2.2.2.2.2.2.2.1
theorem dX7_find_50 : decode cX7_find 50 = .ok (.getfield 48, 3) := zdX7_find_0.2.2.2.2.2.2.2.2.2.2.2.2.2.2.2.2.2.2.2.2.2.2.2.2.2.2.2.1
theorem dX7_find_53 : decode cX7_find 53 = .ok (.istore 5, 2) := zdX7_find_0.2.2.2.2.2.2.2.2.2.2.2.2.2.2.2.2.2.2.2.2.2.2.2.2.2.2.2.2.1
theorem dX7_find_55 : decode cX7_find 55 = .ok (.aload_n 0, 1) := zdX7_find_0.2.2.2.2.2.2.2.2.2.2.2.2.2.2.2.2.2.2.2.2.2.2.2.2.2.2.2.2.2.1
set_option maxRecDepth 20000 in
theorem zdX7_find_56 : dAll cX7_find [(56, .getfield 56, 3), (59, .iconst 1, 1), (60, .isub, 1), (61, .istore 6, 2), (63, .iconst 0, 1), (64, .istore 7, 2), (66, .iload 7, 2), (68, .bipush 62, 2), (70, .if_icmp .ge 23, 3), (73, .aload_n 0, 1), (74, .getfield 26, 3), (77, .iload 7, 2), (79, .aload_n 0, 1), (80, .getfield 13, 3), (83, .iload 7, 2), (85, .baload, 1), (86, .bastore, 1), (87, .iinc 7 1, 3), (90, .goto (-24), 3), (93, .iconst (-1), 1), (94, .istore 7, 2), (96, .iconst 1, 1), (97, .istore 8, 2), (99, .iconst 0, 1), (100, .istore 9, 2), (102, .iload 9, 2), (104, .iload 4, 2), (106, .if_icmp .ge 53, 3), (109, .iload 8, 2), (111, .ifCond .eq 48, 3)] := dAll_of (by decide +kernel)
theorem dX7_find_56 : decode cX7_find 56 = .ok (.getfield 56, 3) := zdX7_find_56.1
theorem dX7_find_59 : decode cX7_find 59 = .ok (.iconst 1, 1) := zdX7_find_56.2.1
theorem dX7_find_60 : decode cX7_find 60 = .ok (.isub, 1) := zdX7_find_56.2.2.1
theorem dX7_find_61 : decode cX7_find 61 = .ok (.istore 6, 2) := zdX7_find_56.2.2.2.1
theorem dX7_find_63 : decode cX7_find 63 = .ok (.iconst 0, 1) := zdX7_find_56.2.2.2.2.1
theorem dX7_find_64 : decode cX7_find 64 = .ok (.istore 7, 2) := zdX7_find_56.2.2.2.2.2.1
theorem dX7_find_66 : decode cX7_find 66 = .ok (.iload 7, 2) := zdX7_find_56.2.2.2.2.2.2.1
theorem dX7_find_68 : decode cX7_find 68 = .ok (.bipush 62, 2) := zdX7_find_56.2.2.2.2.2.2.2.1
theorem dX7_find_70 : decode cX7_find 70 = .ok (.if_icmp .ge 23, 3) := zdX7_find_56.2.2.2.2.2.2.2.2.1
theorem dX7_find_73 : decode cX7_find 73 = .ok (.aload_n 0, 1) := zdX7_find_56.2.2.2.2.2.2.2.2.2.1
theorem dX7_find_74 : decode cX7_find 74 = .ok (.getfield 26, 3) := zdX7_find_56.2.2.2.2.2.2.2.2.2.2.1
theorem dX7_find_77 : decode cX7_find 77 = .ok (.iload 7, 2) := zdX7_find_56.2.2.2.2.2.2.2.2.2.2.2.1
theorem dX7_find_79 : decode cX7_find 79 = .ok (.aload_n 0, 1) := zdX7_find_56.2.2.2.2.2.2.2.2.2.2.2.2.1
theorem dX7_find_80 : decode cX7_find 80 = .ok (.getfield 13, 3) := zdX7_find_56.2.2.2.2.2.2.2.2.2.2.2.2.2.1
theorem dX7_find_83 : decode cX7_find 83 = .ok (.iload 7, 2) := zdX7_find_56.2.2.2.2.2.2.2.2.2.2.2.2.2.2.1
theorem dX7_find_85 : decode cX7_find 85 = .ok (.baload, 1) := zdX7_find_56.2.2.2.2.2.2.2.2.2.2.2.2.2.2.2.1
theorem dX7_find_86 : decode cX7_find 86 = .ok (.bastore, 1) := zdX7_find_56.2.2.2.2.2.2.2.2.2.2.2.2.2.2.2.2.1
theorem dX7_find_87 : decode cX7_find 87 = .ok (.iinc 7 1, 3) := zdX7_find_56.2.2.2.2.2.2.2.2.2.2.2.2.2.2.2.2.2.1
theorem dX7_find_90 : decode cX7_find 90 = .ok (.goto (-24), 3) := zdX7_find_56.2.2.2.2.2.2.2.2.2.2.2.2.2.2.2.2.2.2.1
theorem dX7_find_93 : decode cX7_find 93 = .ok (.iconst (-1), 1) := zdX7_find_56.2.2.2.2.2.2.2.2.2.2.2.2.2.2.2.2.2.2.2.1
theorem dX7_find_94 : decode cX7_find 94 = .ok (.istore 7, 2) := zdX7_find_56.2.2.2.2.2.2.2.2.2.2.2.2.2.2.2.2.2.2.2.2.1
theorem dX7_find_96 : decode cX7_find 96 = .ok (.iconst 1, 1) := zdX7_find_56.2.2.2.2.2.2.2.2.2.2.2.2.2.2.2.2.2.2.2.2.2.1
theorem dX7_find_97 : decode cX7_find 97 = .ok (.istore 8, 2) := zdX7_find_56.2.2.2.2.2.2.2.2.2.2.2.2.2.2.2.2.2.2.2.2.2.2.1
theorem dX7_find_99 : decode cX7_find 99 = .ok (.iconst 0, 1) := zdX7_find_56.2.2.2.2.2.2.2.2.2.2.2.2.2.2.2.2.2.2.2.2.2.2.2.1
theorem dX7_find_100 : decode cX7_find 100 = .ok (.istore 9, 2) := zdX7_find_56.2.2.2.2.2.2.2.2.2.2.2.2.2.2.2.2.2.2.2.2.2.2.2.2.1
theorem dX7_find_102 : decode cX7_find 102 = .ok (.iload 9, 2) := zdX7_find_56.2.2.2.2.2.2.2.2.2.2.2.2.2.2.2.2.2.2.2.2.2.2.2.2.2.1
theorem dX7_find_104 : decode cX7_find 104 = .ok (.iload 4, 2) := zdX7_find_56.2.2.2.2.2.2.2.2.2.2.2.2.2.2.2.2.2.2.2.2.2.2.2.2.2.2.1
theorem dX7_find_106 : decode cX7_find 106 = .ok (.if_icmp .ge 53, 3) := zdX7_find_56.2.2.2.2.2.2.2.2.2.2.2.2.2.2.2.2.2.2.2.2.2.2.2.2.2.2.2.1
theorem dX7_find_109 : decode cX7_find 109 = .ok (.iload 8, 2) := zdX7_find_56.2.2.2.2.2.2.2.2.2.2.2.2.2.2.2.2.2.2.2.2.2.2.2.2.2.2.2.2.1
theorem dX7_find_111 : decode cX7_find 111 = .ok (.ifCond .eq 48, 3) := zdX7_find_56.2.2.2.2.2.2.2.2.2.2.2.2.2.2.2.2.2.2.2.2.2.2.2.2.2.2.2.2.2.1
set_option maxRecDepth 20000 in
theorem zdX7_find_114 : dAll cX7_find [(114, .aload_n 0, 1), (115, .iload_n 2, 1), (116, .iload 9, 2), (118, .iadd, 1), (119, .iload_n 3, 1), (120, .invokevirtual 38, 3), (123, .aload_n 0, 1), (124, .iload_n 1, 1), (125, .invokevirtual 108, 3), (128, .ifCond .ne 7, 3), (131, .iconst 1, 1), (132, .goto 4, 3), (135, .iconst 0, 1), (136, .istore 8, 2), (138, .iload 8, 2), (140, .ifCond .eq 7, 3), (143, .iconst (-1), 1), (144, .goto 7, 3), (147, .iload_n 2, 1), (148, .iload 9, 2), (150, .iadd, 1), (151, .istore 7, 2), (153, .iinc 9 1, 3), (156, .goto (-54), 3), (159, .aload_n 0, 1), (160, .iload 5, 2), (162, .iload 6, 2), (164, .invokevirtual 38, 3), (167, .iconst 0, 1), (168, .istore 9, 2)] := dAll_of (by decide +kernel)
theorem dX7_find_114 : decode cX7_find 114 = .ok (.aload_n 0, 1) := zdX7_find_114.1
theorem dX7_find_115 : decode cX7_find 115 = .ok (.iload_n 2, 1) := zdX7_find_114.2.1
theorem dX7_find_116 : decode cX7_find 116 = .ok (.iload 9, 2) := zdX7_find_114.2.2.1
theorem dX7_find_118 : decode cX7_find 118 = .ok (.iadd, 1) := zdX7_find_114.2.2.2.1
theorem dX7_find_119 : decode cX7_find 119 = .ok (.iload_n 3, 1) := zdX7_find_114.2.2.2.2.1
theorem dX7_find_120 : decode cX7_find 120 = .ok (.invokevirtual 38, 3) := zdX7_find_114.2.2.2.2.2.1
theorem dX7_find_123 : decode cX7_find 123 = .ok (.aload_n 0, 1) := zdX7_find_114.2.2.2.2.2.2.1
theorem dX7_find_124 : decode cX7_find 124 = .ok (.iload_n 1, 1) := zdX7_find_114.2.2.2.2.2.2.2.1
theorem dX7_find_125 : decode cX7_find 125 = .ok (.invokevirtual 108, 3) := zdX7_find_114.2.2.2.2.2.2.2.2.1
theorem dX7_find_128 : decode cX7_find 128 = .ok (.ifCond .ne 7, 3) := zdX7_find_114.2.2.2.2.2.2.2.2.2.1
theorem dX7_find_131 : decode cX7_find 131 = .ok (.iconst 1, 1) := zdX7_find_114.2.2.2.2.2.2.2.2.2.2.1
theorem dX7_find_132 : decode cX7_find 132 = .ok (.goto 4, 3) := zdX7_find_114.2.2.2.2.2.2.2.2.2.2.2.1
theorem dX7_find_135 : decode cX7_find 135 = .ok (.iconst 0, 1) := zdX7_find_114.2.2.2.2.2.2.2.2.2.2.2.2.1
theorem dX7_find_136 : decode cX7_find 136 = .ok (.istore 8, 2) := zdX7_find_114.2.2.2.2.2.2.2.2.2.2.2.2.2.1
theorem dX7_find_138 : decode cX7_find 138 = .ok (.iload 8, 2) := zdX7_find_114.2.2.2.2.2.2.2.2.2.2.2.2.2.2.1
theorem dX7_find_140 : decode cX7_find 140 = .ok (.ifCond .eq 7, 3) := zdX7_find_114.2.2.2.2.2.2.2.2.2.2.2.2.2.2.2.1
theorem dX7_find_143 : decode cX7_find 143 = .ok (.iconst (-1), 1) := zdX7_find_114.2.2.2.2.2.2.2.2.2.2.2.2.2.2.2.2.1
theorem dX7_find_144 : decode cX7_find 144 = .ok (.goto 7, 3) := zdX7_find_114.2.2.2.2.2.2.2.2.2.2.2.2.2.2.2.2.2.1
theorem dX7_find_147 : decode cX7_find 147 = .ok (.iload_n 2, 1) := zdX7_find_114.2.2.2.2.2.2.2.2.2.2.2.2.2.2.2.2.2.2.1
theorem dX7_find_148 : decode cX7_find 148 = .ok (.iload 9, 2) := zdX7_find_114.2.2.2.2.2.2.2.2.2.2.2.2.2.2.2.2.2.2.2.1
theorem dX7_find_150 : decode cX7_find 150 = .ok (.iadd, 1) := zdX7_find_114.2.2.2.2.2.2.2.2.2.2.2.2.2.2.2.2.2.2.2.2.1
theorem dX7_find_151 : decode cX7_find 151 = .ok (.istore 7, 2) := zdX7_find_114.2.2.2.2.2.2.2.2.2.2.2.2.2.2.2.2.2.2.2.2.2.1
theorem dX7_find_153 : decode cX7_find 153 = .ok (.iinc 9 1, 3) := zdX7_find_114.2.2.2.2.2.2.2.2.2.2.2.2.2.2.2.2.2.2.2.2.2.2.1
theorem dX7_find_156 : decode cX7_find 156 = .ok (.goto (-54), 3) := zdX7_find_114.2.2.2.2.2.2.2.2.2.2.2.2.2.2.2.2.2.2.2.2.2.2.2.1
theorem dX7_find_159 : decode cX7_find 159 = .ok (.aload_n 0, 1) := zdX7_find_114.2.2.2.2.2.2.2.2.2.2.2.2.2.2.2.2.2.2.2.2.2.2.2.2.1
theorem dX7_find_160 : decode cX7_find 160 = .ok (.iload 5, 2) := zdX7_find_114.2.2.2.2.2.2.2.2.2.2.2.2.2.2.2.2.2.2.2.2.2.2.2.2.2.1
theorem dX7_find_162 : decode cX7_find 162 = .ok (.iload 6, 2) := zdX7_find_114.2.2.2.2.2.2.2.2.2.2.2.2.2.2.2.2.2.2.2.2.2.2.2.2.2.2.1
theorem dX7_find_164 : decode cX7_find 164 = .ok (.invokevirtual 38, 3) := zdX7_find_114.2.2.2.2.2.2.2.2.2.2.2.2.2.2.2.2.2.2.2.2.2.2.2.2.2.2.2.1
theorem dX7_find_167 : decode cX7_find 167 = .ok (.iconst 0, 1) := zdX7_find_114.2.2.2.2.2.2.2.2.2.2.2.2.2.2.2.2.2.2.2.2.2.2.2.2.2.2.2.2.1
theorem dX7_find_168 : decode cX7_find 168 = .ok (.istore 9, 2) := zdX7_find_114.2.2.2.2.2.2.2.2.2.2.2.2.2.2.2.2.2.2.2.2.2.2.2.2.2.2.2.2.2.1
set_option maxRecDepth 20000 in
theorem zdX7_find_170 : dAll cX7_find [(170, .iload 9, 2), (172, .bipush 62, 2), (174, .if_icmp .ge 23, 3), (177, .aload_n 0, 1), (178, .getfield 13, 3), (181, .iload 9, 2), (183, .aload_n 0, 1), (184, .getfield 26, 3), (187, .iload 9, 2), (189, .baload, 1), (190, .bastore, 1), (191, .iinc 9 1, 3), (194, .goto (-24), 3), (197, .iload 7, 2), (199, .ireturn, 1)] := dAll_of (by decide +kernel)
theorem dX7_find_170 : decode cX7_find 170 = .ok (.iload 9, 2) := zdX7_find_170.1
theorem dX7_find_172 : decode cX7_find 172 = .ok (.bipush 62, 2) := zdX7_find_170.2.1
theorem dX7_find_174 : decode cX7_find 174 = .ok (.if_icmp .ge 23, 3) := zdX7_find_170.2.2.1
theorem dX7_find_177 : decode cX7_find 177 = .ok (.aload_n 0, 1) := zdX7_find_170.2.2.2.1
theorem dX7_find_178 : decode cX7_find 178 = .ok (.getfield 13, 3) := zdX7_find_170.2.2.2.2.1
theorem dX7_find_181 : decode cX7_find 181 = .ok (.iload 9, 2) := zdX7_find_170.2.2.2.2.2.1
theorem dX7_find_183 : decode cX7_find 183 = .ok (.aload_n 0, 1) := zdX7_find_170.2.2.2.2.2.2.1
theorem dX7_find_184 : decode cX7_find 184 = .ok (.getfield 26, 3) := zdX7_find_170.2.2.2.2.2.2.2.1
theorem dX7_find_187 : decode cX7_find 187 = .ok (.iload 9, 2) := zdX7_find_170.2.2.2.2.2.2.2.2.1
theorem dX7_find_189 : decode cX7_find 189 = .ok (.baload, 1) := zdX7_find_170.2.2.2.2.2.2.2.2.2.1
theorem dX7_find_190 : decode cX7_find 190 = .ok (.bastore, 1) := zdX7_find_170.2.2.2.2.2.2.2.2.2.2.1
theorem dX7_find_191 : decode cX7_find 191 = .ok (.iinc 9 1, 3) := zdX7_find_170.2.2.2.2.2.2.2.2.2.2.2.1
theorem dX7_find_194 : decode cX7_find 194 = .ok (.goto (-24), 3) := zdX7_find_170.2.2.2.2.2.2.2.2.2.2.2.2.1
theorem dX7_find_197 : decode cX7_find 197 = .ok (.iload 7, 2) := zdX7_find_170.2.2.2.2.2.2.2.2.2.2.2.2.2.1
theorem dX7_find_199 : decode cX7_find 199 = .ok (.ireturn, 1) := zdX7_find_170.2.2.2.2.2.2.2.2.2.2.2.2.2.2.1
set_option maxRecDepth 20000 in
theorem zdX7_put_0 : dAll cX7_put [(0, .aload_n 0, 1), (1, .getfield 32, 3), (4, .aload_n 0, 1), (5, .getfield 111, 3), (8, .iload_n 1, 1), (9, .iastore, 1), (10, .aload_n 0, 1), (11, .dup, 1), (12, .getfield 111, 3), (15, .iconst 1, 1), (16, .iadd, 1), (17, .putfield 111, 3), (20, .return_, 1)] := dAll_of (by decide +kernel)
theorem dX7_put_0 : decode cX7_put 0 = .ok (.aload_n 0, 1) := zdX7_put_0.1
theorem dX7_put_1 : decode cX7_put 1 = .ok (.getfield 32, 3) := zdX7_put_0.2.1
theorem dX7_put_4 : decode cX7_put 4 = .ok (.aload_n 0, 1) := zdX7_put_0.2.2.1
theorem dX7_put_5 : decode cX7_put 5 = .ok (.getfield 111, 3) := zdX7_put_0.2.2.2.1
theorem dX7_put_8 : decode cX7_put 8 = .ok (.iload_n 1, 1) := zdX7_put_0.2.2.2.2.1
theorem dX7_put_9 : decode cX7_put 9 = .ok (.iastore, 1) := zdX7_put_0.2.2.2.2.2.1
theorem dX7_put_10 : decode cX7_put 10 = .ok (.aload_n 0, 1) := zdX7_put_0.2.2.2.2.2.2.1
theorem dX7_put_11 : decode cX7_put 11 = .ok (.dup, 1) := zdX7_put_0.2.2.2.2.2.2.2.1
theorem dX7_put_12 : decode cX7_put 12 = .ok (.getfield 111, 3) := zdX7_put_0.2.2.2.2.2.2.2.2.1
theorem dX7_put_15 : decode cX7_put 15 = .ok (.iconst 1, 1) := zdX7_put_0.2.2.2.2.2.2.2.2.2.1
theorem dX7_put_16 : decode cX7_put 16 = .ok (.iadd, 1) := zdX7_put_0.2.2.2.2.2.2.2.2.2.2.1
theorem dX7_put_17 : decode cX7_put 17 = .ok (.putfield 111, 3) := zdX7_put_0.2.2.2.2.2.2.2.2.2.2.2.1
theorem dX7_put_20 : decode cX7_put 20 = .ok (.return_, 1) := zdX7_put_0.2.2.2.2.2.2.2.2.2.2.2.2.1
set_option maxRecDepth 20000 in
theorem ggX7_putNumber_X7_put : GoodIn wsX7_putNumber wsX7_put := goodIn_r _ [5, 6, 7, 8, 9, 10, 11, 12, 13, 14, 15, 16, 17, 18, 19, 20, 21, 22, 23, 24, 25, 26] rfl (by decide +kernel)
set_option maxRecDepth 20000 in
theorem gX7_putNumber_X7_put : GoodIn wsX7_putNumber (wsV RX7 114 RX7 yX7_put wsX7_put) := goodIn_app (goodIn_of _ (by decide +kernel)) ggX7_putNumber_X7_put
set_option maxRecDepth 20000 in
theorem zdX7_putNumber_0 : dAll cX7_putNumber [(0, .aload_n 0, 1), (1, .iload_n 1, 1), (2, .invokevirtual 114, 3), (5, .iload_n 2, 1), (6, .sipush 999, 3), (9, .if_icmp .le 15, 3), (12, .aload_n 0, 1), (13, .bipush 48, 2), (15, .iload_n 2, 1), (16, .sipush 1000, 3), (19, .idiv, 1), (20, .iadd, 1), (21, .invokevirtual 114, 3), (24, .iload_n 2, 1), (25, .bipush 99, 2), (27, .if_icmp .le 17, 3), (30, .aload_n 0, 1), (31, .bipush 48, 2), (33, .iload_n 2, 1), (34, .bipush 100, 2), (36, .idiv, 1), (37, .bipush 10, 2), (39, .irem, 1), (40, .iadd, 1), (41, .invokevirtual 114, 3), (44, .iload_n 2, 1), (45, .bipush 9, 2), (47, .if_icmp .le 17, 3), (50, .aload_n 0, 1), (51, .bipush 48, 2)] := dAll_of (by decide +kernel)
theorem dX7_putNumber_0 : decode cX7_putNumber 0 = .ok (.aload_n 0, 1) := zdX7_putNumber_0.1
theorem dX7_putNumber_1 : decode cX7_putNumber 1 = .ok (.iload_n 1, 1) := zdX7_putNumber_0.2.1
theorem dX7_putNumber_2 : decode cX7_putNumber 2 = .ok (.invokevirtual 114, 3) := zdX7_putNumber_0.2.2.1
theorem dX7_putNumber_5 : decode cX7_putNumber 5 = .ok (.iload_n 2, 1) := zdX7_putNumber_0.2.2.2.1
theorem dX7_putNumber_6 : decode cX7_putNumber 6 = .ok (.sipush 999, 3) := zdX7_putNumber_0.2.2.2.2.1
theorem dX7_putNumber_9 : decode cX7_putNumber 9 = .ok (.if_icmp .le 15, 3) := zdX7_putNumber_0.2.2.2.2.2.1
theorem dX7_putNumber_12 : decode cX7_putNumber 12 = .ok (.aload_n 0, 1) := zdX7_putNumber_0.2.2.2.2.2.2.1
theorem dX7_putNumber_13 : decode cX7_putNumber 13 = .ok (.bipush 48, 2) := zdX7_putNumber_0.2.2.2.2.2.2.2.1
theorem dX7_putNumber_15 : decode cX7_putNumber 15 = .ok (.iload_n 2, 1) := zdX7_putNumber_0.2.2.2.2.2.2.2.2.1
theorem dX7_putNumber_16 : decode cX7_putNumber 16 = .ok (.sipush 1000, 3) := zdX7_putNumber_0.2.2.2.2.2.2.2.2.2.1
theorem dX7_putNumber_19 : decode cX7_putNumber 19 = .ok (.idiv, 1) := zdX7_putNumber_0.2.2.2.2.2.2.2.2.2.2.1
theorem dX7_putNumber_20 : decode cX7_putNumber 20 = .ok (.iadd, 1) := zdX7_putNumber_0.2.2.2.2.2.2.2.2.2.2.2.1
theorem dX7_putNumber_21 : decode cX7_putNumber 21 = .ok (.invokevirtual 114, 3) := zdX7_putNumber_0.2.2.2.2.2.2.2.2.2.2.2.2.1
theorem dX7_putNumber_24 : decode cX7_putNumber 24 = .ok (.iload_n 2, 1) := zdX7_putNumber_0.2.2.2.2.2.2.2.2.2.2.2.2.2.1
theorem dX7_putNumber_25 : decode cX7_putNumber 25 = .ok (.bipush 99, 2) := zdX7_putNumber_0.2.2.2.2.2.2.2.2.2.2.2.2.2.2.1
theorem dX7_putNumber_27 : decode cX7_putNumber 27 = .ok (.if_icmp .le 17, 3) := zdX7_putNumber_0.2.2.2.2.2.2.2.2.2.2.2.2.2.2.2.1
theorem dX7_putNumber_30 : decode cX7_putNumber 30 = .ok (.aload_n 0, 1) := zdX7_putNumber_0.2.2.2.2.2.2.2.2.2.2.2.2.2.2.2.2.1
theorem dX7_putNumber_31 : decode cX7_putNumber 31 = .ok (.bipush 48, 2) := zdX7_putNumber_0.2.2.2.2.2.2.2.2.2.2.2.2.2.2.2.2.2.1
theorem dX7_putNumber_33 : decode cX7_putNumber 33 = .ok (.iload_n 2, 1) := zdX7_putNumber_0.2.2.2.2.2.2.2.2.2.2.2.2.2.2.2.2.2.2.1
theorem dX7_putNumber_34 : decode cX7_putNumber 34 = .ok (.bipush 100, 2) := zdX7_putNumber_0.2.2.2.2.2.2.2.2.2.2.2.2.2.2.2.2.2.2.2.1
theorem dX7_putNumber_36 : decode cX7_putNumber 36 = .ok (.idiv, 1) := zdX7_putNumber_0.2.2.2.2.2.2.2.2.2.2.2.2.2.2.2.2.2.2.2.2.1
theorem dX7_putNumber_37 : decode cX7_putNumber 37 = .ok (.bipush 10, 2) := zdX7_putNumber_0.2.2.2.2.2.2.2.2.2.2.2.2.2.2.2.2.2.2.2.2.2.1
theorem dX7_putNumber_39 : decode cX7_putNumber 39 = .ok (.irem, 1) := zdX7_putNumber_0.2.2.2.2.2.2.2.2.2.2.2.2.2.2.2.2.2.2.2.2.2.2.1
theorem dX7_putNumber_40 : decode cX7_putNumber 40 = .ok (.iadd, 1) := zdX7_putNumber_0.2.2.2.2.2.2.2.2.2.2.2.2.2.2.2.2.2.2.2.2.2.2.2.1
theorem dX7_putNumber_41 : decode cX7_putNumber 41 = .ok (.invokevirtual 114, 3) := zdX7_putNumber_0.2.2.2.2.2.2.2.2.2.2.2.2.2.2.2.2.2.2.2.2.2.2.2.2.1
theorem dX7_putNumber_44 : decode cX7_putNumber 44 = .ok (.iload_n 2, 1) := zdX7_putNumber_0.2.2.2.2.2.2.2.2.2.2.2.2.2.2.2.2.2.2.2.2.2.2.2.2.2.1
theorem dX7_putNumber_45 : decode cX7_putNumber 45 = .ok (.bipush 9, 2) := zdX7_putNumber_0.2.2.2.2.2.2.2.2.2.2.2.2.2.2.2.2.2.2.2.2.2.2.2.2.2.2.1
theorem dX7_putNumber_47 : decode cX7_putNumber 47 = .ok (.if_icmp .le 17, 3) := zdX7_putNumber_0.2.2.2.2.2.2.2.2.2.2.2.2.2.2.2.2.2.2.2.2.2.2.2.2.2.2.2.1
theorem dX7_putNumber_50 : decode cX7_putNumber 50 = .ok (.aload_n 0, 1) := zdX7_putNumber_0.2.2.2.2.2.2.2.2.2.2.2.2.2.2.2.2.2.2.2.2.2.2.2.2.2.2.2.2.1
theorem dX7_putNumber_51 : decode cX7_putNumber 51 = .ok (.bipush 48, 2) := zdX7_putNumber_0.2.2.2.2.2.2.2.2.2.2.2.2.2.2.2.2.2.2.2.2.2.2.2.2.2.2.2.2.2.1
set_option maxRecDepth 20000 in
theorem zdX7_putNumber_53 : dAll cX7_putNumber [(53, .iload_n 2, 1), (54, .bipush 10, 2), (56, .idiv, 1), (57, .bipush 10, 2), (59, .irem, 1), (60, .iadd, 1), (61, .invokevirtual 114, 3), (64, .aload_n 0, 1), (65, .bipush 48, 2), (67, .iload_n 2, 1), (68, .bipush 10, 2), (70, .irem, 1), (71, .iadd, 1), (72, .invokevirtual 114, 3), (75, .return_, 1)] := dAll_of (by decide +kernel)
theorem dX7_putNumber_53 : decode cX7_putNumber 53 = .ok (.iload_n 2, 1) := zdX7_putNumber_53.1
theorem dX7_putNumber_54 : decode cX7_putNumber 54 = .ok (.bipush 10, 2) := zdX7_putNumber_53.2.1
theorem dX7_putNumber_56 : decode cX7_putNumber 56 = .ok (.idiv, 1) := zdX7_putNumber_53.2.2.1
theorem dX7_putNumber_57 : decode cX7_putNumber 57 = .ok (.bipush 10, 2) := zdX7_putNumber_53.2.2.2.1
theorem dX7_putNumber_59 : decode cX7_putNumber 59 = .ok (.irem, 1) := zdX7_putNumber_53.2.2.2.2.1
theorem dX7_putNumber_60 : decode cX7_putNumber 60 = .ok (.iadd, 1) := zdX7_putNumber_53.2.2.2.2.2.1
theorem dX7_putNumber_61 : decode cX7_putNumber 61 = .ok (.invokevirtual 114, 3) := zdX7_putNumber_53.2.2.2.2.2.2.1
theorem dX7_putNumber_64 : decode cX7_putNumber 64 = .ok (.aload_n 0, 1) := zdX7_putNumber_53.2.2.2.2.2.2.2.1
theorem dX7_putNumber_65 : decode cX7_putNumber 65 = .ok (.bipush 48, 2) := zdX7_putNumber_53.2.2.2.2.2.2.2.2.1
theorem dX7_putNumber_67 : decode cX7_putNumber 67 = .ok (.iload_n 2, 1) := zdX7_putNumber_53.2.2.2.2.2.2.2.2.2.1
theorem dX7_putNumber_68 : decode cX7_putNumber 68 = .ok (.bipush 10, 2) := zdX7_putNumber_53.2.2.2.2.2.2.2.2.2.2.1
theorem dX7_putNumber_70 : decode cX7_putNumber 70 = .ok (.irem, 1) := zdX7_putNumber_53.2.2.2.2.2.2.2.2.2.2.2.1
theorem dX7_putNumber_71 : decode cX7_putNumber 71 = .ok (.iadd, 1) := zdX7_putNumber_53.2.2.2.2.2.2.2.2.2.2.2.2.1
theorem dX7_putNumber_72 : decode cX7_putNumber 72 = .ok (.invokevirtual 114, 3) := zdX7_putNumber_53.2.2.2.2.2.2.2.2.2.2.2.2.2.1
theorem dX7_putNumber_75 : decode cX7_putNumber 75 = .ok (.return_, 1) := zdX7_putNumber_53.2.2.2.2.2.2.2.2.2.2.2.2.2.2.1
set_option maxRecDepth 20000 in
theorem ggX7_print_X7_putNumber : GoodIn wsX7_print wsX7_putNumber := goodIn_r _ [12, 13, 14, 15, 11, 16, 17, 2, 18, 19, 20, 21, 22, 23, 24, 25, 26, 27, 28, 29, 30, 31, 32, 33, 34, 35, 36] rfl (by decide +kernel)
set_option maxRecDepth 20000 in
theorem gX7_print_X7_putNumber : GoodIn wsX7_print (wsV RX7 117 RX7 yX7_putNumber wsX7_putNumber) := goodIn_app (goodIn_of _ (by decide +kernel)) ggX7_print_X7_putNumber
set_option maxRecDepth 20000 in
theorem ggX7_print_X7_put : GoodIn wsX7_print wsX7_put := goodIn_r _ [16, 17, 2, 18, 19, 20, 21, 22, 23, 24, 25, 26, 27, 28, 29, 30, 31, 32, 33, 34, 35, 36] rfl (by decide +kernel)
set_option maxRecDepth 20000 in
theorem gX7_print_X7_put : GoodIn wsX7_print (wsV RX7 114 RX7 yX7_put wsX7_put) := goodIn_app (goodIn_of _ (by decide +kernel)) ggX7_print_X7_put
set_option maxRecDepth 20000 in
theorem zdX7_print_0 : dAll cX7_print [(0, .aload_n 0, 1), (1, .iconst 0, 1), (2, .putfield 42, 3), (5, .aload_n 0, 1), (6, .iconst 0, 1), (7, .putfield 111, 3), (10, .iconst 0, 1), (11, .istore_n 1, 1), (12, .iload_n 1, 1), (13, .bipush 62, 2), (15, .if_icmp .ge 134, 3), (18, .aload_n 0, 1), (19, .getfield 13, 3), (22, .iload_n 1, 1), (23, .baload, 1), (24, .ifCond .eq 119, 3), (27, .aload_n 0, 1), (28, .aload_n 0, 1), (29, .getfield 7, 3), (32, .iload_n 1, 1), (33, .iaload, 1), (34, .ifCond .ne 8, 3), (37, .bipush 115, 2), (39, .goto 20, 3), (42, .aload_n 0, 1), (43, .getfield 7, 3), (46, .iload_n 1, 1), (47, .iaload, 1), (48, .iconst 1, 1), (49, .if_icmp .ne 8, 3)] := dAll_of (by decide +kernel)
theorem dX7_print_0 : decode cX7_print 0 = .ok (.aload_n 0, 1) := zdX7_print_0.1
theorem dX7_print_1 : decode cX7_print 1 = .ok (.iconst 0, 1) := zdX7_print_0.2.1
theorem dX7_print_2 : decode cX7_print 2 = .ok (.putfield 42, 3) := zdX7_print_0.2.2.1
theorem dX7_print_5 : decode cX7_print 5 = .ok (.aload_n 0, 1) := zdX7_print_0.2.2.2.1
theorem dX7_print_6 : decode cX7_print 6 = .ok (.iconst 0, 1) := zdX7_print_0.2.2.2.2.1
theorem dX7_print_7 : decode cX7_print 7 = .ok (.putfield 111, 3) := zdX7_print_0.2.2.2.2.2.1
theorem dX7_print_10 : decode cX7_print 10 = .ok (.iconst 0, 1) := zdX7_print_0.2.2.2.2.2.2.1
theorem dX7_print_11 : decode cX7_print 11 = .ok (.istore_n 1, 1) := zdX7_print_0.2.2.2.2.2.2.2.1
theorem dX7_print_12 : decode cX7_print 12 = .ok (.iload_n 1, 1) := zdX7_print_0.2.2.2.2.2.2.2.2.1
theorem dX7_print_13 : decode cX7_print 13 = .ok (.bipush 62, 2) := zdX7_print_0.2.2.2.2.2.2.2.2.2.1
theorem dX7_print_15 : decode cX7_print 15 = .ok (.if_icmp .ge 134, 3) := zdX7_print_0.2.2.2.2.2.2.2.2.2.2.1
theorem dX7_print_18 : decode cX7_print 18 = .ok (.aload_n 0, 1) := zdX7_print_0.2.2.2.2.2.2.2.2.2.2.2.1
theorem dX7_print_19 : decode cX7_print 19 = .ok (.getfield 13, 3) := zdX7_print_0.2.2.2.2.2.2.2.2.2.2.2.2.1
theorem dX7_print_22 : decode cX7_print 22 = .ok (.iload_n 1, 1) := zdX7_print_0.2.2.2.2.2.2.2.2.2.2.2.2.2.1
theorem dX7_print_23 : decode cX7_print 23 = .ok (.baload, 1) := zdX7_print_0.2.2.2.2.2.2.2.2.2.2.2.2.2.2.1
theorem dX7_print_24 : decode cX7_print 24 = .ok (.ifCond .eq 119, 3) := zdX7_print_0.2.2.2.2.2.2.2.2.2.2.2.2.2.2.2.1
theorem dX7_print_27 : decode cX7_print 27 = .ok (.aload_n 0, 1) := zdX7_print_0.2.2.2.2.2.2.2.2.2.2.2.2.2.2.2.2.1
theorem dX7_print_28 : decode cX7_print 28 = .ok (.aload_n 0, 1) := zdX7_print_0.2.2.2.2.2.2.2.2.2.2.2.2.2.2.2.2.2.1
theorem dX7_print_29 : decode cX7_print 29 = .ok (.getfield 7, 3) := zdX7_print_0.2.2.2.2.2.2.2.2.2.2.2.2.2.2.2.2.2.2.1
theorem dX7_print_32 : decode cX7_print 32 = .ok (.iload_n 1, 1) := zdX7_print_0.2.2.2.2.2.2.2.2.2.2.2.2.2.2.2.2.2.2.2.1
theorem dX7_print_33 : decode cX7_print 33 = .ok (.iaload, 1) := zdX7_print_0.2.2.2.2.2.2.2.2.2.2.2.2.2.2.2.2.2.2.2.2.1
theorem dX7_print_34 : decode cX7_print 34 = .ok (.ifCond .ne 8, 3) := zdX7_print_0.2.2.2.2.2.2.2.2.2.2.2.2.2.2.2.2.2.2.2.2.2.1
theorem dX7_print_37 : decode cX7_print 37 = .ok (.bipush 115, 2) := zdX7_print_0.2.2.2.2.2.2.2.2.2.2.2.2.2.2.2.2.2.2.2.2.2.2.1
theorem dX7_print_39 : decode cX7_print 39 = .ok (.goto 20, 3) := zdX7_print_0.2.2.2.2.2.2.2.2.2.2.2.2.2.2.2.2.2.2.2.2.2.2.2.1
theorem dX7_print_42 : decode cX7_print 42 = .ok (.aload_n 0, 1) := zdX7_print_0.2.2.2.2.2.2.2.2.2.2.2.2.2.2.2.2.2.2.2.2.2.2.2.2.1
theorem dX7_print_43 : decode cX7_print 43 = .ok (.getfield 7, 3) := zdX7_print_0.2.2.2.2.2.2.2.2.2.2.2.2.2.2.2.2.2.2.2.2.2.2.2.2.2.1
theorem dX7_print_46 : decode cX7_print 46 = .ok (.iload_n 1, 1) := zdX7_print_0.2.2.2.2.2.2.2.2.2.2.2.2.2.2.2.2.2.2.2.2.2.2.2.2.2.2.1
theorem dX7_print_47 : decode cX7_print 47 = .ok (.iaload, 1) := zdX7_print_0.2.2.2.2.2.2.2.2.2.2.2.2.2.2.2.2.2.2.2.2.2.2.2.2.2.2.2.1
theorem dX7_print_48 : decode cX7_print 48 = .ok (.iconst 1, 1) := zdX7_print_0.2.2.2.2.2.2.2.2.2.2.2.2.2.2.2.2.2.2.2.2.2.2.2.2.2.2.2.2.1
theorem dX7_print_49 : decode cX7_print 49 = .ok (.if_icmp .ne 8, 3) := zdX7_print_0.2.2.2.2.2.2.2.2.2.2.2.2.2.2.2.2.2.2.2.2.2.2.2.2.2.2.2.2.2.1
set_option maxRecDepth 20000 in
theorem zdX7_print_52 : dAll cX7_print [(52, .bipush 117, 2), (54, .goto 5, 3), (57, .bipush 99, 2), (59, .aload_n 0, 1), (60, .getfield 17, 3), (63, .iload_n 1, 1), (64, .iaload, 1), (65, .invokevirtual 117, 3), (68, .aload_n 0, 1), (69, .aload_n 0, 1), (70, .getfield 7, 3), (73, .iload_n 1, 1), (74, .iaload, 1), (75, .ifCond .ne 8, 3), (78, .bipush 45, 2), (80, .goto 5, 3), (83, .bipush 58, 2), (85, .aload_n 0, 1), (86, .getfield 20, 3), (89, .iload_n 1, 1), (90, .iaload, 1), (91, .invokevirtual 117, 3), (94, .aload_n 0, 1), (95, .getfield 7, 3), (98, .iload_n 1, 1), (99, .iaload, 1), (100, .ifCond .ne 15, 3), (103, .aload_n 0, 1), (104, .bipush 58, 2), (106, .aload_n 0, 1)] := dAll_of (by decide +kernel)
theorem dX7_print_52 : decode cX7_print 52 = .ok (.bipush 117, 2) := zdX7_print_52.1
theorem dX7_print_54 : decode cX7_print 54 = .ok (.goto 5, 3) := zdX7_print_52.2.1
theorem dX7_print_57 : decode cX7_print 57 = .ok (.bipush 99, 2) := zdX7_print_52.2.2.1
theorem dX7_print_59 : decode cX7_print 59 = .ok (.aload_n 0, 1) := zdX7_print_52.2.2.2.1
theorem dX7_print_60 : decode cX7_print 60 = .ok (.getfield 17, 3) := zdX7_print_52.2.2.2.2.1
theorem dX7_print_63 : decode cX7_print 63 = .ok (.iload_n 1, 1) := zdX7_print_52.2.2.2.2.2.1
theorem dX7_print_64 : decode cX7_print 64 = .ok (.iaload, 1) := zdX7_print_52.2.2.2.2.2.2.1
theorem dX7_print_65 : decode cX7_print 65 = .ok (.invokevirtual 117, 3) := zdX7_print_52.2.2.2.2.2.2.2.1
theorem dX7_print_68 : decode cX7_print 68 = .ok (.aload_n 0, 1) := zdX7_print_52.2.2.2.2.2.2.2.2.1
theorem dX7_print_69 : decode cX7_print 69 = .ok (.aload_n 0, 1) := zdX7_print_52.2.2.2.2.2.2.2.2.2.1
theorem dX7_print_70 : decode cX7_print 70 = .ok (.getfield 7, 3) := zdX7_print_52.2.2.2.2.2.2.2.2.2.2.1
theorem dX7_print_73 : decode cX7_print 73 = .ok (.iload_n 1, 1) := zdX7_print_52.2.2.2.2.2.2.2.2.2.2.2.1
theorem dX7_print_74 : decode cX7_print 74 = .ok (.iaload, 1) := zdX7_print_52.2.2.2.2.2.2.2.2.2.2.2.2.1
theorem dX7_print_75 : decode cX7_print 75 = .ok (.ifCond .ne 8, 3) := zdX7_print_52.2.2.2.2.2.2.2.2.2.2.2.2.2.1
theorem dX7_print_78 : decode cX7_print 78 = .ok (.bipush 45, 2) := zdX7_print_52.2.2.2.2.2.2.2.2.2.2.2.2.2.2.1
theorem dX7_print_80 : decode cX7_print 80 = .ok (.goto 5, 3) := zdX7_print_52.2.2.2.2.2.2.2.2.2.2.2.2.2.2.2.1
theorem dX7_print_83 : decode cX7_print 83 = .ok (.bipush 58, 2) := zdX7_print_52.2.2.2.2.2.2.2.2.2.2.2.2.2.2.2.2.1
theorem dX7_print_85 : decode cX7_print 85 = .ok (.aload_n 0, 1) := zdX7_print_52.2.2.2.2.2.2.2.2.2.2.2.2.2.2.2.2.2.1
theorem dX7_print_86 : decode cX7_print 86 = .ok (.getfield 20, 3) := zdX7_print_52.2.2.2.2.2.2.2.2.2.2.2.2.2.2.2.2.2.2.1
theorem dX7_print_89 : decode cX7_print 89 = .ok (.iload_n 1, 1) := zdX7_print_52.2.2.2.2.2.2.2.2.2.2.2.2.2.2.2.2.2.2.2.1
theorem dX7_print_90 : decode cX7_print 90 = .ok (.iaload, 1) := zdX7_print_52.2.2.2.2.2.2.2.2.2.2.2.2.2.2.2.2.2.2.2.2.1
theorem dX7_print_91 : decode cX7_print 91 = .ok (.invokevirtual 117, 3) := zdX7_print_52.2.2.2.2.2.2.2.2.2.2.2.2.2.2.2.2.2.2.2.2.2.1
theorem dX7_print_94 : decode cX7_print 94 = .ok (.aload_n 0, 1) := zdX7_print_52.2.2.2.2.2.2.2.2.2.2.2.2.2.2.2.2.2.2.2.2.2.2.1
theorem dX7_print_95 : decode cX7_print 95 = .ok (.getfield 7, 3) := zdX7_print_52.2.2.2.2.2.2.2.2.2.2.2.2.2.2.2.2.2.2.2.2.2.2.2.1
theorem dX7_print_98 : decode cX7_print 98 = .ok (.iload_n 1, 1) := zdX7_print_52.2.2.2.2.2.2.2.2.2.2.2.2.2.2.2.2.2.2.2.2.2.2.2.2.1
theorem dX7_print_99 : decode cX7_print 99 = .ok (.iaload, 1) := zdX7_print_52.2.2.2.2.2.2.2.2.2.2.2.2.2.2.2.2.2.2.2.2.2.2.2.2.2.1
theorem dX7_print_100 : decode cX7_print 100 = .ok (.ifCond .ne 15, 3) := zdX7_print_52.2.2.2.2.2.2.2.2.2.2.2.2.2.2.2.2.2.2.2.2.2.2.2.2.2.2.1
theorem dX7_print_103 : decode cX7_print 103 = .ok (.aload_n 0, 1) := zdX7_print_52.2.2.2.2.2.2.2.2.2.2.2.2.2.2.2.2.2.2.2.2.2.2.2.2.2.2.2.1
theorem dX7_print_104 : decode cX7_print 104 = .ok (.bipush 58, 2) := zdX7_print_52.2.2.2.2.2.2.2.2.2.2.2.2.2.2.2.2.2.2.2.2.2.2.2.2.2.2.2.2.1
theorem dX7_print_106 : decode cX7_print 106 = .ok (.aload_n 0, 1) := zdX7_print_52.2.2.2.2.2.2.2.2.2.2.2.2.2.2.2.2.2.2.2.2.2.2.2.2.2.2.2.2.2.1
set_option maxRecDepth 20000 in
theorem zdX7_print_107 : dAll cX7_print [(107, .getfield 23, 3), (110, .iload_n 1, 1), (111, .iaload, 1), (112, .invokevirtual 117, 3), (115, .aload_n 0, 1), (116, .getfield 7, 3), (119, .iload_n 1, 1), (120, .iaload, 1), (121, .iconst 2, 1), (122, .if_icmp .ne 15, 3), (125, .aload_n 0, 1), (126, .bipush 64, 2), (128, .aload_n 0, 1), (129, .getfield 23, 3), (132, .iload_n 1, 1), (133, .iaload, 1), (134, .invokevirtual 117, 3), (137, .aload_n 0, 1), (138, .bipush 59, 2), (140, .invokevirtual 114, 3), (143, .iinc 1 1, 3), (146, .goto (-134), 3), (149, .aload_n 0, 1), (150, .getfield 111, 3), (153, .ireturn, 1)] := dAll_of (by decide +kernel)
theorem dX7_print_107 : decode cX7_print 107 = .ok (.getfield 23, 3) := zdX7_print_107.1
theorem dX7_print_110 : decode cX7_print 110 = .ok (.iload_n 1, 1) := zdX7_print_107.2.1
theorem dX7_print_111 : decode cX7_print 111 = .ok (.iaload, 1) := zdX7_print_107.2.2.1
theorem dX7_print_112 : decode cX7_print 112 = .ok (.invokevirtual 117, 3) := zdX7_print_107.2.2.2.1
theorem dX7_print_115 : decode cX7_print 115 = .ok (.aload_n 0, 1) := zdX7_print_107.2.2.2.2.1
theorem dX7_print_116 : decode cX7_print 116 = .ok (.getfield 7, 3) := zdX7_print_107.2.2.2.2.2.1
theorem dX7_print_119 : decode cX7_print 119 = .ok (.iload_n 1, 1) := zdX7_print_107.2.2.2.2.2.2.1
theorem dX7_print_120 : decode cX7_print 120 = .ok (.iaload, 1) := zdX7_print_107.2.2.2.2.2.2.2.1
theorem dX7_print_121 : decode cX7_print 121 = .ok (.iconst 2, 1) := zdX7_print_107.2.2.2.2.2.2.2.2.1
theorem dX7_print_122 : decode cX7_print 122 = .ok (.if_icmp .ne 15, 3) := zdX7_print_107.2.2.2.2.2.2.2.2.2.1
theorem dX7_print_125 : decode cX7_print 125 = .ok (.aload_n 0, 1) := zdX7_print_107.2.2.2.2.2.2.2.2.2.2.1
theorem dX7_print_126 : decode cX7_print 126 = .ok (.bipush 64, 2) := zdX7_print_107.2.2.2.2.2.2.2.2.2.2.2.1
theorem dX7_print_128 : decode cX7_print 128 = .ok (.aload_n 0, 1) := zdX7_print_107.2.2.2.2.2.2.2.2.2.2.2.2.1
theorem dX7_print_129 : decode cX7_print 129 = .ok (.getfield 23, 3) := zdX7_print_107.2.2.2.2.2.2.2.2.2.2.2.2.2.1
theorem dX7_print_132 : decode cX7_print 132 = .ok (.iload_n 1, 1) := zdX7_print_107.2.2.2.2.2.2.2.2.2.2.2.2.2.2.1
theorem dX7_print_133 : decode cX7_print 133 = .ok (.iaload, 1) := zdX7_print_107.2.2.2.2.2.2.2.2.2.2.2.2.2.2.2.1
theorem dX7_print_134 : decode cX7_print 134 = .ok (.invokevirtual 117, 3) := zdX7_print_107.2.2.2.2.2.2.2.2.2.2.2.2.2.2.2.2.1
theorem dX7_print_137 : decode cX7_print 137 = .ok (.aload_n 0, 1) := zdX7_print_107.2.2.2.2.2.2.2.2.2.2.2.2.2.2.2.2.2.1
theorem dX7_print_138 : decode cX7_print 138 = .ok (.bipush 59, 2) := zdX7_print_107.2.2.2.2.2.2.2.2.2.2.2.2.2.2.2.2.2.2.1
theorem dX7_print_140 : decode cX7_print 140 = .ok (.invokevirtual 114, 3) := zdX7_print_107.2.2.2.2.2.2.2.2.2.2.2.2.2.2.2.2.2.2.2.1
theorem dX7_print_143 : decode cX7_print 143 = .ok (.iinc 1 1, 3) := zdX7_print_107.2.2.2.2.2.2.2.2.2.2.2.2.2.2.2.2.2.2.2.2.1
theorem dX7_print_146 : decode cX7_print 146 = .ok (.goto (-134), 3) := zdX7_print_107.2.2.2.2.2.2.2.2.2.2.2.2.2.2.2.2.2.2.2.2.2.1
theorem dX7_print_149 : decode cX7_print 149 = .ok (.aload_n 0, 1) := zdX7_print_107.2.2.2.2.2.2.2.2.2.2.2.2.2.2.2.2.2.2.2.2.2.2.1
theorem dX7_print_150 : decode cX7_print 150 = .ok (.getfield 111, 3) := zdX7_print_107.2.2.2.2.2.2.2.2.2.2.2.2.2.2.2.2.2.2.2.2.2.2.2.1
theorem dX7_print_153 : decode cX7_print 153 = .ok (.ireturn, 1) := zdX7_print_107.2.2.2.2.2.2.2.2.2.2.2.2.2.2.2.2.2.2.2.2.2.2.2.2.1
set_option maxRecDepth 20000 in
theorem ggX7_at_X7_throwing : GoodIn wsX7_at wsX7_throwing := goodIn_r _ [7, 8, 9, 10, 11, 12, 13, 14, 15, 16, 17, 18, 19, 20, 21, 22, 23, 24, 25, 26, 27] rfl (by decide +kernel)
set_option maxRecDepth 20000 in
theorem gX7_at_X7_throwing : GoodIn wsX7_at (wsV RX7 80 RX7 yX7_throwing wsX7_throwing) := goodIn_app (goodIn_of _ (by decide +kernel)) ggX7_at_X7_throwing
set_option maxRecDepth 20000 in
theorem zdX7_at_0 : dAll cX7_at [(0, .aload_n 0, 1), (1, .iload_n 1, 1), (2, .ifCond .ge 7, 3), (5, .iconst 1, 1), (6, .goto 4, 3), (9, .iconst 0, 1), (10, .iconst 0, 1), (11, .invokevirtual 80, 3), (14, .ifCond .eq 5, 3), (17, .iconst 0, 1), (18, .ireturn, 1), (19, .iload_n 1, 1), (20, .aload_n 0, 1), (21, .getfield 111, 3), (24, .if_icmp .ge 12, 3), (27, .aload_n 0, 1), (28, .getfield 32, 3), (31, .iload_n 1, 1), (32, .iaload, 1), (33, .goto 4, 3), (36, .iconst (-1), 1), (37, .ireturn, 1)] := dAll_of (by decide +kernel)
theorem dX7_at_0 : decode cX7_at 0 = .ok (.aload_n 0, 1) := zdX7_at_0.1
theorem dX7_at_1 : decode cX7_at 1 = .ok (.iload_n 1, 1) := zdX7_at_0.2.1
theorem dX7_at_2 : decode cX7_at 2 = .ok (.ifCond .ge 7, 3) := zdX7_at_0.2.2.1
theorem dX7_at_5 : decode cX7_at 5 = .ok (.iconst 1, 1) := zdX7_at_0.2.2.2.1
theorem dX7_at_6 : decode cX7_at 6 = .ok (.goto 4, 3) := zdX7_at_0.2.2.2.2.1
theorem dX7_at_9 : decode cX7_at 9 = .ok (.iconst 0, 1) := zdX7_at_0.2.2.2.2.2.1
theorem dX7_at_10 : decode cX7_at 10 = .ok (.iconst 0, 1) := zdX7_at_0.2.2.2.2.2.2.1
theorem dX7_at_11 : decode cX7_at 11 = .ok (.invokevirtual 80, 3) := zdX7_at_0.2.2.2.2.2.2.2.1
theorem dX7_at_14 : decode cX7_at 14 = .ok (.ifCond .eq 5, 3) := zdX7_at_0.2.2.2.2.2.2.2.2.1
theorem dX7_at_17 : decode cX7_at 17 = .ok (.iconst 0, 1) := zdX7_at_0.2.2.2.2.2.2.2.2.2.1
theorem dX7_at_18 : decode cX7_at 18 = .ok (.ireturn, 1) := zdX7_at_0.2.2.2.2.2.2.2.2.2.2.1
theorem dX7_at_19 : decode cX7_at 19 = .ok (.iload_n 1, 1) := zdX7_at_0.2.2.2.2.2.2.2.2.2.2.2.1
theorem dX7_at_20 : decode cX7_at 20 = .ok (.aload_n 0, 1) := zdX7_at_0.2.2.2.2.2.2.2.2.2.2.2.2.1
theorem dX7_at_21 : decode cX7_at 21 = .ok (.getfield 111, 3) := zdX7_at_0.2.2.2.2.2.2.2.2.2.2.2.2.2.1
theorem dX7_at_24 : decode cX7_at 24 = .ok (.if_icmp .ge 12, 3) := zdX7_at_0.2.2.2.2.2.2.2.2.2.2.2.2.2.2.1
theorem dX7_at_27 : decode cX7_at 27 = .ok (.aload_n 0, 1) := zdX7_at_0.2.2.2.2.2.2.2.2.2.2.2.2.2.2.2.1
theorem dX7_at_28 : decode cX7_at 28 = .ok (.getfield 32, 3) := zdX7_at_0.2.2.2.2.2.2.2.2.2.2.2.2.2.2.2.2.1
theorem dX7_at_31 : decode cX7_at 31 = .ok (.iload_n 1, 1) := zdX7_at_0.2.2.2.2.2.2.2.2.2.2.2.2.2.2.2.2.2.1
theorem dX7_at_32 : decode cX7_at 32 = .ok (.iaload, 1) := zdX7_at_0.2.2.2.2.2.2.2.2.2.2.2.2.2.2.2.2.2.2.1
theorem dX7_at_33 : decode cX7_at 33 = .ok (.goto 4, 3) := zdX7_at_0.2.2.2.2.2.2.2.2.2.2.2.2.2.2.2.2.2.2.2.1
theorem dX7_at_36 : decode cX7_at 36 = .ok (.iconst (-1), 1) := zdX7_at_0.2.2.2.2.2.2.2.2.2.2.2.2.2.2.2.2.2.2.2.2.1
theorem dX7_at_37 : decode cX7_at 37 = .ok (.ireturn, 1) := zdX7_at_0.2.2.2.2.2.2.2.2.2.2.2.2.2.2.2.2.2.2.2.2.2.1
set_option maxRecDepth 20000 in
theorem ggX7_sign_X7_in : GoodIn wsX7_sign wsX7_in := goodIn_r _ [6] rfl (by decide +kernel)
set_option maxRecDepth 20000 in
theorem gX7_sign_X7_in : GoodIn wsX7_sign (va_wsS RX7 76 yX7_in wsX7_in) := goodIn_app (goodIn_of _ (by decide +kernel)) ggX7_sign_X7_in
set_option maxRecDepth 20000 in
theorem ggX7_sign_X7_throwing : GoodIn wsX7_sign wsX7_throwing := goodIn_r _ [10, 11, 12, 13, 14, 15, 16, 17, 18, 19, 20, 21, 22, 23, 24, 25, 26, 27, 28, 29, 30] rfl (by decide +kernel)
set_option maxRecDepth 20000 in
theorem gX7_sign_X7_throwing : GoodIn wsX7_sign (wsV RX7 80 RX7 yX7_throwing wsX7_throwing) := goodIn_app (goodIn_of _ (by decide +kernel)) ggX7_sign_X7_throwing
set_option maxRecDepth 20000 in
theorem zdX7_sign_0 : dAll cX7_sign [(0, .iload_n 3, 1), (1, .iconst 1, 1), (2, .bipush 8, 2), (4, .invokestatic 76, 3), (7, .ifCond .ne 7, 3), (10, .iconst 1, 1), (11, .goto 4, 3), (14, .iconst 0, 1), (15, .istore 4, 2), (17, .aload_n 0, 1), (18, .iload 4, 2), (20, .iload 4, 2), (22, .ifCond .ne 19, 3), (25, .aload_n 0, 1), (26, .getfield 120, 3), (29, .iload_n 3, 1), (30, .iadd, 1), (31, .sipush 600, 3), (34, .if_icmp .le 7, 3), (37, .iconst 1, 1), (38, .goto 4, 3), (41, .iconst 0, 1), (42, .invokevirtual 80, 3), (45, .ifCond .eq 5, 3), (48, .iconst 0, 1), (49, .ireturn, 1), (50, .iload_n 3, 1), (51, .iconst 1, 1), (52, .isub, 1), (53, .istore 5, 2)] := dAll_of (by decide +kernel)
theorem dX7_sign_0 : decode cX7_sign 0 = .ok (.iload_n 3, 1) := zdX7_sign_0.1
theorem dX7_sign_1 : decode cX7_sign 1 = .ok (.iconst 1, 1) := zdX7_sign_0.2.1
theorem dX7_sign_2 : decode cX7_sign 2 = .ok (.bipush 8, 2) := zdX7_sign_0.2.2.1
theorem dX7_sign_4 : decode cX7_sign 4 = .ok (.invokestatic 76, 3) := zdX7_sign_0.2.2.2.1
theorem dX7_sign_7 : decode cX7_sign 7 = .ok (.ifCond .ne 7, 3) := zdX7_sign_0.2.2.2.2.1
theorem dX7_sign_10 : decode cX7_sign 10 = .ok (.iconst 1, 1) := zdX7_sign_0.2.2.2.2.2.1
theorem dX7_sign_11 : decode cX7_sign 11 = .ok (.goto 4, 3) := zdX7_sign_0.2.2.2.2.2.2.1
theorem dX7_sign_14 : decode cX7_sign 14 = .ok (.iconst 0, 1) := zdX7_sign_0.2.2.2.2.2.2.2.1
theorem dX7_sign_15 : decode cX7_sign 15 = .ok (.istore 4, 2) := zdX7_sign_0.2.2.2.2.2.2.2.2.1
theorem dX7_sign_17 : decode cX7_sign 17 = .ok (.aload_n 0, 1) := zdX7_sign_0.2.2.2.2.2.2.2.2.2.1
theorem dX7_sign_18 : decode cX7_sign 18 = .ok (.iload 4, 2) := zdX7_sign_0.2.2.2.2.2.2.2.2.2.2.1
theorem dX7_sign_20 : decode cX7_sign 20 = .ok (.iload 4, 2) := zdX7_sign_0.2.2.2.2.2.2.2.2.2.2.2.1
theorem dX7_sign_22 : decode cX7_sign 22 = .ok (.ifCond .ne 19, 3) := zdX7_sign_0.2.2.2.2.2.2.2.2.2.2.2.2.1
theorem dX7_sign_25 : decode cX7_sign 25 = .ok (.aload_n 0, 1) := zdX7_sign_0.2.2.2.2.2.2.2.2.2.2.2.2.2.1
theorem dX7_sign_26 : decode cX7_sign 26 = .ok (.getfield 120, 3) := zdX7_sign_0.2.2.2.2.2.2.2.2.2.2.2.2.2.2.1
theorem dX7_sign_29 : decode cX7_sign 29 = .ok (.iload_n 3, 1) := zdX7_sign_0.2.2.2.2.2.2.2.2.2.2.2.2.2.2.2.1
theorem dX7_sign_30 : decode cX7_sign 30 = .ok (.iadd, 1) := zdX7_sign_0.2.2.2.2.2.2.2.2.2.2.2.2.2.2.2.2.1
theorem dX7_sign_31 : decode cX7_sign 31 = .ok (.sipush 600, 3) := zdX7_sign_0.2.2.2.2.2.2.2.2.2.2.2.2.2.2.2.2.2.1
theorem dX7_sign_34 : decode cX7_sign 34 = .ok (.if_icmp .le 7, 3) := zdX7_sign_0.2.2.2.2.2.2.2.2.2.2.2.2.2.2.2.2.2.2.1
theorem dX7_sign_37 : decode cX7_sign 37 = .ok (.iconst 1, 1) := zdX7_sign_0.2.2.2.2.2.2.2.2.2.2.2.2.2.2.2.2.2.2.2.1
theorem dX7_sign_38 : decode cX7_sign 38 = .ok (.goto 4, 3) := zdX7_sign_0.2.2.2.2.2.2.2.2.2.2.2.2.2.2.2.2.2.2.2.2.1
theorem dX7_sign_41 : decode cX7_sign 41 = .ok (.iconst 0, 1) := zdX7_sign_0.2.2.2.2.2.2.2.2.2.2.2.2.2.2.2.2.2.2.2.2.2.1
theorem dX7_sign_42 : decode cX7_sign 42 = .ok (.invokevirtual 80, 3) := zdX7_sign_0.2.2.2.2.2.2.2.2.2.2.2.2.2.2.2.2.2.2.2.2.2.2.1
theorem dX7_sign_45 : decode cX7_sign 45 = .ok (.ifCond .eq 5, 3) := zdX7_sign_0.2.2.2.2.2.2.2.2.2.2.2.2.2.2.2.2.2.2.2.2.2.2.2.1
theorem dX7_sign_48 : decode cX7_sign 48 = .ok (.iconst 0, 1) := zdX7_sign_0.2.2.2.2.2.2.2.2.2.2.2.2.2.2.2.2.2.2.2.2.2.2.2.2.1
theorem dX7_sign_49 : decode cX7_sign 49 = .ok (.ireturn, 1) := zdX7_sign_0.2.2.2.2.2.2.2.2.2.2.2.2.2.2.2.2.2.2.2.2.2.2.2.2.2.1
theorem dX7_sign_50 : decode cX7_sign 50 = .ok (.iload_n 3, 1) := zdX7_sign_0.2.2.2.2.2.2.2.2.2.2.2.2.2.2.2.2.2.2.2.2.2.2.2.2.2.2.1
theorem dX7_sign_51 : decode cX7_sign 51 = .ok (.iconst 1, 1) := zdX7_sign_0.2.2.2.2.2.2.2.2.2.2.2.2.2.2.2.2.2.2.2.2.2.2.2.2.2.2.2.1
theorem dX7_sign_52 : decode cX7_sign 52 = .ok (.isub, 1) := zdX7_sign_0.2.2.2.2.2.2.2.2.2.2.2.2.2.2.2.2.2.2.2.2.2.2.2.2.2.2.2.2.1
theorem dX7_sign_53 : decode cX7_sign 53 = .ok (.istore 5, 2) := zdX7_sign_0.2.2.2.2.2.2.2.2.2.2.2.2.2.2.2.2.2.2.2.2.2.2.2.2.2.2.2.2.2.1
set_option maxRecDepth 20000 in
theorem zdX7_sign_55 : dAll cX7_sign [(55, .iload 5, 2), (57, .ifCond .lt 40, 3), (60, .aload_n 0, 1), (61, .getfield 35, 3), (64, .aload_n 0, 1), (65, .getfield 120, 3), (68, .lload_n 1, 1), (69, .bipush 8, 2), (71, .iload 5, 2), (73, .imul, 1), (74, .lshr, 1), (75, .l2i, 1), (76, .sipush 255, 3), (79, .iand, 1), (80, .iastore, 1), (81, .aload_n 0, 1), (82, .dup, 1), (83, .getfield 120, 3), (86, .iconst 1, 1), (87, .iadd, 1), (88, .putfield 120, 3), (91, .iinc 5 (-1), 3), (94, .goto (-39), 3), (97, .aload_n 0, 1), (98, .getfield 120, 3), (101, .ireturn, 1)] := dAll_of (by decide +kernel)
theorem dX7_sign_55 : decode cX7_sign 55 = .ok (.iload 5, 2) := zdX7_sign_55.1
theorem dX7_sign_57 : decode cX7_sign 57 = .ok (.ifCond .lt 40, 3) := zdX7_sign_55.2.1
theorem dX7_sign_60 : decode cX7_sign 60 = .ok (.aload_n 0, 1) := zdX7_sign_55.2.2.1
theorem dX7_sign_61 : decode cX7_sign 61 = .ok (.getfield 35, 3) := zdX7_sign_55.2.2.2.1
theorem dX7_sign_64 : decode cX7_sign 64 = .ok (.aload_n 0, 1) := zdX7_sign_55.2.2.2.2.1
theorem dX7_sign_65 : decode cX7_sign 65 = .ok (.getfield 120, 3) := zdX7_sign_55.2.2.2.2.2.1
theorem dX7_sign_68 : decode cX7_sign 68 = .ok (.lload_n 1, 1) := zdX7_sign_55.2.2.2.2.2.2.1
theorem dX7_sign_69 : decode cX7_sign 69 = .ok (.bipush 8, 2) := zdX7_sign_55.2.2.2.2.2.2.2.1
theorem dX7_sign_71 : decode cX7_sign 71 = .ok (.iload 5, 2) := zdX7_sign_55.2.2.2.2.2.2.2.2.1
theorem dX7_sign_73 : decode cX7_sign 73 = .ok (.imul, 1) := zdX7_sign_55.2.2.2.2.2.2.2.2.2.1
theorem dX7_sign_74 : decode cX7_sign 74 = .ok (.lshr, 1) := zdX7_sign_55.2.2.2.2.2.2.2.2.2.2.1
theorem dX7_sign_75 : decode cX7_sign 75 = .ok (.l2i, 1) := zdX7_sign_55.2.2.2.2.2.2.2.2.2.2.2.1
theorem dX7_sign_76 : decode cX7_sign 76 = .ok (.sipush 255, 3) := zdX7_sign_55.2.2.2.2.2.2.2.2.2.2.2.2.1
theorem dX7_sign_79 : decode cX7_sign 79 = .ok (.iand, 1) := zdX7_sign_55.2.2.2.2.2.2.2.2.2.2.2.2.2.1
theorem dX7_sign_80 : decode cX7_sign 80 = .ok (.iastore, 1) := zdX7_sign_55.2.2.2.2.2.2.2.2.2.2.2.2.2.2.1
theorem dX7_sign_81 : decode cX7_sign 81 = .ok (.aload_n 0, 1) := zdX7_sign_55.2.2.2.2.2.2.2.2.2.2.2.2.2.2.2.1
theorem dX7_sign_82 : decode cX7_sign 82 = .ok (.dup, 1) := zdX7_sign_55.2.2.2.2.2.2.2.2.2.2.2.2.2.2.2.2.1
theorem dX7_sign_83 : decode cX7_sign 83 = .ok (.getfield 120, 3) := zdX7_sign_55.2.2.2.2.2.2.2.2.2.2.2.2.2.2.2.2.2.1
theorem dX7_sign_86 : decode cX7_sign 86 = .ok (.iconst 1, 1) := zdX7_sign_55.2.2.2.2.2.2.2.2.2.2.2.2.2.2.2.2.2.2.1
theorem dX7_sign_87 : decode cX7_sign 87 = .ok (.iadd, 1) := zdX7_sign_55.2.2.2.2.2.2.2.2.2.2.2.2.2.2.2.2.2.2.2.1
theorem dX7_sign_88 : decode cX7_sign 88 = .ok (.putfield 120, 3) := zdX7_sign_55.2.2.2.2.2.2.2.2.2.2.2.2.2.2.2.2.2.2.2.2.1
theorem dX7_sign_91 : decode cX7_sign 91 = .ok (.iinc 5 (-1), 3) := zdX7_sign_55.2.2.2.2.2.2.2.2.2.2.2.2.2.2.2.2.2.2.2.2.2.1
theorem dX7_sign_94 : decode cX7_sign 94 = .ok (.goto (-39), 3) := zdX7_sign_55.2.2.2.2.2.2.2.2.2.2.2.2.2.2.2.2.2.2.2.2.2.2.1
theorem dX7_sign_97 : decode cX7_sign 97 = .ok (.aload_n 0, 1) := zdX7_sign_55.2.2.2.2.2.2.2.2.2.2.2.2.2.2.2.2.2.2.2.2.2.2.2.1
theorem dX7_sign_98 : decode cX7_sign 98 = .ok (.getfield 120, 3) := zdX7_sign_55.2.2.2.2.2.2.2.2.2.2.2.2.2.2.2.2.2.2.2.2.2.2.2.2.1
theorem dX7_sign_101 : decode cX7_sign 101 = .ok (.ireturn, 1) := zdX7_sign_55.2.2.2.2.2.2.2.2.2.2.2.2.2.2.2.2.2.2.2.2.2.2.2.2.2.1
set_option maxRecDepth 20000 in
theorem zdX7_fail_0 : dAll cX7_fail [(0, .aload_n 0, 1), (1, .getfield 123, 3), (4, .ifCond .ge 8, 3), (7, .aload_n 0, 1), (8, .iload_n 1, 1), (9, .putfield 123, 3), (12, .return_, 1)] := dAll_of (by decide +kernel)
theorem dX7_fail_0 : decode cX7_fail 0 = .ok (.aload_n 0, 1) := zdX7_fail_0.1
theorem dX7_fail_1 : decode cX7_fail 1 = .ok (.getfield 123, 3) := zdX7_fail_0.2.1
theorem dX7_fail_4 : decode cX7_fail 4 = .ok (.ifCond .ge 8, 3) := zdX7_fail_0.2.2.1
theorem dX7_fail_7 : decode cX7_fail 7 = .ok (.aload_n 0, 1) := zdX7_fail_0.2.2.2.1
theorem dX7_fail_8 : decode cX7_fail 8 = .ok (.iload_n 1, 1) := zdX7_fail_0.2.2.2.2.1
theorem dX7_fail_9 : decode cX7_fail 9 = .ok (.putfield 123, 3) := zdX7_fail_0.2.2.2.2.2.1
theorem dX7_fail_12 : decode cX7_fail 12 = .ok (.return_, 1) := zdX7_fail_0.2.2.2.2.2.2.1
set_option maxRecDepth 20000 in
theorem zdX7_see_0 : dAll cX7_see [(0, .aload_n 0, 1), (1, .getfield 126, 3), (4, .aload_n 0, 1), (5, .getfield 129, 3), (8, .if_icmp .ge 15, 3), (11, .aload_n 0, 1), (12, .getfield 35, 3), (15, .aload_n 0, 1), (16, .getfield 126, 3), (19, .iaload, 1), (20, .goto 4, 3), (23, .iconst (-1), 1), (24, .ireturn, 1)] := dAll_of (by decide +kernel)
theorem dX7_see_0 : decode cX7_see 0 = .ok (.aload_n 0, 1) := zdX7_see_0.1
theorem dX7_see_1 : decode cX7_see 1 = .ok (.getfield 126, 3) := zdX7_see_0.2.1
theorem dX7_see_4 : decode cX7_see 4 = .ok (.aload_n 0, 1) := zdX7_see_0.2.2.1
theorem dX7_see_5 : decode cX7_see 5 = .ok (.getfield 129, 3) := zdX7_see_0.2.2.2.1
theorem dX7_see_8 : decode cX7_see 8 = .ok (.if_icmp .ge 15, 3) := zdX7_see_0.2.2.2.2.1
theorem dX7_see_11 : decode cX7_see 11 = .ok (.aload_n 0, 1) := zdX7_see_0.2.2.2.2.2.1
theorem dX7_see_12 : decode cX7_see 12 = .ok (.getfield 35, 3) := zdX7_see_0.2.2.2.2.2.2.1
theorem dX7_see_15 : decode cX7_see 15 = .ok (.aload_n 0, 1) := zdX7_see_0.2.2.2.2.2.2.2.1
theorem dX7_see_16 : decode cX7_see 16 = .ok (.getfield 126, 3) := zdX7_see_0.2.2.2.2.2.2.2.2.1
theorem dX7_see_19 : decode cX7_see 19 = .ok (.iaload, 1) := zdX7_see_0.2.2.2.2.2.2.2.2.2.1
theorem dX7_see_20 : decode cX7_see 20 = .ok (.goto 4, 3) := zdX7_see_0.2.2.2.2.2.2.2.2.2.2.1
theorem dX7_see_23 : decode cX7_see 23 = .ok (.iconst (-1), 1) := zdX7_see_0.2.2.2.2.2.2.2.2.2.2.2.1
theorem dX7_see_24 : decode cX7_see 24 = .ok (.ireturn, 1) := zdX7_see_0.2.2.2.2.2.2.2.2.2.2.2.2.1
set_option maxRecDepth 20000 in
theorem ggX7_expect_X7_see : GoodIn wsX7_expect wsX7_see := goodIn_r _ [6, 1, 7, 8, 14, 15, 16, 17, 18, 19, 20, 21, 22, 23, 24, 25, 26, 27, 28, 29, 30, 31, 32] rfl (by decide +kernel)
set_option maxRecDepth 20000 in
theorem gX7_expect_X7_see : GoodIn wsX7_expect (wsV RX7 132 RX7 yX7_see wsX7_see) := goodIn_app (goodIn_of _ (by decide +kernel)) ggX7_expect_X7_see
set_option maxRecDepth 20000 in
theorem ggX7_expect_X7_fail : GoodIn wsX7_expect wsX7_fail := goodIn_r _ [12, 13, 14, 15, 16, 17, 18, 19, 20, 21, 22, 23, 24, 25, 26, 27, 28, 29, 30, 31, 32] rfl (by decide +kernel)
set_option maxRecDepth 20000 in
theorem gX7_expect_X7_fail : GoodIn wsX7_expect (wsV RX7 135 RX7 yX7_fail wsX7_fail) := goodIn_app (goodIn_of _ (by decide +kernel)) ggX7_expect_X7_fail
set_option maxRecDepth 20000 in
theorem zdX7_expect_0 : dAll cX7_expect [(0, .aload_n 0, 1), (1, .invokevirtual 132, 3), (4, .iload_n 1, 1), (5, .if_icmp .eq 11, 3), (8, .aload_n 0, 1), (9, .aload_n 0, 1), (10, .getfield 126, 3), (13, .invokevirtual 135, 3), (16, .aload_n 0, 1), (17, .dup, 1), (18, .getfield 126, 3), (21, .iconst 1, 1), (22, .iadd, 1), (23, .putfield 126, 3)] := dAll_of (by decide +kernel)
theorem dX7_expect_0 : decode cX7_expect 0 = .ok (.aload_n 0, 1) := zdX7_expect_0.1
theorem dX7_expect_1 : decode cX7_expect 1 = .ok (.invokevirtual 132, 3) := zdX7_expect_0.2.1
theorem dX7_expect_4 : decode cX7_expect 4 = .ok (.iload_n 1, 1) := zdX7_expect_0.2.2.1
theorem dX7_expect_5 : decode cX7_expect 5 = .ok (.if_icmp .eq 11, 3) := zdX7_expect_0.2.2.2.1
theorem dX7_expect_8 : decode cX7_expect 8 = .ok (.aload_n 0, 1) := zdX7_expect_0.2.2.2.2.1
theorem dX7_expect_9 : decode cX7_expect 9 = .ok (.aload_n 0, 1) := zdX7_expect_0.2.2.2.2.2.1
theorem dX7_expect_10 : decode cX7_expect 10 = .ok (.getfield 126, 3) := zdX7_expect_0.2.2.2.2.2.2.1
theorem dX7_expect_13 : decode cX7_expect 13 = .ok (.invokevirtual 135, 3) := zdX7_expect_0.2.2.2.2.2.2.2.1
theorem dX7_expect_16 : decode cX7_expect 16 = .ok (.aload_n 0, 1) := zdX7_expect_0.2.2.2.2.2.2.2.2.1
theorem dX7_expect_17 : decode cX7_expect 17 = .ok (.dup, 1) := zdX7_expect_0.2.2.2.2.2.2.2.2.2.1
theorem dX7_expect_18 : decode cX7_expect 18 = .ok (.getfield 126, 3) := zdX7_expect_0.2.2.2.2.2.2.2.2.2.2.1
theorem dX7_expect_21 : decode cX7_expect 21 = .ok (.iconst 1, 1) := zdX7_expect_0.2.2.2.2.2.2.2.2.2.2.2.1
theorem dX7_expect_22 : decode cX7_expect 22 = .ok (.iadd, 1) := zdX7_expect_0.2.2.2.2.2.2.2.2.2.2.2.2.1
theorem dX7_expect_23 : decode cX7_expect 23 = .ok (.putfield 126, 3) := zdX7_expect_0.2.2.2.2.2.2.2.2.2.2.2.2.2.1
