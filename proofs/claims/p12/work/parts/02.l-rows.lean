theorem dX7_expect_26 : decode cX7_expect 26 = .ok (.return_, 1) := by decide +kernel
set_option maxRecDepth 20000 in
theorem ggX7_read_X7_see : GoodIn wsX7_read wsX7_see := goodIn_r _ [7, 2, 8, 9, 17, 18, 19, 20, 21, 22, 23, 24, 25, 26, 27, 28, 29, 30, 31, 32, 33, 34, 35] rfl (by decide +kernel)
set_option maxRecDepth 20000 in
theorem gX7_read_X7_see : GoodIn wsX7_read (wsV RX7 132 RX7 yX7_see wsX7_see) := goodIn_app (goodIn_of _ (by decide +kernel)) ggX7_read_X7_see
set_option maxRecDepth 20000 in
theorem ggX7_read_X7_in : GoodIn wsX7_read wsX7_in := goodIn_r _ [12] rfl (by decide +kernel)
set_option maxRecDepth 20000 in
theorem gX7_read_X7_in : GoodIn wsX7_read (va_wsS RX7 76 yX7_in wsX7_in) := goodIn_app (goodIn_of _ (by decide +kernel)) ggX7_read_X7_in
set_option maxRecDepth 20000 in
theorem ggX7_read_X7_fail : GoodIn wsX7_read wsX7_fail := goodIn_r _ [16, 1, 17, 18, 19, 20, 21, 22, 23, 24, 25, 26, 27, 28, 29, 30, 31, 32, 33, 34, 35] rfl (by decide +kernel)
set_option maxRecDepth 20000 in
theorem gX7_read_X7_fail : GoodIn wsX7_read (wsV RX7 135 RX7 yX7_fail wsX7_fail) := goodIn_app (goodIn_of _ (by decide +kernel)) ggX7_read_X7_fail
set_option maxRecDepth 20000 in
theorem zdX7_read_0 : dAll cX7_read [(0, .aload_n 0, 1), (1, .getfield 123, 3), (4, .ifCond .ge 17, 3), (7, .aload_n 0, 1), (8, .invokevirtual 132, 3), (11, .bipush 48, 2), (13, .bipush 57, 2), (15, .invokestatic 76, 3), (18, .ifCond .ne 13, 3), (21, .aload_n 0, 1), (22, .aload_n 0, 1), (23, .getfield 126, 3), (26, .invokevirtual 135, 3), (29, .iload_n 1, 1), (30, .ireturn, 1), (31, .aload_n 0, 1), (32, .invokevirtual 132, 3), (35, .bipush 48, 2), (37, .isub, 1), (38, .istore_n 3, 1), (39, .aload_n 0, 1), (40, .dup, 1), (41, .getfield 126, 3), (44, .iconst 1, 1), (45, .iadd, 1), (46, .putfield 126, 3), (49, .iload_n 3, 1), (50, .ifCond .ne 17, 3), (53, .iload_n 1, 1), (54, .ifCond .le 13, 3)] := dAll_of (by decide +kernel)
theorem dX7_read_0 : decode cX7_read 0 = .ok (.aload_n 0, 1) := zdX7_read_0.1
theorem dX7_read_1 : decode cX7_read 1 = .ok (.getfield 123, 3) := zdX7_read_0.2.1
theorem dX7_read_4 : decode cX7_read 4 = .ok (.ifCond .ge 17, 3) := zdX7_read_0.2.2.1
theorem dX7_read_7 : decode cX7_read 7 = .ok (.aload_n 0, 1) := zdX7_read_0.2.2.2.1
theorem dX7_read_8 : decode cX7_read 8 = .ok (.invokevirtual 132, 3) := zdX7_read_0.2.2.2.2.1
theorem dX7_read_11 : decode cX7_read 11 = .ok (.bipush 48, 2) := zdX7_read_0.2.2.2.2.2.1
theorem dX7_read_13 : decode cX7_read 13 = .ok (.bipush 57, 2) := zdX7_read_0.2.2.2.2.2.2.1
theorem dX7_read_15 : decode cX7_read 15 = .ok (.invokestatic 76, 3) := zdX7_read_0.2.2.2.2.2.2.2.1
theorem dX7_read_18 : decode cX7_read 18 = .ok (.ifCond .ne 13, 3) := zdX7_read_0.2.2.2.2.2.2.2.2.1
theorem dX7_read_21 : decode cX7_read 21 = .ok (.aload_n 0, 1) := zdX7_read_0.2.2.2.2.2.2.2.2.2.1
theorem dX7_read_22 : decode cX7_read 22 = .ok (.aload_n 0, 1) := zdX7_read_0.2.2.2.2.2.2.2.2.2.2.1
theorem dX7_read_23 : decode cX7_read 23 = .ok (.getfield 126, 3) := zdX7_read_0.2.2.2.2.2.2.2.2.2.2.2.1
theorem dX7_read_26 : decode cX7_read 26 = .ok (.invokevirtual 135, 3) := zdX7_read_0.2.2.2.2.2.2.2.2.2.2.2.2.1
theorem dX7_read_29 : decode cX7_read 29 = .ok (.iload_n 1, 1) := zdX7_read_0.2.2.2.2.2.2.2.2.2.2.2.2.2.1
theorem dX7_read_30 : decode cX7_read 30 = .ok (.ireturn, 1) := zdX7_read_0.2.2.2.2.2.2.2.2.2.2.2.2.2.2.1
theorem dX7_read_31 : decode cX7_read 31 = .ok (.aload_n 0, 1) := zdX7_read_0.2.2.2.2.2.2.2.2.2.2.2.2.2.2.2.1
theorem dX7_read_32 : decode cX7_read 32 = .ok (.invokevirtual 132, 3) := zdX7_read_0.2.2.2.2.2.2.2.2.2.2.2.2.2.2.2.2.1
theorem dX7_read_35 : decode cX7_read 35 = .ok (.bipush 48, 2) := zdX7_read_0.2.2.2.2.2.2.2.2.2.2.2.2.2.2.2.2.2.1
theorem dX7_read_37 : decode cX7_read 37 = .ok (.isub, 1) := zdX7_read_0.2.2.2.2.2.2.2.2.2.2.2.2.2.2.2.2.2.2.1
theorem dX7_read_38 : decode cX7_read 38 = .ok (.istore_n 3, 1) := zdX7_read_0.2.2.2.2.2.2.2.2.2.2.2.2.2.2.2.2.2.2.2.1
theorem dX7_read_39 : decode cX7_read 39 = .ok (.aload_n 0, 1) := zdX7_read_0.2.2.2.2.2.2.2.2.2.2.2.2.2.2.2.2.2.2.2.2.1
theorem dX7_read_40 : decode cX7_read 40 = .ok (.dup, 1) := zdX7_read_0.2.2.2.2.2.2.2.2.2.2.2.2.2.2.2.2.2.2.2.2.2.1
theorem dX7_read_41 : decode cX7_read 41 = .ok (.getfield 126, 3) := zdX7_read_0.2.2.2.2.2.2.2.2.2.2.2.2.2.2.2.2.2.2.2.2.2.2.1
theorem dX7_read_44 : decode cX7_read 44 = .ok (.iconst 1, 1) := zdX7_read_0.2.2.2.2.2.2.2.2.2.2.2.2.2.2.2.2.2.2.2.2.2.2.2.1
theorem dX7_read_45 : decode cX7_read 45 = .ok (.iadd, 1) := zdX7_read_0.2.2.2.2.2.2.2.2.2.2.2.2.2.2.2.2.2.2.2.2.2.2.2.2.1
theorem dX7_read_46 : decode cX7_read 46 = .ok (.putfield 126, 3) := zdX7_read_0.2.2.2.2.2.2.2.2.2.2.2.2.2.2.2.2.2.2.2.2.2.2.2.2.2.1
theorem dX7_read_49 : decode cX7_read 49 = .ok (.iload_n 3, 1) := zdX7_read_0.2.2.2.2.2.2.2.2.2.2.2.2.2.2.2.2.2.2.2.2.2.2.2.2.2.2.1
theorem dX7_read_50 : decode cX7_read 50 = .ok (.ifCond .ne 17, 3) := zdX7_read_0.2.2.2.2.2.2.2.2.2.2.2.2.2.2.2.2.2.2.2.2.2.2.2.2.2.2.2.1
theorem dX7_read_53 : decode cX7_read 53 = .ok (.iload_n 1, 1) := zdX7_read_0.2.2.2.2.2.2.2.2.2.2.2.2.2.2.2.2.2.2.2.2.2.2.2.2.2.2.2.2.1
theorem dX7_read_54 : decode cX7_read 54 = .ok (.ifCond .le 13, 3) := zdX7_read_0.2.2.2.2.2.2.2.2.2.2.2.2.2.2.2.2.2.2.2.2.2.2.2.2.2.2.2.2.2.1
set_option maxRecDepth 20000 in
theorem zdX7_read_57 : dAll cX7_read [(57, .aload_n 0, 1), (58, .aload_n 0, 1), (59, .getfield 126, 3), (62, .iconst 1, 1), (63, .isub, 1), (64, .invokevirtual 135, 3), (67, .iconst 0, 1), (68, .istore 4, 2), (70, .iload 4, 2), (72, .iconst 3, 1), (73, .if_icmp .ge 50, 3), (76, .iload_n 3, 1), (77, .ifCond .le 46, 3), (80, .aload_n 0, 1), (81, .invokevirtual 132, 3), (84, .bipush 48, 2), (86, .bipush 57, 2), (88, .invokestatic 76, 3), (91, .ifCond .eq 32, 3), (94, .bipush 10, 2), (96, .iload_n 3, 1), (97, .imul, 1), (98, .aload_n 0, 1), (99, .invokevirtual 132, 3), (102, .iadd, 1), (103, .bipush 48, 2), (105, .isub, 1), (106, .istore_n 3, 1), (107, .aload_n 0, 1), (108, .dup, 1)] := dAll_of (by decide +kernel)
theorem dX7_read_57 : decode cX7_read 57 = .ok (.aload_n 0, 1) := zdX7_read_57.1
theorem dX7_read_58 : decode cX7_read 58 = .ok (.aload_n 0, 1) := zdX7_read_57.2.1
theorem dX7_read_59 : decode cX7_read 59 = .ok (.getfield 126, 3) := zdX7_read_57.2.2.1
theorem dX7_read_62 : decode cX7_read 62 = .ok (.iconst 1, 1) := zdX7_read_57.2.2.2.1
theorem dX7_read_63 : decode cX7_read 63 = .ok (.isub, 1) := zdX7_read_57.2.2.2.2.1
theorem dX7_read_64 : decode cX7_read 64 = .ok (.invokevirtual 135, 3) := zdX7_read_57.2.2.2.2.2.1
theorem dX7_read_67 : decode cX7_read 67 = .ok (.iconst 0, 1) := zdX7_read_57.2.2.2.2.2.2.1
theorem dX7_read_68 : decode cX7_read 68 = .ok (.istore 4, 2) := zdX7_read_57.2.2.2.2.2.2.2.1
theorem dX7_read_70 : decode cX7_read 70 = .ok (.iload 4, 2) := zdX7_read_57.2.2.2.2.2.2.2.2.1
theorem dX7_read_72 : decode cX7_read 72 = .ok (.iconst 3, 1) := zdX7_read_57.2.2.2.2.2.2.2.2.2.1
theorem dX7_read_73 : decode cX7_read 73 = .ok (.if_icmp .ge 50, 3) := zdX7_read_57.2.2.2.2.2.2.2.2.2.2.1
theorem dX7_read_76 : decode cX7_read 76 = .ok (.iload_n 3, 1) := zdX7_read_57.2.2.2.2.2.2.2.2.2.2.2.1
theorem dX7_read_77 : decode cX7_read 77 = .ok (.ifCond .le 46, 3) := zdX7_read_57.2.2.2.2.2.2.2.2.2.2.2.2.1
theorem dX7_read_80 : decode cX7_read 80 = .ok (.aload_n 0, 1) := zdX7_read_57.2.2.2.2.2.2.2.2.2.2.2.2.2.1
theorem dX7_read_81 : decode cX7_read 81 = .ok (.invokevirtual 132, 3) := zdX7_read_57.2.2.2.2.2.2.2.2.2.2.2.2.2.2.1
theorem dX7_read_84 : decode cX7_read 84 = .ok (.bipush 48, 2) := zdX7_read_57.2.2.2.2.2.2.2.2.2.2.2.2.2.2.2.1
theorem dX7_read_86 : decode cX7_read 86 = .ok (.bipush 57, 2) := zdX7_read_57.2.2.2.2.2.2.2.2.2.2.2.2.2.2.2.2.1
theorem dX7_read_88 : decode cX7_read 88 = .ok (.invokestatic 76, 3) := zdX7_read_57.2.2.2.2.2.2.2.2.2.2.2.2.2.2.2.2.2.1
theorem dX7_read_91 : decode cX7_read 91 = .ok (.ifCond .eq 32, 3) := zdX7_read_57.2.2.2.2.2.2.2.2.2.2.2.2.2.2.2.2.2.2.1
theorem dX7_read_94 : decode cX7_read 94 = .ok (.bipush 10, 2) := zdX7_read_57.2.2.2.2.2.2.2.2.2.2.2.2.2.2.2.2.2.2.2.1
theorem dX7_read_96 : decode cX7_read 96 = .ok (.iload_n 3, 1) := zdX7_read_57.2.2.2.2.2.2.2.2.2.2.2.2.2.2.2.2.2.2.2.2.1
theorem dX7_read_97 : decode cX7_read 97 = .ok (.imul, 1) := zdX7_read_57.2.2.2.2.2.2.2.2.2.2.2.2.2.2.2.2.2.2.2.2.2.1
theorem dX7_read_98 : decode cX7_read 98 = .ok (.aload_n 0, 1) := zdX7_read_57.2.2.2.2.2.2.2.2.2.2.2.2.2.2.2.2.2.2.2.2.2.2.1
theorem dX7_read_99 : decode cX7_read 99 = .ok (.invokevirtual 132, 3) := zdX7_read_57.2.2.2.2.2.2.2.2.2.2.2.2.2.2.2.2.2.2.2.2.2.2.2.1
theorem dX7_read_102 : decode cX7_read 102 = .ok (.iadd, 1) := zdX7_read_57.2.2.2.2.2.2.2.2.2.2.2.2.2.2.2.2.2.2.2.2.2.2.2.2.1
theorem dX7_read_103 : decode cX7_read 103 = .ok (.bipush 48, 2) := zdX7_read_57.2.2.2.2.2.2.2.2.2.2.2.2.2.2.2.2.2.2.2.2.2.2.2.2.2.1
theorem dX7_read_105 : decode cX7_read 105 = .ok (.isub, 1) := zdX7_read_57.2.2.2.2.2.2.2.2.2.2.2.2.2.2.2.2.2.2.2.2.2.2.2.2.2.2.1
theorem dX7_read_106 : decode cX7_read 106 = .ok (.istore_n 3, 1) := zdX7_read_57.2.2.2.2.2.2.2.2.2.2.2.2.2.2.2.2.2.2.2.2.2.2.2.2.2.2.2.1
theorem dX7_read_107 : decode cX7_read 107 = .ok (.aload_n 0, 1) := zdX7_read_57.2.2.2.2.2.2.2.2.2.2.2.2.2.2.2.2.2.2.2.2.2.2.2.2.2.2.2.2.1
theorem dX7_read_108 : decode cX7_read 108 = .ok (.dup, 1) := zdX7_read_57.2.2.2.2.2.2.2.2.2.2.2.2.2.2.2.2.2.2.2.2.2.2.2.2.2.2.2.2.2.1
set_option maxRecDepth 20000 in
theorem zdX7_read_109 : dAll cX7_read [(109, .getfield 126, 3), (112, .iconst 1, 1), (113, .iadd, 1), (114, .putfield 126, 3), (117, .iinc 4 1, 3), (120, .goto (-50), 3), (123, .iload_n 3, 1), (124, .iload_n 1, 1), (125, .iload_n 2, 1), (126, .invokestatic 76, 3), (129, .ifCond .ne 13, 3), (132, .aload_n 0, 1), (133, .aload_n 0, 1), (134, .getfield 126, 3), (137, .iconst 1, 1), (138, .isub, 1), (139, .invokevirtual 135, 3), (142, .aload_n 0, 1), (143, .invokevirtual 132, 3), (146, .bipush 48, 2), (148, .bipush 57, 2), (150, .invokestatic 76, 3), (153, .ifCond .eq 11, 3), (156, .aload_n 0, 1), (157, .aload_n 0, 1), (158, .getfield 126, 3), (161, .invokevirtual 135, 3), (164, .iload_n 3, 1), (165, .ireturn, 1)] := dAll_of (by decide +kernel)
theorem dX7_read_109 : decode cX7_read 109 = .ok (.getfield 126, 3) := zdX7_read_109.1
theorem dX7_read_112 : decode cX7_read 112 = .ok (.iconst 1, 1) := zdX7_read_109.2.1
theorem dX7_read_113 : decode cX7_read 113 = .ok (.iadd, 1) := zdX7_read_109.2.2.1
theorem dX7_read_114 : decode cX7_read 114 = .ok (.putfield 126, 3) := zdX7_read_109.2.2.2.1
theorem dX7_read_117 : decode cX7_read 117 = .ok (.iinc 4 1, 3) := zdX7_read_109.2.2.2.2.1
theorem dX7_read_120 : decode cX7_read 120 = .ok (.goto (-50), 3) := zdX7_read_109.2.2.2.2.2.1
theorem dX7_read_123 : decode cX7_read 123 = .ok (.iload_n 3, 1) := zdX7_read_109.2.2.2.2.2.2.1
theorem dX7_read_124 : decode cX7_read 124 = .ok (.iload_n 1, 1) := zdX7_read_109.2.2.2.2.2.2.2.1
theorem dX7_read_125 : decode cX7_read 125 = .ok (.iload_n 2, 1) := zdX7_read_109.2.2.2.2.2.2.2.2.1
theorem dX7_read_126 : decode cX7_read 126 = .ok (.invokestatic 76, 3) := zdX7_read_109.2.2.2.2.2.2.2.2.2.1
theorem dX7_read_129 : decode cX7_read 129 = .ok (.ifCond .ne 13, 3) := zdX7_read_109.2.2.2.2.2.2.2.2.2.2.1
theorem dX7_read_132 : decode cX7_read 132 = .ok (.aload_n 0, 1) := zdX7_read_109.2.2.2.2.2.2.2.2.2.2.2.1
theorem dX7_read_133 : decode cX7_read 133 = .ok (.aload_n 0, 1) := zdX7_read_109.2.2.2.2.2.2.2.2.2.2.2.2.1
theorem dX7_read_134 : decode cX7_read 134 = .ok (.getfield 126, 3) := zdX7_read_109.2.2.2.2.2.2.2.2.2.2.2.2.2.1
theorem dX7_read_137 : decode cX7_read 137 = .ok (.iconst 1, 1) := zdX7_read_109.2.2.2.2.2.2.2.2.2.2.2.2.2.2.1
theorem dX7_read_138 : decode cX7_read 138 = .ok (.isub, 1) := zdX7_read_109.2.2.2.2.2.2.2.2.2.2.2.2.2.2.2.1
theorem dX7_read_139 : decode cX7_read 139 = .ok (.invokevirtual 135, 3) := zdX7_read_109.2.2.2.2.2.2.2.2.2.2.2.2.2.2.2.2.1
theorem dX7_read_142 : decode cX7_read 142 = .ok (.aload_n 0, 1) := zdX7_read_109.2.2.2.2.2.2.2.2.2.2.2.2.2.2.2.2.2.1
theorem dX7_read_143 : decode cX7_read 143 = .ok (.invokevirtual 132, 3) := zdX7_read_109.2.2.2.2.2.2.2.2.2.2.2.2.2.2.2.2.2.2.1
theorem dX7_read_146 : decode cX7_read 146 = .ok (.bipush 48, 2) := zdX7_read_109.2.2.2.2.2.2.2.2.2.2.2.2.2.2.2.2.2.2.2.1
theorem dX7_read_148 : decode cX7_read 148 = .ok (.bipush 57, 2) := zdX7_read_109.2.2.2.2.2.2.2.2.2.2.2.2.2.2.2.2.2.2.2.2.1
theorem dX7_read_150 : decode cX7_read 150 = .ok (.invokestatic 76, 3) := zdX7_read_109.2.2.2.2.2.2.2.2.2.2.2.2.2.2.2.2.2.2.2.2.2.1
theorem dX7_read_153 : decode cX7_read 153 = .ok (.ifCond .eq 11, 3) := zdX7_read_109.2.2.2.2.2.2.2.2.2.2.2.2.2.2.2.2.2.2.2.2.2.2.1
theorem dX7_read_156 : decode cX7_read 156 = .ok (.aload_n 0, 1) := zdX7_read_109.2.2.2.2.2.2.2.2.2.2.2.2.2.2.2.2.2.2.2.2.2.2.2.1
theorem dX7_read_157 : decode cX7_read 157 = .ok (.aload_n 0, 1) := zdX7_read_109.2.2.2.2.2.2.2.2.2.2.2.2.2.2.2.2.2.2.2.2.2.2.2.2.1
theorem dX7_read_158 : decode cX7_read 158 = .ok (.getfield 126, 3) := zdX7_read_109.2.2.2.2.2.2.2.2.2.2.2.2.2.2.2.2.2.2.2.2.2.2.2.2.2.1
theorem dX7_read_161 : decode cX7_read 161 = .ok (.invokevirtual 135, 3) := zdX7_read_109.2.2.2.2.2.2.2.2.2.2.2.2.2.2.2.2.2.2.2.2.2.2.2.2.2.2.1
theorem dX7_read_164 : decode cX7_read 164 = .ok (.iload_n 3, 1) := zdX7_read_109.2.2.2.2.2.2.2.2.2.2.2.2.2.2.2.2.2.2.2.2.2.2.2.2.2.2.2.1
theorem dX7_read_165 : decode cX7_read 165 = .ok (.ireturn, 1) := zdX7_read_109.2.2.2.2.2.2.2.2.2.2.2.2.2.2.2.2.2.2.2.2.2.2.2.2.2.2.2.2.1
set_option maxRecDepth 20000 in
theorem ggX7_readStreet_X7_read : GoodIn wsX7_readStreet wsX7_read := goodIn_r _ [5, 6, 7, 8, 9, 10, 4, 11, 12, 13, 14, 15, 16, 17, 18, 19, 20, 25, 26, 27, 28, 29, 30, 31, 32, 33, 34, 35, 36, 37, 38, 39, 40, 41, 42, 43] rfl (by decide +kernel)
set_option maxRecDepth 20000 in
theorem gX7_readStreet_X7_read : GoodIn wsX7_readStreet (wsV RX7 138 RX7 yX7_read wsX7_read) := goodIn_app (goodIn_of _ (by decide +kernel)) ggX7_readStreet_X7_read
set_option maxRecDepth 20000 in
theorem ggX7_readStreet_X7_expect : GoodIn wsX7_readStreet wsX7_expect := goodIn_r _ [24, 7, 8, 9, 10, 4, 11, 12, 13, 17, 18, 19, 20, 6, 25, 26, 27, 28, 29, 30, 31, 32, 33, 34, 35, 36, 37, 38, 39, 40, 41, 42, 43] rfl (by decide +kernel)
set_option maxRecDepth 20000 in
theorem gX7_readStreet_X7_expect : GoodIn wsX7_readStreet (wsV RX7 142 RX7 yX7_expect wsX7_expect) := goodIn_app (goodIn_of _ (by decide +kernel)) ggX7_readStreet_X7_expect
set_option maxRecDepth 20000 in
theorem zdX7_readStreet_0 : dAll cX7_readStreet [(0, .aload_n 0, 1), (1, .iconst 0, 1), (2, .bipush 20, 2), (4, .invokevirtual 138, 3), (7, .istore_n 1, 1), (8, .aload_n 0, 1), (9, .bipush 45, 2), (11, .invokevirtual 142, 3), (14, .aload_n 0, 1), (15, .iload_n 1, 1), (16, .iconst 1, 1), (17, .iadd, 1), (18, .bipush 20, 2), (20, .invokevirtual 138, 3), (23, .pop, 1), (24, .aload_n 0, 1), (25, .bipush 58, 2), (27, .invokevirtual 142, 3), (30, .aload_n 0, 1), (31, .iconst 1, 1), (32, .bipush 99, 2), (34, .invokevirtual 138, 3), (37, .pop, 1), (38, .return_, 1)] := dAll_of (by decide +kernel)
theorem dX7_readStreet_0 : decode cX7_readStreet 0 = .ok (.aload_n 0, 1) := zdX7_readStreet_0.1
theorem dX7_readStreet_1 : decode cX7_readStreet 1 = .ok (.iconst 0, 1) := zdX7_readStreet_0.2.1
theorem dX7_readStreet_2 : decode cX7_readStreet 2 = .ok (.bipush 20, 2) := zdX7_readStreet_0.2.2.1
theorem dX7_readStreet_4 : decode cX7_readStreet 4 = .ok (.invokevirtual 138, 3) := zdX7_readStreet_0.2.2.2.1
theorem dX7_readStreet_7 : decode cX7_readStreet 7 = .ok (.istore_n 1, 1) := zdX7_readStreet_0.2.2.2.2.1
theorem dX7_readStreet_8 : decode cX7_readStreet 8 = .ok (.aload_n 0, 1) := zdX7_readStreet_0.2.2.2.2.2.1
theorem dX7_readStreet_9 : decode cX7_readStreet 9 = .ok (.bipush 45, 2) := zdX7_readStreet_0.2.2.2.2.2.2.1
theorem dX7_readStreet_11 : decode cX7_readStreet 11 = .ok (.invokevirtual 142, 3) := zdX7_readStreet_0.2.2.2.2.2.2.2.1
theorem dX7_readStreet_14 : decode cX7_readStreet 14 = .ok (.aload_n 0, 1) := zdX7_readStreet_0.2.2.2.2.2.2.2.2.1
theorem dX7_readStreet_15 : decode cX7_readStreet 15 = .ok (.iload_n 1, 1) := zdX7_readStreet_0.2.2.2.2.2.2.2.2.2.1
theorem dX7_readStreet_16 : decode cX7_readStreet 16 = .ok (.iconst 1, 1) := zdX7_readStreet_0.2.2.2.2.2.2.2.2.2.2.1
theorem dX7_readStreet_17 : decode cX7_readStreet 17 = .ok (.iadd, 1) := zdX7_readStreet_0.2.2.2.2.2.2.2.2.2.2.2.1
theorem dX7_readStreet_18 : decode cX7_readStreet 18 = .ok (.bipush 20, 2) := zdX7_readStreet_0.2.2.2.2.2.2.2.2.2.2.2.2.1
theorem dX7_readStreet_20 : decode cX7_readStreet 20 = .ok (.invokevirtual 138, 3) := zdX7_readStreet_0.2.2.2.2.2.2.2.2.2.2.2.2.2.1
theorem dX7_readStreet_23 : decode cX7_readStreet 23 = .ok (.pop, 1) := zdX7_readStreet_0.2.2.2.2.2.2.2.2.2.2.2.2.2.2.1
theorem dX7_readStreet_24 : decode cX7_readStreet 24 = .ok (.aload_n 0, 1) := zdX7_readStreet_0.2.2.2.2.2.2.2.2.2.2.2.2.2.2.2.1
theorem dX7_readStreet_25 : decode cX7_readStreet 25 = .ok (.bipush 58, 2) := zdX7_readStreet_0.2.2.2.2.2.2.2.2.2.2.2.2.2.2.2.2.1
theorem dX7_readStreet_27 : decode cX7_readStreet 27 = .ok (.invokevirtual 142, 3) := zdX7_readStreet_0.2.2.2.2.2.2.2.2.2.2.2.2.2.2.2.2.2.1
theorem dX7_readStreet_30 : decode cX7_readStreet 30 = .ok (.aload_n 0, 1) := zdX7_readStreet_0.2.2.2.2.2.2.2.2.2.2.2.2.2.2.2.2.2.2.1
theorem dX7_readStreet_31 : decode cX7_readStreet 31 = .ok (.iconst 1, 1) := zdX7_readStreet_0.2.2.2.2.2.2.2.2.2.2.2.2.2.2.2.2.2.2.2.1
theorem dX7_readStreet_32 : decode cX7_readStreet 32 = .ok (.bipush 99, 2) := zdX7_readStreet_0.2.2.2.2.2.2.2.2.2.2.2.2.2.2.2.2.2.2.2.2.1
theorem dX7_readStreet_34 : decode cX7_readStreet 34 = .ok (.invokevirtual 138, 3) := zdX7_readStreet_0.2.2.2.2.2.2.2.2.2.2.2.2.2.2.2.2.2.2.2.2.2.1
theorem dX7_readStreet_37 : decode cX7_readStreet 37 = .ok (.pop, 1) := zdX7_readStreet_0.2.2.2.2.2.2.2.2.2.2.2.2.2.2.2.2.2.2.2.2.2.2.1
theorem dX7_readStreet_38 : decode cX7_readStreet 38 = .ok (.return_, 1) := zdX7_readStreet_0.2.2.2.2.2.2.2.2.2.2.2.2.2.2.2.2.2.2.2.2.2.2.2.1
set_option maxRecDepth 20000 in
theorem ggX7_readCall_X7_read : GoodIn wsX7_readCall wsX7_read := goodIn_r _ [5, 6, 7, 8, 9, 10, 4, 11, 12, 13, 14, 15, 16, 17, 18, 19, 20, 25, 26, 27, 28, 29, 30, 31, 32, 33, 34, 35, 36, 37, 38, 39, 40, 41, 42, 43] rfl (by decide +kernel)
set_option maxRecDepth 20000 in
theorem gX7_readCall_X7_read : GoodIn wsX7_readCall (wsV RX7 138 RX7 yX7_read wsX7_read) := goodIn_app (goodIn_of _ (by decide +kernel)) ggX7_readCall_X7_read
set_option maxRecDepth 20000 in
theorem ggX7_readCall_X7_expect : GoodIn wsX7_readCall wsX7_expect := goodIn_r _ [24, 7, 8, 9, 10, 4, 11, 12, 13, 17, 18, 19, 20, 6, 25, 26, 27, 28, 29, 30, 31, 32, 33, 34, 35, 36, 37, 38, 39, 40, 41, 42, 43] rfl (by decide +kernel)
set_option maxRecDepth 20000 in
theorem gX7_readCall_X7_expect : GoodIn wsX7_readCall (wsV RX7 142 RX7 yX7_expect wsX7_expect) := goodIn_app (goodIn_of _ (by decide +kernel)) ggX7_readCall_X7_expect
set_option maxRecDepth 20000 in
theorem zdX7_readCall_0 : dAll cX7_readCall [(0, .aload_n 0, 1), (1, .iconst 0, 1), (2, .bipush 20, 2), (4, .invokevirtual 138, 3), (7, .pop, 1), (8, .aload_n 0, 1), (9, .bipush 58, 2), (11, .invokevirtual 142, 3), (14, .aload_n 0, 1), (15, .iconst 0, 1), (16, .iconst 2, 1), (17, .invokevirtual 138, 3), (20, .pop, 1), (21, .aload_n 0, 1), (22, .bipush 64, 2), (24, .invokevirtual 142, 3), (27, .aload_n 0, 1), (28, .iconst 0, 1), (29, .sipush 1439, 3), (32, .invokevirtual 138, 3), (35, .pop, 1), (36, .return_, 1)] := dAll_of (by decide +kernel)
theorem dX7_readCall_0 : decode cX7_readCall 0 = .ok (.aload_n 0, 1) := zdX7_readCall_0.1
theorem dX7_readCall_1 : decode cX7_readCall 1 = .ok (.iconst 0, 1) := zdX7_readCall_0.2.1
theorem dX7_readCall_2 : decode cX7_readCall 2 = .ok (.bipush 20, 2) := zdX7_readCall_0.2.2.1
theorem dX7_readCall_4 : decode cX7_readCall 4 = .ok (.invokevirtual 138, 3) := zdX7_readCall_0.2.2.2.1
theorem dX7_readCall_7 : decode cX7_readCall 7 = .ok (.pop, 1) := zdX7_readCall_0.2.2.2.2.1
theorem dX7_readCall_8 : decode cX7_readCall 8 = .ok (.aload_n 0, 1) := zdX7_readCall_0.2.2.2.2.2.1
theorem dX7_readCall_9 : decode cX7_readCall 9 = .ok (.bipush 58, 2) := zdX7_readCall_0.2.2.2.2.2.2.1
theorem dX7_readCall_11 : decode cX7_readCall 11 = .ok (.invokevirtual 142, 3) := zdX7_readCall_0.2.2.2.2.2.2.2.1
theorem dX7_readCall_14 : decode cX7_readCall 14 = .ok (.aload_n 0, 1) := zdX7_readCall_0.2.2.2.2.2.2.2.2.1
theorem dX7_readCall_15 : decode cX7_readCall 15 = .ok (.iconst 0, 1) := zdX7_readCall_0.2.2.2.2.2.2.2.2.2.1
theorem dX7_readCall_16 : decode cX7_readCall 16 = .ok (.iconst 2, 1) := zdX7_readCall_0.2.2.2.2.2.2.2.2.2.2.1
theorem dX7_readCall_17 : decode cX7_readCall 17 = .ok (.invokevirtual 138, 3) := zdX7_readCall_0.2.2.2.2.2.2.2.2.2.2.2.1
theorem dX7_readCall_20 : decode cX7_readCall 20 = .ok (.pop, 1) := zdX7_readCall_0.2.2.2.2.2.2.2.2.2.2.2.2.1
theorem dX7_readCall_21 : decode cX7_readCall 21 = .ok (.aload_n 0, 1) := zdX7_readCall_0.2.2.2.2.2.2.2.2.2.2.2.2.2.1
theorem dX7_readCall_22 : decode cX7_readCall 22 = .ok (.bipush 64, 2) := zdX7_readCall_0.2.2.2.2.2.2.2.2.2.2.2.2.2.2.1
theorem dX7_readCall_24 : decode cX7_readCall 24 = .ok (.invokevirtual 142, 3) := zdX7_readCall_0.2.2.2.2.2.2.2.2.2.2.2.2.2.2.2.1
theorem dX7_readCall_27 : decode cX7_readCall 27 = .ok (.aload_n 0, 1) := zdX7_readCall_0.2.2.2.2.2.2.2.2.2.2.2.2.2.2.2.2.1
theorem dX7_readCall_28 : decode cX7_readCall 28 = .ok (.iconst 0, 1) := zdX7_readCall_0.2.2.2.2.2.2.2.2.2.2.2.2.2.2.2.2.2.1
theorem dX7_readCall_29 : decode cX7_readCall 29 = .ok (.sipush 1439, 3) := zdX7_readCall_0.2.2.2.2.2.2.2.2.2.2.2.2.2.2.2.2.2.2.1
theorem dX7_readCall_32 : decode cX7_readCall 32 = .ok (.invokevirtual 138, 3) := zdX7_readCall_0.2.2.2.2.2.2.2.2.2.2.2.2.2.2.2.2.2.2.2.1
theorem dX7_readCall_35 : decode cX7_readCall 35 = .ok (.pop, 1) := zdX7_readCall_0.2.2.2.2.2.2.2.2.2.2.2.2.2.2.2.2.2.2.2.2.1
theorem dX7_readCall_36 : decode cX7_readCall 36 = .ok (.return_, 1) := zdX7_readCall_0.2.2.2.2.2.2.2.2.2.2.2.2.2.2.2.2.2.2.2.2.2.1
set_option maxRecDepth 20000 in
theorem ggX7_readUnit_X7_read : GoodIn wsX7_readUnit wsX7_read := goodIn_r _ [5, 6, 7, 8, 9, 10, 4, 11, 12, 13, 14, 15, 16, 17, 18, 19, 20, 25, 26, 27, 28, 29, 30, 31, 32, 33, 34, 35, 36, 37, 38, 39, 40, 41, 42, 43] rfl (by decide +kernel)
set_option maxRecDepth 20000 in
theorem gX7_readUnit_X7_read : GoodIn wsX7_readUnit (wsV RX7 138 RX7 yX7_read wsX7_read) := goodIn_app (goodIn_of _ (by decide +kernel)) ggX7_readUnit_X7_read
set_option maxRecDepth 20000 in
theorem ggX7_readUnit_X7_expect : GoodIn wsX7_readUnit wsX7_expect := goodIn_r _ [24, 7, 8, 9, 10, 4, 11, 12, 13, 17, 18, 19, 20, 6, 25, 26, 27, 28, 29, 30, 31, 32, 33, 34, 35, 36, 37, 38, 39, 40, 41, 42, 43] rfl (by decide +kernel)
set_option maxRecDepth 20000 in
theorem gX7_readUnit_X7_expect : GoodIn wsX7_readUnit (wsV RX7 142 RX7 yX7_expect wsX7_expect) := goodIn_app (goodIn_of _ (by decide +kernel)) ggX7_readUnit_X7_expect
set_option maxRecDepth 20000 in
theorem zdX7_readUnit_0 : dAll cX7_readUnit [(0, .aload_n 0, 1), (1, .iconst 0, 1), (2, .bipush 20, 2), (4, .invokevirtual 138, 3), (7, .pop, 1), (8, .aload_n 0, 1), (9, .bipush 58, 2), (11, .invokevirtual 142, 3), (14, .aload_n 0, 1), (15, .iconst 1, 1), (16, .bipush 7, 2), (18, .invokevirtual 138, 3), (21, .pop, 1), (22, .return_, 1)] := dAll_of (by decide +kernel)
theorem dX7_readUnit_0 : decode cX7_readUnit 0 = .ok (.aload_n 0, 1) := zdX7_readUnit_0.1
theorem dX7_readUnit_1 : decode cX7_readUnit 1 = .ok (.iconst 0, 1) := zdX7_readUnit_0.2.1
theorem dX7_readUnit_2 : decode cX7_readUnit 2 = .ok (.bipush 20, 2) := zdX7_readUnit_0.2.2.1
theorem dX7_readUnit_4 : decode cX7_readUnit 4 = .ok (.invokevirtual 138, 3) := zdX7_readUnit_0.2.2.2.1
theorem dX7_readUnit_7 : decode cX7_readUnit 7 = .ok (.pop, 1) := zdX7_readUnit_0.2.2.2.2.1
theorem dX7_readUnit_8 : decode cX7_readUnit 8 = .ok (.aload_n 0, 1) := zdX7_readUnit_0.2.2.2.2.2.1
theorem dX7_readUnit_9 : decode cX7_readUnit 9 = .ok (.bipush 58, 2) := zdX7_readUnit_0.2.2.2.2.2.2.1
theorem dX7_readUnit_11 : decode cX7_readUnit 11 = .ok (.invokevirtual 142, 3) := zdX7_readUnit_0.2.2.2.2.2.2.2.1
theorem dX7_readUnit_14 : decode cX7_readUnit 14 = .ok (.aload_n 0, 1) := zdX7_readUnit_0.2.2.2.2.2.2.2.2.1
theorem dX7_readUnit_15 : decode cX7_readUnit 15 = .ok (.iconst 1, 1) := zdX7_readUnit_0.2.2.2.2.2.2.2.2.2.1
theorem dX7_readUnit_16 : decode cX7_readUnit 16 = .ok (.bipush 7, 2) := zdX7_readUnit_0.2.2.2.2.2.2.2.2.2.2.1
theorem dX7_readUnit_18 : decode cX7_readUnit 18 = .ok (.invokevirtual 138, 3) := zdX7_readUnit_0.2.2.2.2.2.2.2.2.2.2.2.1
theorem dX7_readUnit_21 : decode cX7_readUnit 21 = .ok (.pop, 1) := zdX7_readUnit_0.2.2.2.2.2.2.2.2.2.2.2.2.1
theorem dX7_readUnit_22 : decode cX7_readUnit 22 = .ok (.return_, 1) := zdX7_readUnit_0.2.2.2.2.2.2.2.2.2.2.2.2.2.1
set_option maxRecDepth 20000 in
theorem ggX7_check_X7_see : GoodIn wsX7_check wsX7_see := goodIn_r _ [10, 4, 3, 11, 39, 40, 41, 42, 43, 44, 45, 46, 47, 48, 49, 50, 51, 52, 53, 54, 55, 56, 57] rfl (by decide +kernel)
set_option maxRecDepth 20000 in
theorem gX7_check_X7_see : GoodIn wsX7_check (wsV RX7 132 RX7 yX7_see wsX7_see) := goodIn_app (goodIn_of _ (by decide +kernel)) ggX7_check_X7_see
set_option maxRecDepth 20000 in
theorem ggX7_check_X7_fail : GoodIn wsX7_check wsX7_fail := goodIn_r _ [15, 5, 39, 40, 41, 42, 43, 44, 45, 46, 47, 48, 49, 50, 51, 52, 53, 54, 55, 56, 57] rfl (by decide +kernel)
set_option maxRecDepth 20000 in
theorem gX7_check_X7_fail : GoodIn wsX7_check (wsV RX7 135 RX7 yX7_fail wsX7_fail) := goodIn_app (goodIn_of _ (by decide +kernel)) ggX7_check_X7_fail
set_option maxRecDepth 20000 in
theorem ggX7_check_X7_readStreet : GoodIn wsX7_check wsX7_readStreet := goodIn_r _ [19, 20, 21, 22, 9, 23, 5, 4, 6, 7, 8, 10, 3, 11, 24, 25, 26, 12, 13, 14, 15, 27, 28, 29, 30, 39, 40, 41, 42, 43, 44, 45, 46, 47, 48, 49, 50, 51, 52, 53, 54, 55, 56, 57] rfl (by decide +kernel)
set_option maxRecDepth 20000 in
theorem gX7_check_X7_readStreet : GoodIn wsX7_check (wsV RX7 145 RX7 yX7_readStreet wsX7_readStreet) := goodIn_app (goodIn_of _ (by decide +kernel)) ggX7_check_X7_readStreet
set_option maxRecDepth 20000 in
theorem ggX7_check_X7_readUnit : GoodIn wsX7_check wsX7_readUnit := goodIn_r _ [34, 20, 21, 22, 9, 23, 5, 4, 6, 7, 8, 10, 3, 11, 24, 25, 26, 12, 13, 14, 15, 27, 28, 29, 30, 39, 40, 41, 42, 43, 44, 45, 46, 47, 48, 49, 50, 51, 52, 53, 54, 55, 56, 57] rfl (by decide +kernel)
set_option maxRecDepth 20000 in
theorem gX7_check_X7_readUnit : GoodIn wsX7_check (wsV RX7 148 RX7 yX7_readUnit wsX7_readUnit) := goodIn_app (goodIn_of _ (by decide +kernel)) ggX7_check_X7_readUnit
set_option maxRecDepth 20000 in
theorem ggX7_check_X7_readCall : GoodIn wsX7_check wsX7_readCall := goodIn_r _ [38, 20, 21, 22, 9, 23, 5, 4, 6, 7, 8, 10, 3, 11, 24, 25, 26, 12, 13, 14, 15, 27, 28, 29, 30, 39, 40, 41, 42, 43, 44, 45, 46, 47, 48, 49, 50, 51, 52, 53, 54, 55, 56, 57] rfl (by decide +kernel)
set_option maxRecDepth 20000 in
theorem gX7_check_X7_readCall : GoodIn wsX7_check (wsV RX7 151 RX7 yX7_readCall wsX7_readCall) := goodIn_app (goodIn_of _ (by decide +kernel)) ggX7_check_X7_readCall
set_option maxRecDepth 20000 in
theorem ggX7_check_X7_expect : GoodIn wsX7_check wsX7_expect := goodIn_r _ [30, 4, 6, 7, 8, 9, 10, 3, 11, 12, 13, 14, 15, 5, 39, 40, 41, 42, 43, 44, 45, 46, 47, 48, 49, 50, 51, 52, 53, 54, 55, 56, 57] rfl (by decide +kernel)
set_option maxRecDepth 20000 in
theorem gX7_check_X7_expect : GoodIn wsX7_check (wsV RX7 142 RX7 yX7_expect wsX7_expect) := goodIn_app (goodIn_of _ (by decide +kernel)) ggX7_check_X7_expect
set_option maxRecDepth 20000 in
theorem zdX7_check_0 : dAll cX7_check [(0, .aload_n 0, 1), (1, .iconst 0, 1), (2, .putfield 42, 3), (5, .aload_n 0, 1), (6, .aload_n 0, 1), (7, .getfield 120, 3), (10, .putfield 129, 3), (13, .aload_n 0, 1), (14, .iconst 0, 1), (15, .putfield 120, 3), (18, .aload_n 0, 1), (19, .iconst 0, 1), (20, .putfield 126, 3), (23, .aload_n 0, 1), (24, .iconst (-1), 1), (25, .putfield 123, 3), (28, .iconst 0, 1), (29, .istore_n 1, 1), (30, .iconst 0, 1), (31, .istore_n 2, 1), (32, .aload_n 0, 1), (33, .getfield 123, 3), (36, .ifCond .ge 183, 3), (39, .aload_n 0, 1), (40, .getfield 126, 3), (43, .aload_n 0, 1), (44, .getfield 129, 3), (47, .if_icmp .ge 172, 3), (50, .aload_n 0, 1), (51, .invokevirtual 132, 3)] := dAll_of (by decide +kernel)
theorem dX7_check_0 : decode cX7_check 0 = .ok (.aload_n 0, 1) := zdX7_check_0.1
theorem dX7_check_1 : decode cX7_check 1 = .ok (.iconst 0, 1) := zdX7_check_0.2.1
theorem dX7_check_2 : decode cX7_check 2 = .ok (.putfield 42, 3) := zdX7_check_0.2.2.1
theorem dX7_check_5 : decode cX7_check 5 = .ok (.aload_n 0, 1) := zdX7_check_0.2.2.2.1
theorem dX7_check_6 : decode cX7_check 6 = .ok (.aload_n 0, 1) := zdX7_check_0.2.2.2.2.1
theorem dX7_check_7 : decode cX7_check 7 = .ok (.getfield 120, 3) := zdX7_check_0.2.2.2.2.2.1
theorem dX7_check_10 : decode cX7_check 10 = .ok (.putfield 129, 3) := zdX7_check_0.2.2.2.2.2.2.1
theorem dX7_check_13 : decode cX7_check 13 = .ok (.aload_n 0, 1) := zdX7_check_0.2.2.2.2.2.2.2.1
theorem dX7_check_14 : decode cX7_check 14 = .ok (.iconst 0, 1) := zdX7_check_0.2.2.2.2.2.2.2.2.1
theorem dX7_check_15 : decode cX7_check 15 = .ok (.putfield 120, 3) := zdX7_check_0.2.2.2.2.2.2.2.2.2.1
theorem dX7_check_18 : decode cX7_check 18 = .ok (.aload_n 0, 1) := zdX7_check_0.2.2.2.2.2.2.2.2.2.2.1
theorem dX7_check_19 : decode cX7_check 19 = .ok (.iconst 0, 1) := zdX7_check_0.2.2.2.2.2.2.2.2.2.2.2.1
theorem dX7_check_20 : decode cX7_check 20 = .ok (.putfield 126, 3) := zdX7_check_0.2.2.2.2.2.2.2.2.2.2.2.2.1
theorem dX7_check_23 : decode cX7_check 23 = .ok (.aload_n 0, 1) := zdX7_check_0.2.2.2.2.2.2.2.2.2.2.2.2.2.1
theorem dX7_check_24 : decode cX7_check 24 = .ok (.iconst (-1), 1) := zdX7_check_0.2.2.2.2.2.2.2.2.2.2.2.2.2.2.1
theorem dX7_check_25 : decode cX7_check 25 = .ok (.putfield 123, 3) := zdX7_check_0.2.2.2.2.2.2.2.2.2.2.2.2.2.2.2.1
theorem dX7_check_28 : decode cX7_check 28 = .ok (.iconst 0, 1) := zdX7_check_0.2.2.2.2.2.2.2.2.2.2.2.2.2.2.2.2.1
theorem dX7_check_29 : decode cX7_check 29 = .ok (.istore_n 1, 1) := zdX7_check_0.2.2.2.2.2.2.2.2.2.2.2.2.2.2.2.2.2.1
theorem dX7_check_30 : decode cX7_check 30 = .ok (.iconst 0, 1) := zdX7_check_0.2.2.2.2.2.2.2.2.2.2.2.2.2.2.2.2.2.2.1
theorem dX7_check_31 : decode cX7_check 31 = .ok (.istore_n 2, 1) := zdX7_check_0.2.2.2.2.2.2.2.2.2.2.2.2.2.2.2.2.2.2.2.1
theorem dX7_check_32 : decode cX7_check 32 = .ok (.aload_n 0, 1) := zdX7_check_0.2.2.2.2.2.2.2.2.2.2.2.2.2.2.2.2.2.2.2.2.1
theorem dX7_check_33 : decode cX7_check 33 = .ok (.getfield 123, 3) := zdX7_check_0.2.2.2.2.2.2.2.2.2.2.2.2.2.2.2.2.2.2.2.2.2.1
theorem dX7_check_36 : decode cX7_check 36 = .ok (.ifCond .ge 183, 3) := zdX7_check_0.2.2.2.2.2.2.2.2.2.2.2.2.2.2.2.2.2.2.2.2.2.2.1
theorem dX7_check_39 : decode cX7_check 39 = .ok (.aload_n 0, 1) := zdX7_check_0.2.2.2.2.2.2.2.2.2.2.2.2.2.2.2.2.2.2.2.2.2.2.2.1
theorem dX7_check_40 : decode cX7_check 40 = .ok (.getfield 126, 3) := zdX7_check_0.2.2.2.2.2.2.2.2.2.2.2.2.2.2.2.2.2.2.2.2.2.2.2.2.1
theorem dX7_check_43 : decode cX7_check 43 = .ok (.aload_n 0, 1) := zdX7_check_0.2.2.2.2.2.2.2.2.2.2.2.2.2.2.2.2.2.2.2.2.2.2.2.2.2.1
theorem dX7_check_44 : decode cX7_check 44 = .ok (.getfield 129, 3) := zdX7_check_0.2.2.2.2.2.2.2.2.2.2.2.2.2.2.2.2.2.2.2.2.2.2.2.2.2.2.1
theorem dX7_check_47 : decode cX7_check 47 = .ok (.if_icmp .ge 172, 3) := zdX7_check_0.2.2.2.2.2.2.2.2.2.2.2.2.2.2.2.2.2.2.2.2.2.2.2.2.2.2.2.1
theorem dX7_check_50 : decode cX7_check 50 = .ok (.aload_n 0, 1) := zdX7_check_0.2.2.2.2.2.2.2.2.2.2.2.2.2.2.2.2.2.2.2.2.2.2.2.2.2.2.2.2.1
theorem dX7_check_51 : decode cX7_check 51 = .ok (.invokevirtual 132, 3) := zdX7_check_0.2.2.2.2.2.2.2.2.2.2.2.2.2.2.2.2.2.2.2.2.2.2.2.2.2.2.2.2.2.1
set_option maxRecDepth 20000 in
theorem zdX7_check_54 : dAll cX7_check [(54, .istore_n 3, 1), (55, .iload_n 3, 1), (56, .bipush 115, 2), (58, .if_icmp .ne 7, 3), (61, .iconst 0, 1), (62, .goto 24, 3), (65, .iload_n 3, 1), (66, .bipush 117, 2), (68, .if_icmp .ne 7, 3), (71, .iconst 1, 1), (72, .goto 14, 3), (75, .iload_n 3, 1), (76, .bipush 99, 2), (78, .if_icmp .ne 7, 3), (81, .iconst 2, 1), (82, .goto 4, 3), (85, .iconst (-1), 1), (86, .istore 4, 2), (88, .iload 4, 2), (90, .iload_n 1, 1), (91, .if_icmp .ne 9, 3), (94, .iload_n 2, 1), (95, .iconst 1, 1), (96, .iadd, 1), (97, .goto 4, 3), (100, .iconst 1, 1), (101, .istore_n 2, 1), (102, .iload 4, 2), (104, .ifCond .ne 8, 3), (107, .bipush 30, 2)] := dAll_of (by decide +kernel)
theorem dX7_check_54 : decode cX7_check 54 = .ok (.istore_n 3, 1) := zdX7_check_54.1
theorem dX7_check_55 : decode cX7_check 55 = .ok (.iload_n 3, 1) := zdX7_check_54.2.1
theorem dX7_check_56 : decode cX7_check 56 = .ok (.bipush 115, 2) := zdX7_check_54.2.2.1
theorem dX7_check_58 : decode cX7_check 58 = .ok (.if_icmp .ne 7, 3) := zdX7_check_54.2.2.2.1
theorem dX7_check_61 : decode cX7_check 61 = .ok (.iconst 0, 1) := zdX7_check_54.2.2.2.2.1
theorem dX7_check_62 : decode cX7_check 62 = .ok (.goto 24, 3) := zdX7_check_54.2.2.2.2.2.1
theorem dX7_check_65 : decode cX7_check 65 = .ok (.iload_n 3, 1) := zdX7_check_54.2.2.2.2.2.2.1
theorem dX7_check_66 : decode cX7_check 66 = .ok (.bipush 117, 2) := zdX7_check_54.2.2.2.2.2.2.2.1
theorem dX7_check_68 : decode cX7_check 68 = .ok (.if_icmp .ne 7, 3) := zdX7_check_54.2.2.2.2.2.2.2.2.1
theorem dX7_check_71 : decode cX7_check 71 = .ok (.iconst 1, 1) := zdX7_check_54.2.2.2.2.2.2.2.2.2.1
theorem dX7_check_72 : decode cX7_check 72 = .ok (.goto 14, 3) := zdX7_check_54.2.2.2.2.2.2.2.2.2.2.1
theorem dX7_check_75 : decode cX7_check 75 = .ok (.iload_n 3, 1) := zdX7_check_54.2.2.2.2.2.2.2.2.2.2.2.1
theorem dX7_check_76 : decode cX7_check 76 = .ok (.bipush 99, 2) := zdX7_check_54.2.2.2.2.2.2.2.2.2.2.2.2.1
theorem dX7_check_78 : decode cX7_check 78 = .ok (.if_icmp .ne 7, 3) := zdX7_check_54.2.2.2.2.2.2.2.2.2.2.2.2.2.1
theorem dX7_check_81 : decode cX7_check 81 = .ok (.iconst 2, 1) := zdX7_check_54.2.2.2.2.2.2.2.2.2.2.2.2.2.2.1
theorem dX7_check_82 : decode cX7_check 82 = .ok (.goto 4, 3) := zdX7_check_54.2.2.2.2.2.2.2.2.2.2.2.2.2.2.2.1
theorem dX7_check_85 : decode cX7_check 85 = .ok (.iconst (-1), 1) := zdX7_check_54.2.2.2.2.2.2.2.2.2.2.2.2.2.2.2.2.1
theorem dX7_check_86 : decode cX7_check 86 = .ok (.istore 4, 2) := zdX7_check_54.2.2.2.2.2.2.2.2.2.2.2.2.2.2.2.2.2.1
theorem dX7_check_88 : decode cX7_check 88 = .ok (.iload 4, 2) := zdX7_check_54.2.2.2.2.2.2.2.2.2.2.2.2.2.2.2.2.2.2.1
theorem dX7_check_90 : decode cX7_check 90 = .ok (.iload_n 1, 1) := zdX7_check_54.2.2.2.2.2.2.2.2.2.2.2.2.2.2.2.2.2.2.2.1
theorem dX7_check_91 : decode cX7_check 91 = .ok (.if_icmp .ne 9, 3) := zdX7_check_54.2.2.2.2.2.2.2.2.2.2.2.2.2.2.2.2.2.2.2.2.1
theorem dX7_check_94 : decode cX7_check 94 = .ok (.iload_n 2, 1) := zdX7_check_54.2.2.2.2.2.2.2.2.2.2.2.2.2.2.2.2.2.2.2.2.2.1
theorem dX7_check_95 : decode cX7_check 95 = .ok (.iconst 1, 1) := zdX7_check_54.2.2.2.2.2.2.2.2.2.2.2.2.2.2.2.2.2.2.2.2.2.2.1
theorem dX7_check_96 : decode cX7_check 96 = .ok (.iadd, 1) := zdX7_check_54.2.2.2.2.2.2.2.2.2.2.2.2.2.2.2.2.2.2.2.2.2.2.2.1
theorem dX7_check_97 : decode cX7_check 97 = .ok (.goto 4, 3) := zdX7_check_54.2.2.2.2.2.2.2.2.2.2.2.2.2.2.2.2.2.2.2.2.2.2.2.2.1
theorem dX7_check_100 : decode cX7_check 100 = .ok (.iconst 1, 1) := zdX7_check_54.2.2.2.2.2.2.2.2.2.2.2.2.2.2.2.2.2.2.2.2.2.2.2.2.2.1
theorem dX7_check_101 : decode cX7_check 101 = .ok (.istore_n 2, 1) := zdX7_check_54.2.2.2.2.2.2.2.2.2.2.2.2.2.2.2.2.2.2.2.2.2.2.2.2.2.2.1
theorem dX7_check_102 : decode cX7_check 102 = .ok (.iload 4, 2) := zdX7_check_54.2.2.2.2.2.2.2.2.2.2.2.2.2.2.2.2.2.2.2.2.2.2.2.2.2.2.2.1
theorem dX7_check_104 : decode cX7_check 104 = .ok (.ifCond .ne 8, 3) := zdX7_check_54.2.2.2.2.2.2.2.2.2.2.2.2.2.2.2.2.2.2.2.2.2.2.2.2.2.2.2.2.1
theorem dX7_check_107 : decode cX7_check 107 = .ok (.bipush 30, 2) := zdX7_check_54.2.2.2.2.2.2.2.2.2.2.2.2.2.2.2.2.2.2.2.2.2.2.2.2.2.2.2.2.2.1
set_option maxRecDepth 20000 in
theorem zdX7_check_109 : dAll cX7_check [(109, .goto 16, 3), (112, .iload 4, 2), (114, .iconst 1, 1), (115, .if_icmp .ne 8, 3), (118, .bipush 11, 2), (120, .goto 5, 3), (123, .bipush 21, 2), (125, .istore 5, 2), (127, .iload 4, 2), (129, .iload_n 1, 1), (130, .if_icmp .lt 9, 3), (133, .iload_n 2, 1), (134, .iload 5, 2), (136, .if_icmp .le 11, 3), (139, .aload_n 0, 1), (140, .aload_n 0, 1), (141, .getfield 126, 3), (144, .invokevirtual 135, 3), (147, .iload 4, 2), (149, .istore_n 1, 1), (150, .aload_n 0, 1), (151, .dup, 1), (152, .getfield 126, 3), (155, .iconst 1, 1), (156, .iadd, 1), (157, .putfield 126, 3), (160, .aload_n 0, 1), (161, .getfield 123, 3), (164, .ifCond .ge 12, 3), (167, .iload 4, 2)] := dAll_of (by decide +kernel)
theorem dX7_check_109 : decode cX7_check 109 = .ok (.goto 16, 3) := zdX7_check_109.1
theorem dX7_check_112 : decode cX7_check 112 = .ok (.iload 4, 2) := zdX7_check_109.2.1
theorem dX7_check_114 : decode cX7_check 114 = .ok (.iconst 1, 1) := zdX7_check_109.2.2.1
theorem dX7_check_115 : decode cX7_check 115 = .ok (.if_icmp .ne 8, 3) := zdX7_check_109.2.2.2.1
theorem dX7_check_118 : decode cX7_check 118 = .ok (.bipush 11, 2) := zdX7_check_109.2.2.2.2.1
theorem dX7_check_120 : decode cX7_check 120 = .ok (.goto 5, 3) := zdX7_check_109.2.2.2.2.2.1
theorem dX7_check_123 : decode cX7_check 123 = .ok (.bipush 21, 2) := zdX7_check_109.2.2.2.2.2.2.1
theorem dX7_check_125 : decode cX7_check 125 = .ok (.istore 5, 2) := zdX7_check_109.2.2.2.2.2.2.2.1
theorem dX7_check_127 : decode cX7_check 127 = .ok (.iload 4, 2) := zdX7_check_109.2.2.2.2.2.2.2.2.1
theorem dX7_check_129 : decode cX7_check 129 = .ok (.iload_n 1, 1) := zdX7_check_109.2.2.2.2.2.2.2.2.2.1
theorem dX7_check_130 : decode cX7_check 130 = .ok (.if_icmp .lt 9, 3) := zdX7_check_109.2.2.2.2.2.2.2.2.2.2.1
theorem dX7_check_133 : decode cX7_check 133 = .ok (.iload_n 2, 1) := zdX7_check_109.2.2.2.2.2.2.2.2.2.2.2.1
theorem dX7_check_134 : decode cX7_check 134 = .ok (.iload 5, 2) := zdX7_check_109.2.2.2.2.2.2.2.2.2.2.2.2.1
theorem dX7_check_136 : decode cX7_check 136 = .ok (.if_icmp .le 11, 3) := zdX7_check_109.2.2.2.2.2.2.2.2.2.2.2.2.2.1
theorem dX7_check_139 : decode cX7_check 139 = .ok (.aload_n 0, 1) := zdX7_check_109.2.2.2.2.2.2.2.2.2.2.2.2.2.2.1
theorem dX7_check_140 : decode cX7_check 140 = .ok (.aload_n 0, 1) := zdX7_check_109.2.2.2.2.2.2.2.2.2.2.2.2.2.2.2.1
theorem dX7_check_141 : decode cX7_check 141 = .ok (.getfield 126, 3) := zdX7_check_109.2.2.2.2.2.2.2.2.2.2.2.2.2.2.2.2.1
theorem dX7_check_144 : decode cX7_check 144 = .ok (.invokevirtual 135, 3) := zdX7_check_109.2.2.2.2.2.2.2.2.2.2.2.2.2.2.2.2.2.1
theorem dX7_check_147 : decode cX7_check 147 = .ok (.iload 4, 2) := zdX7_check_109.2.2.2.2.2.2.2.2.2.2.2.2.2.2.2.2.2.2.1
theorem dX7_check_149 : decode cX7_check 149 = .ok (.istore_n 1, 1) := zdX7_check_109.2.2.2.2.2.2.2.2.2.2.2.2.2.2.2.2.2.2.2.1
theorem dX7_check_150 : decode cX7_check 150 = .ok (.aload_n 0, 1) := zdX7_check_109.2.2.2.2.2.2.2.2.2.2.2.2.2.2.2.2.2.2.2.2.1
theorem dX7_check_151 : decode cX7_check 151 = .ok (.dup, 1) := zdX7_check_109.2.2.2.2.2.2.2.2.2.2.2.2.2.2.2.2.2.2.2.2.2.1
theorem dX7_check_152 : decode cX7_check 152 = .ok (.getfield 126, 3) := zdX7_check_109.2.2.2.2.2.2.2.2.2.2.2.2.2.2.2.2.2.2.2.2.2.2.1
theorem dX7_check_155 : decode cX7_check 155 = .ok (.iconst 1, 1) := zdX7_check_109.2.2.2.2.2.2.2.2.2.2.2.2.2.2.2.2.2.2.2.2.2.2.2.1
theorem dX7_check_156 : decode cX7_check 156 = .ok (.iadd, 1) := zdX7_check_109.2.2.2.2.2.2.2.2.2.2.2.2.2.2.2.2.2.2.2.2.2.2.2.2.1
theorem dX7_check_157 : decode cX7_check 157 = .ok (.putfield 126, 3) := zdX7_check_109.2.2.2.2.2.2.2.2.2.2.2.2.2.2.2.2.2.2.2.2.2.2.2.2.2.1
theorem dX7_check_160 : decode cX7_check 160 = .ok (.aload_n 0, 1) := zdX7_check_109.2.2.2.2.2.2.2.2.2.2.2.2.2.2.2.2.2.2.2.2.2.2.2.2.2.2.1
theorem dX7_check_161 : decode cX7_check 161 = .ok (.getfield 123, 3) := zdX7_check_109.2.2.2.2.2.2.2.2.2.2.2.2.2.2.2.2.2.2.2.2.2.2.2.2.2.2.2.1
theorem dX7_check_164 : decode cX7_check 164 = .ok (.ifCond .ge 12, 3) := zdX7_check_109.2.2.2.2.2.2.2.2.2.2.2.2.2.2.2.2.2.2.2.2.2.2.2.2.2.2.2.2.1
theorem dX7_check_167 : decode cX7_check 167 = .ok (.iload 4, 2) := zdX7_check_109.2.2.2.2.2.2.2.2.2.2.2.2.2.2.2.2.2.2.2.2.2.2.2.2.2.2.2.2.2.1
set_option maxRecDepth 20000 in
theorem zdX7_check_169 : dAll cX7_check [(169, .ifCond .ne 7, 3), (172, .aload_n 0, 1), (173, .invokevirtual 145, 3), (176, .aload_n 0, 1), (177, .getfield 123, 3), (180, .ifCond .ge 13, 3), (183, .iload 4, 2), (185, .iconst 1, 1), (186, .if_icmp .ne 7, 3), (189, .aload_n 0, 1), (190, .invokevirtual 148, 3), (193, .aload_n 0, 1), (194, .getfield 123, 3), (197, .ifCond .ge 13, 3), (200, .iload 4, 2), (202, .iconst 2, 1), (203, .if_icmp .ne 7, 3), (206, .aload_n 0, 1), (207, .invokevirtual 151, 3), (210, .aload_n 0, 1), (211, .bipush 59, 2), (213, .invokevirtual 142, 3), (216, .goto (-184), 3), (219, .aload_n 0, 1), (220, .getfield 123, 3), (223, .ireturn, 1)] := dAll_of (by decide +kernel)
theorem dX7_check_169 : decode cX7_check 169 = .ok (.ifCond .ne 7, 3) := zdX7_check_169.1
theorem dX7_check_172 : decode cX7_check 172 = .ok (.aload_n 0, 1) := zdX7_check_169.2.1
theorem dX7_check_173 : decode cX7_check 173 = .ok (.invokevirtual 145, 3) := zdX7_check_169.2.2.1
theorem dX7_check_176 : decode cX7_check 176 = .ok (.aload_n 0, 1) := zdX7_check_169.2.2.2.1
theorem dX7_check_177 : decode cX7_check 177 = .ok (.getfield 123, 3) := zdX7_check_169.2.2.2.2.1
theorem dX7_check_180 : decode cX7_check 180 = .ok (.ifCond .ge 13, 3) := zdX7_check_169.2.2.2.2.2.1
theorem dX7_check_183 : decode cX7_check 183 = .ok (.iload 4, 2) := zdX7_check_169.2.2.2.2.2.2.1
theorem dX7_check_185 : decode cX7_check 185 = .ok (.iconst 1, 1) := zdX7_check_169.2.2.2.2.2.2.2.1
theorem dX7_check_186 : decode cX7_check 186 = .ok (.if_icmp .ne 7, 3) := zdX7_check_169.2.2.2.2.2.2.2.2.1
theorem dX7_check_189 : decode cX7_check 189 = .ok (.aload_n 0, 1) := zdX7_check_169.2.2.2.2.2.2.2.2.2.1
theorem dX7_check_190 : decode cX7_check 190 = .ok (.invokevirtual 148, 3) := zdX7_check_169.2.2.2.2.2.2.2.2.2.2.1
theorem dX7_check_193 : decode cX7_check 193 = .ok (.aload_n 0, 1) := zdX7_check_169.2.2.2.2.2.2.2.2.2.2.2.1
theorem dX7_check_194 : decode cX7_check 194 = .ok (.getfield 123, 3) := zdX7_check_169.2.2.2.2.2.2.2.2.2.2.2.2.1
theorem dX7_check_197 : decode cX7_check 197 = .ok (.ifCond .ge 13, 3) := zdX7_check_169.2.2.2.2.2.2.2.2.2.2.2.2.2.1
theorem dX7_check_200 : decode cX7_check 200 = .ok (.iload 4, 2) := zdX7_check_169.2.2.2.2.2.2.2.2.2.2.2.2.2.2.1
theorem dX7_check_202 : decode cX7_check 202 = .ok (.iconst 2, 1) := zdX7_check_169.2.2.2.2.2.2.2.2.2.2.2.2.2.2.2.1
theorem dX7_check_203 : decode cX7_check 203 = .ok (.if_icmp .ne 7, 3) := zdX7_check_169.2.2.2.2.2.2.2.2.2.2.2.2.2.2.2.2.1
theorem dX7_check_206 : decode cX7_check 206 = .ok (.aload_n 0, 1) := zdX7_check_169.2.2.2.2.2.2.2.2.2.2.2.2.2.2.2.2.2.1
theorem dX7_check_207 : decode cX7_check 207 = .ok (.invokevirtual 151, 3) := zdX7_check_169.2.2.2.2.2.2.2.2.2.2.2.2.2.2.2.2.2.2.1
theorem dX7_check_210 : decode cX7_check 210 = .ok (.aload_n 0, 1) := zdX7_check_169.2.2.2.2.2.2.2.2.2.2.2.2.2.2.2.2.2.2.2.1
theorem dX7_check_211 : decode cX7_check 211 = .ok (.bipush 59, 2) := zdX7_check_169.2.2.2.2.2.2.2.2.2.2.2.2.2.2.2.2.2.2.2.2.1
theorem dX7_check_213 : decode cX7_check 213 = .ok (.invokevirtual 142, 3) := zdX7_check_169.2.2.2.2.2.2.2.2.2.2.2.2.2.2.2.2.2.2.2.2.2.1
theorem dX7_check_216 : decode cX7_check 216 = .ok (.goto (-184), 3) := zdX7_check_169.2.2.2.2.2.2.2.2.2.2.2.2.2.2.2.2.2.2.2.2.2.2.1
theorem dX7_check_219 : decode cX7_check 219 = .ok (.aload_n 0, 1) := zdX7_check_169.2.2.2.2.2.2.2.2.2.2.2.2.2.2.2.2.2.2.2.2.2.2.2.1
theorem dX7_check_220 : decode cX7_check 220 = .ok (.getfield 123, 3) := zdX7_check_169.2.2.2.2.2.2.2.2.2.2.2.2.2.2.2.2.2.2.2.2.2.2.2.2.1
theorem dX7_check_223 : decode cX7_check 223 = .ok (.ireturn, 1) := zdX7_check_169.2.2.2.2.2.2.2.2.2.2.2.2.2.2.2.2.2.2.2.2.2.2.2.2.2.1
set_option maxRecDepth 20000 in
theorem ggX7_count_X7_in : GoodIn wsX7_count wsX7_in := goodIn_r _ [7] rfl (by decide +kernel)
set_option maxRecDepth 20000 in
theorem gX7_count_X7_in : GoodIn wsX7_count (va_wsS RX7 76 yX7_in wsX7_in) := goodIn_app (goodIn_of _ (by decide +kernel)) ggX7_count_X7_in
set_option maxRecDepth 20000 in
theorem ggX7_count_X7_throwing : GoodIn wsX7_count wsX7_throwing := goodIn_r _ [11, 12, 30, 31, 32, 33, 34, 35, 36, 37, 38, 39, 40, 41, 42, 43, 44, 45, 46, 47, 48] rfl (by decide +kernel)
set_option maxRecDepth 20000 in
theorem gX7_count_X7_throwing : GoodIn wsX7_count (wsV RX7 80 RX7 yX7_throwing wsX7_throwing) := goodIn_app (goodIn_of _ (by decide +kernel)) ggX7_count_X7_throwing
set_option maxRecDepth 20000 in
theorem ggX7_count_X7_many : GoodIn wsX7_count wsX7_many := goodIn_r _ [16, 2, 17, 30, 31, 32, 33, 34, 35, 36, 37, 38, 39, 40, 41, 42, 43, 44, 45, 46, 47, 48] rfl (by decide +kernel)
set_option maxRecDepth 20000 in
theorem gX7_count_X7_many : GoodIn wsX7_count (wsV RX7 73 RX7 yX7_many wsX7_many) := goodIn_app (goodIn_of _ (by decide +kernel)) ggX7_count_X7_many
set_option maxRecDepth 20000 in
theorem ggX7_count_X7_isServed : GoodIn wsX7_count wsX7_isServed := goodIn_r _ [21, 2, 22, 23, 24, 25, 26, 27, 28, 6, 29, 3, 30, 31, 32, 33, 34, 35, 36, 37, 38, 39, 40, 41, 42, 43, 44, 45, 46, 47, 48] rfl (by decide +kernel)
set_option maxRecDepth 20000 in
theorem gX7_count_X7_isServed : GoodIn wsX7_count (wsV RX7 98 RX7 yX7_isServed wsX7_isServed) := goodIn_app (goodIn_of _ (by decide +kernel)) ggX7_count_X7_isServed
set_option maxRecDepth 20000 in
theorem zdX7_count_0 : dAll cX7_count [(0, .aload_n 0, 1), (1, .iload_n 1, 1), (2, .iconst 0, 1), (3, .iconst 5, 1), (4, .invokestatic 76, 3), (7, .ifCond .ne 7, 3), (10, .iconst 1, 1), (11, .goto 4, 3), (14, .iconst 0, 1), (15, .iconst 0, 1), (16, .invokevirtual 80, 3), (19, .ifCond .eq 5, 3), (22, .iconst 0, 1), (23, .ireturn, 1), (24, .iload_n 1, 1), (25, .ifCond .ne 8, 3), (28, .aload_n 0, 1), (29, .getfield 56, 3), (32, .ireturn, 1), (33, .iload_n 1, 1), (34, .iconst 4, 1), (35, .if_icmp .ge 11, 3), (38, .aload_n 0, 1), (39, .iload_n 1, 1), (40, .iconst 1, 1), (41, .isub, 1), (42, .invokevirtual 73, 3), (45, .ireturn, 1), (46, .iconst 0, 1), (47, .istore_n 2, 1)] := dAll_of (by decide +kernel)
theorem dX7_count_0 : decode cX7_count 0 = .ok (.aload_n 0, 1) := zdX7_count_0.1
theorem dX7_count_1 : decode cX7_count 1 = .ok (.iload_n 1, 1) := zdX7_count_0.2.1
theorem dX7_count_2 : decode cX7_count 2 = .ok (.iconst 0, 1) := zdX7_count_0.2.2.1
theorem dX7_count_3 : decode cX7_count 3 = .ok (.iconst 5, 1) := zdX7_count_0.2.2.2.1
theorem dX7_count_4 : decode cX7_count 4 = .ok (.invokestatic 76, 3) := zdX7_count_0.2.2.2.2.1
theorem dX7_count_7 : decode cX7_count 7 = .ok (.ifCond .ne 7, 3) := zdX7_count_0.2.2.2.2.2.1
theorem dX7_count_10 : decode cX7_count 10 = .ok (.iconst 1, 1) := zdX7_count_0.2.2.2.2.2.2.1
theorem dX7_count_11 : decode cX7_count 11 = .ok (.goto 4, 3) := zdX7_count_0.2.2.2.2.2.2.2.1
theorem dX7_count_14 : decode cX7_count 14 = .ok (.iconst 0, 1) := zdX7_count_0.2.2.2.2.2.2.2.2.1
theorem dX7_count_15 : decode cX7_count 15 = .ok (.iconst 0, 1) := zdX7_count_0.2.2.2.2.2.2.2.2.2.1
theorem dX7_count_16 : decode cX7_count 16 = .ok (.invokevirtual 80, 3) := zdX7_count_0.2.2.2.2.2.2.2.2.2.2.1
theorem dX7_count_19 : decode cX7_count 19 = .ok (.ifCond .eq 5, 3) := zdX7_count_0.2.2.2.2.2.2.2.2.2.2.2.1
theorem dX7_count_22 : decode cX7_count 22 = .ok (.iconst 0, 1) := zdX7_count_0.2.2.2.2.2.2.2.2.2.2.2.2.1
theorem dX7_count_23 : decode cX7_count 23 = .ok (.ireturn, 1) := zdX7_count_0.2.2.2.2.2.2.2.2.2.2.2.2.2.1
theorem dX7_count_24 : decode cX7_count 24 = .ok (.iload_n 1, 1) := zdX7_count_0.2.2.2.2.2.2.2.2.2.2.2.2.2.2.1
theorem dX7_count_25 : decode cX7_count 25 = .ok (.ifCond .ne 8, 3) := zdX7_count_0.2.2.2.2.2.2.2.2.2.2.2.2.2.2.2.1
theorem dX7_count_28 : decode cX7_count 28 = .ok (.aload_n 0, 1) := zdX7_count_0.2.2.2.2.2.2.2.2.2.2.2.2.2.2.2.2.1
theorem dX7_count_29 : decode cX7_count 29 = .ok (.getfield 56, 3) := zdX7_count_0.2.2.2.2.2.2.2.2.2.2.2.2.2.2.2.2.2.1
theorem dX7_count_32 : decode cX7_count 32 = .ok (.ireturn, 1) := zdX7_count_0.2.2.2.2.2.2.2.2.2.2.2.2.2.2.2.2.2.2.1
theorem dX7_count_33 : decode cX7_count 33 = .ok (.iload_n 1, 1) := zdX7_count_0.2.2.2.2.2.2.2.2.2.2.2.2.2.2.2.2.2.2.2.1
theorem dX7_count_34 : decode cX7_count 34 = .ok (.iconst 4, 1) := zdX7_count_0.2.2.2.2.2.2.2.2.2.2.2.2.2.2.2.2.2.2.2.2.1
theorem dX7_count_35 : decode cX7_count 35 = .ok (.if_icmp .ge 11, 3) := zdX7_count_0.2.2.2.2.2.2.2.2.2.2.2.2.2.2.2.2.2.2.2.2.2.1
theorem dX7_count_38 : decode cX7_count 38 = .ok (.aload_n 0, 1) := zdX7_count_0.2.2.2.2.2.2.2.2.2.2.2.2.2.2.2.2.2.2.2.2.2.2.1
theorem dX7_count_39 : decode cX7_count 39 = .ok (.iload_n 1, 1) := zdX7_count_0.2.2.2.2.2.2.2.2.2.2.2.2.2.2.2.2.2.2.2.2.2.2.2.1
theorem dX7_count_40 : decode cX7_count 40 = .ok (.iconst 1, 1) := zdX7_count_0.2.2.2.2.2.2.2.2.2.2.2.2.2.2.2.2.2.2.2.2.2.2.2.2.1
theorem dX7_count_41 : decode cX7_count 41 = .ok (.isub, 1) := zdX7_count_0.2.2.2.2.2.2.2.2.2.2.2.2.2.2.2.2.2.2.2.2.2.2.2.2.2.1
theorem dX7_count_42 : decode cX7_count 42 = .ok (.invokevirtual 73, 3) := zdX7_count_0.2.2.2.2.2.2.2.2.2.2.2.2.2.2.2.2.2.2.2.2.2.2.2.2.2.2.1
theorem dX7_count_45 : decode cX7_count 45 = .ok (.ireturn, 1) := zdX7_count_0.2.2.2.2.2.2.2.2.2.2.2.2.2.2.2.2.2.2.2.2.2.2.2.2.2.2.2.1
theorem dX7_count_46 : decode cX7_count 46 = .ok (.iconst 0, 1) := zdX7_count_0.2.2.2.2.2.2.2.2.2.2.2.2.2.2.2.2.2.2.2.2.2.2.2.2.2.2.2.2.1
theorem dX7_count_47 : decode cX7_count 47 = .ok (.istore_n 2, 1) := zdX7_count_0.2.2.2.2.2.2.2.2.2.2.2.2.2.2.2.2.2.2.2.2.2.2.2.2.2.2.2.2.2.1
set_option maxRecDepth 20000 in
theorem zdX7_count_48 : dAll cX7_count [(48, .iconst 0, 1), (49, .istore_n 3, 1), (50, .bipush 41, 2), (52, .istore 4, 2), (54, .iload 4, 2), (56, .bipush 62, 2), (58, .if_icmp .ge 108, 3), (61, .iconst 0, 1), (62, .istore 5, 2), (64, .bipush 41, 2), (66, .istore 6, 2), (68, .iload 6, 2), (70, .iload 4, 2), (72, .if_icmp .ge 58, 3), (75, .iload 5, 2), (77, .ifCond .ne 40, 3), (80, .aload_n 0, 1), (81, .getfield 13, 3), (84, .iload 4, 2), (86, .baload, 1), (87, .ifCond .eq 34, 3), (90, .aload_n 0, 1), (91, .getfield 13, 3), (94, .iload 6, 2), (96, .baload, 1), (97, .ifCond .eq 24, 3), (100, .aload_n 0, 1), (101, .getfield 23, 3), (104, .iload 4, 2), (106, .iaload, 1)] := dAll_of (by decide +kernel)
theorem dX7_count_48 : decode cX7_count 48 = .ok (.iconst 0, 1) := zdX7_count_48.1
theorem dX7_count_49 : decode cX7_count 49 = .ok (.istore_n 3, 1) := zdX7_count_48.2.1
theorem dX7_count_50 : decode cX7_count 50 = .ok (.bipush 41, 2) := zdX7_count_48.2.2.1
theorem dX7_count_52 : decode cX7_count 52 = .ok (.istore 4, 2) := zdX7_count_48.2.2.2.1
theorem dX7_count_54 : decode cX7_count 54 = .ok (.iload 4, 2) := zdX7_count_48.2.2.2.2.1
theorem dX7_count_56 : decode cX7_count 56 = .ok (.bipush 62, 2) := zdX7_count_48.2.2.2.2.2.1
theorem dX7_count_58 : decode cX7_count 58 = .ok (.if_icmp .ge 108, 3) := zdX7_count_48.2.2.2.2.2.2.1
theorem dX7_count_61 : decode cX7_count 61 = .ok (.iconst 0, 1) := zdX7_count_48.2.2.2.2.2.2.2.1
theorem dX7_count_62 : decode cX7_count 62 = .ok (.istore 5, 2) := zdX7_count_48.2.2.2.2.2.2.2.2.1
theorem dX7_count_64 : decode cX7_count 64 = .ok (.bipush 41, 2) := zdX7_count_48.2.2.2.2.2.2.2.2.2.1
theorem dX7_count_66 : decode cX7_count 66 = .ok (.istore 6, 2) := zdX7_count_48.2.2.2.2.2.2.2.2.2.2.1
theorem dX7_count_68 : decode cX7_count 68 = .ok (.iload 6, 2) := zdX7_count_48.2.2.2.2.2.2.2.2.2.2.2.1
theorem dX7_count_70 : decode cX7_count 70 = .ok (.iload 4, 2) := zdX7_count_48.2.2.2.2.2.2.2.2.2.2.2.2.1
theorem dX7_count_72 : decode cX7_count 72 = .ok (.if_icmp .ge 58, 3) := zdX7_count_48.2.2.2.2.2.2.2.2.2.2.2.2.2.1
theorem dX7_count_75 : decode cX7_count 75 = .ok (.iload 5, 2) := zdX7_count_48.2.2.2.2.2.2.2.2.2.2.2.2.2.2.1
theorem dX7_count_77 : decode cX7_count 77 = .ok (.ifCond .ne 40, 3) := zdX7_count_48.2.2.2.2.2.2.2.2.2.2.2.2.2.2.2.1
theorem dX7_count_80 : decode cX7_count 80 = .ok (.aload_n 0, 1) := zdX7_count_48.2.2.2.2.2.2.2.2.2.2.2.2.2.2.2.2.1
theorem dX7_count_81 : decode cX7_count 81 = .ok (.getfield 13, 3) := zdX7_count_48.2.2.2.2.2.2.2.2.2.2.2.2.2.2.2.2.2.1
theorem dX7_count_84 : decode cX7_count 84 = .ok (.iload 4, 2) := zdX7_count_48.2.2.2.2.2.2.2.2.2.2.2.2.2.2.2.2.2.2.1
theorem dX7_count_86 : decode cX7_count 86 = .ok (.baload, 1) := zdX7_count_48.2.2.2.2.2.2.2.2.2.2.2.2.2.2.2.2.2.2.2.1
theorem dX7_count_87 : decode cX7_count 87 = .ok (.ifCond .eq 34, 3) := zdX7_count_48.2.2.2.2.2.2.2.2.2.2.2.2.2.2.2.2.2.2.2.2.1
theorem dX7_count_90 : decode cX7_count 90 = .ok (.aload_n 0, 1) := zdX7_count_48.2.2.2.2.2.2.2.2.2.2.2.2.2.2.2.2.2.2.2.2.2.1
theorem dX7_count_91 : decode cX7_count 91 = .ok (.getfield 13, 3) := zdX7_count_48.2.2.2.2.2.2.2.2.2.2.2.2.2.2.2.2.2.2.2.2.2.2.1
theorem dX7_count_94 : decode cX7_count 94 = .ok (.iload 6, 2) := zdX7_count_48.2.2.2.2.2.2.2.2.2.2.2.2.2.2.2.2.2.2.2.2.2.2.2.1
theorem dX7_count_96 : decode cX7_count 96 = .ok (.baload, 1) := zdX7_count_48.2.2.2.2.2.2.2.2.2.2.2.2.2.2.2.2.2.2.2.2.2.2.2.2.1
theorem dX7_count_97 : decode cX7_count 97 = .ok (.ifCond .eq 24, 3) := zdX7_count_48.2.2.2.2.2.2.2.2.2.2.2.2.2.2.2.2.2.2.2.2.2.2.2.2.2.1
theorem dX7_count_100 : decode cX7_count 100 = .ok (.aload_n 0, 1) := zdX7_count_48.2.2.2.2.2.2.2.2.2.2.2.2.2.2.2.2.2.2.2.2.2.2.2.2.2.2.1
theorem dX7_count_101 : decode cX7_count 101 = .ok (.getfield 23, 3) := zdX7_count_48.2.2.2.2.2.2.2.2.2.2.2.2.2.2.2.2.2.2.2.2.2.2.2.2.2.2.2.1
theorem dX7_count_104 : decode cX7_count 104 = .ok (.iload 4, 2) := zdX7_count_48.2.2.2.2.2.2.2.2.2.2.2.2.2.2.2.2.2.2.2.2.2.2.2.2.2.2.2.2.1
theorem dX7_count_106 : decode cX7_count 106 = .ok (.iaload, 1) := zdX7_count_48.2.2.2.2.2.2.2.2.2.2.2.2.2.2.2.2.2.2.2.2.2.2.2.2.2.2.2.2.2.1
set_option maxRecDepth 20000 in
theorem zdX7_count_107 : dAll cX7_count [(107, .aload_n 0, 1), (108, .getfield 23, 3), (111, .iload 6, 2), (113, .iaload, 1), (114, .if_icmp .ne 7, 3), (117, .iconst 1, 1), (118, .goto 4, 3), (121, .iconst 0, 1), (122, .istore 5, 2), (124, .iinc 6 1, 3), (127, .goto (-59), 3), (130, .iload_n 2, 1), (131, .aload_n 0, 1), (132, .iload 4, 2), (134, .invokevirtual 98, 3), (137, .ifCond .eq 7, 3), (140, .iconst 1, 1), (141, .goto 4, 3), (144, .iconst 0, 1), (145, .iadd, 1), (146, .istore_n 2, 1), (147, .iload_n 3, 1), (148, .iload 5, 2), (150, .ifCond .eq 7, 3), (153, .iconst 1, 1), (154, .goto 4, 3), (157, .iconst 0, 1), (158, .iadd, 1), (159, .istore_n 3, 1), (160, .iinc 4 1, 3)] := dAll_of (by decide +kernel)
theorem dX7_count_107 : decode cX7_count 107 = .ok (.aload_n 0, 1) := zdX7_count_107.1
theorem dX7_count_108 : decode cX7_count 108 = .ok (.getfield 23, 3) := zdX7_count_107.2.1
theorem dX7_count_111 : decode cX7_count 111 = .ok (.iload 6, 2) := zdX7_count_107.2.2.1
theorem dX7_count_113 : decode cX7_count 113 = .ok (.iaload, 1) := zdX7_count_107.2.2.2.1
theorem dX7_count_114 : decode cX7_count 114 = .ok (.if_icmp .ne 7, 3) := zdX7_count_107.2.2.2.2.1
theorem dX7_count_117 : decode cX7_count 117 = .ok (.iconst 1, 1) := zdX7_count_107.2.2.2.2.2.1
theorem dX7_count_118 : decode cX7_count 118 = .ok (.goto 4, 3) := zdX7_count_107.2.2.2.2.2.2.1
theorem dX7_count_121 : decode cX7_count 121 = .ok (.iconst 0, 1) := zdX7_count_107.2.2.2.2.2.2.2.1
theorem dX7_count_122 : decode cX7_count 122 = .ok (.istore 5, 2) := zdX7_count_107.2.2.2.2.2.2.2.2.1
theorem dX7_count_124 : decode cX7_count 124 = .ok (.iinc 6 1, 3) := zdX7_count_107.2.2.2.2.2.2.2.2.2.1
theorem dX7_count_127 : decode cX7_count 127 = .ok (.goto (-59), 3) := zdX7_count_107.2.2.2.2.2.2.2.2.2.2.1
theorem dX7_count_130 : decode cX7_count 130 = .ok (.iload_n 2, 1) := zdX7_count_107.2.2.2.2.2.2.2.2.2.2.2.1
theorem dX7_count_131 : decode cX7_count 131 = .ok (.aload_n 0, 1) := zdX7_count_107.2.2.2.2.2.2.2.2.2.2.2.2.1
theorem dX7_count_132 : decode cX7_count 132 = .ok (.iload 4, 2) := zdX7_count_107.2.2.2.2.2.2.2.2.2.2.2.2.2.1
theorem dX7_count_134 : decode cX7_count 134 = .ok (.invokevirtual 98, 3) := zdX7_count_107.2.2.2.2.2.2.2.2.2.2.2.2.2.2.1
theorem dX7_count_137 : decode cX7_count 137 = .ok (.ifCond .eq 7, 3) := zdX7_count_107.2.2.2.2.2.2.2.2.2.2.2.2.2.2.2.1
theorem dX7_count_140 : decode cX7_count 140 = .ok (.iconst 1, 1) := zdX7_count_107.2.2.2.2.2.2.2.2.2.2.2.2.2.2.2.2.1
theorem dX7_count_141 : decode cX7_count 141 = .ok (.goto 4, 3) := zdX7_count_107.2.2.2.2.2.2.2.2.2.2.2.2.2.2.2.2.2.1
theorem dX7_count_144 : decode cX7_count 144 = .ok (.iconst 0, 1) := zdX7_count_107.2.2.2.2.2.2.2.2.2.2.2.2.2.2.2.2.2.2.1
theorem dX7_count_145 : decode cX7_count 145 = .ok (.iadd, 1) := zdX7_count_107.2.2.2.2.2.2.2.2.2.2.2.2.2.2.2.2.2.2.2.1
theorem dX7_count_146 : decode cX7_count 146 = .ok (.istore_n 2, 1) := zdX7_count_107.2.2.2.2.2.2.2.2.2.2.2.2.2.2.2.2.2.2.2.2.1
theorem dX7_count_147 : decode cX7_count 147 = .ok (.iload_n 3, 1) := zdX7_count_107.2.2.2.2.2.2.2.2.2.2.2.2.2.2.2.2.2.2.2.2.2.1
theorem dX7_count_148 : decode cX7_count 148 = .ok (.iload 5, 2) := zdX7_count_107.2.2.2.2.2.2.2.2.2.2.2.2.2.2.2.2.2.2.2.2.2.2.1
theorem dX7_count_150 : decode cX7_count 150 = .ok (.ifCond .eq 7, 3) := zdX7_count_107.2.2.2.2.2.2.2.2.2.2.2.2.2.2.2.2.2.2.2.2.2.2.2.1
theorem dX7_count_153 : decode cX7_count 153 = .ok (.iconst 1, 1) := zdX7_count_107.2.2.2.2.2.2.2.2.2.2.2.2.2.2.2.2.2.2.2.2.2.2.2.2.1
theorem dX7_count_154 : decode cX7_count 154 = .ok (.goto 4, 3) := zdX7_count_107.2.2.2.2.2.2.2.2.2.2.2.2.2.2.2.2.2.2.2.2.2.2.2.2.2.1
theorem dX7_count_157 : decode cX7_count 157 = .ok (.iconst 0, 1) := zdX7_count_107.2.2.2.2.2.2.2.2.2.2.2.2.2.2.2.2.2.2.2.2.2.2.2.2.2.2.1
theorem dX7_count_158 : decode cX7_count 158 = .ok (.iadd, 1) := zdX7_count_107.2.2.2.2.2.2.2.2.2.2.2.2.2.2.2.2.2.2.2.2.2.2.2.2.2.2.2.1
theorem dX7_count_159 : decode cX7_count 159 = .ok (.istore_n 3, 1) := zdX7_count_107.2.2.2.2.2.2.2.2.2.2.2.2.2.2.2.2.2.2.2.2.2.2.2.2.2.2.2.2.1
theorem dX7_count_160 : decode cX7_count 160 = .ok (.iinc 4 1, 3) := zdX7_count_107.2.2.2.2.2.2.2.2.2.2.2.2.2.2.2.2.2.2.2.2.2.2.2.2.2.2.2.2.2.1
set_option maxRecDepth 20000 in
theorem zdX7_count_163 : dAll cX7_count [(163, .goto (-109), 3), (166, .iload_n 1, 1), (167, .iconst 4, 1), (168, .if_icmp .ne 7, 3), (171, .iload_n 2, 1), (172, .goto 4, 3), (175, .iload_n 3, 1), (176, .ireturn, 1)] := dAll_of (by decide +kernel)
theorem dX7_count_163 : decode cX7_count 163 = .ok (.goto (-109), 3) := zdX7_count_163.1
theorem dX7_count_166 : decode cX7_count 166 = .ok (.iload_n 1, 1) := zdX7_count_163.2.1
theorem dX7_count_167 : decode cX7_count 167 = .ok (.iconst 4, 1) := zdX7_count_163.2.2.1
theorem dX7_count_168 : decode cX7_count 168 = .ok (.if_icmp .ne 7, 3) := zdX7_count_163.2.2.2.1
theorem dX7_count_171 : decode cX7_count 171 = .ok (.iload_n 2, 1) := zdX7_count_163.2.2.2.2.1
theorem dX7_count_172 : decode cX7_count 172 = .ok (.goto 4, 3) := zdX7_count_163.2.2.2.2.2.1
theorem dX7_count_175 : decode cX7_count 175 = .ok (.iload_n 3, 1) := zdX7_count_163.2.2.2.2.2.2.1
theorem dX7_count_176 : decode cX7_count 176 = .ok (.ireturn, 1) := zdX7_count_163.2.2.2.2.2.2.2.1
set_option maxRecDepth 20000 in
theorem zdJ9_max_7cf53_0 : dAll cJ9_max_7cf53 [(0, .iload_n 0, 1), (1, .iload_n 1, 1), (2, .if_icmp .lt 7, 3), (5, .iload_n 0, 1), (6, .goto 4, 3), (9, .iload_n 1, 1), (10, .ireturn, 1)] := dAll_of (by decide +kernel)
theorem dJ9_max_7cf53_0 : decode cJ9_max_7cf53 0 = .ok (.iload_n 0, 1) := zdJ9_max_7cf53_0.1
theorem dJ9_max_7cf53_1 : decode cJ9_max_7cf53 1 = .ok (.iload_n 1, 1) := zdJ9_max_7cf53_0.2.1
theorem dJ9_max_7cf53_2 : decode cJ9_max_7cf53 2 = .ok (.if_icmp .lt 7, 3) := zdJ9_max_7cf53_0.2.2.1
theorem dJ9_max_7cf53_5 : decode cJ9_max_7cf53 5 = .ok (.iload_n 0, 1) := zdJ9_max_7cf53_0.2.2.2.1
theorem dJ9_max_7cf53_6 : decode cJ9_max_7cf53 6 = .ok (.goto 4, 3) := zdJ9_max_7cf53_0.2.2.2.2.1
theorem dJ9_max_7cf53_9 : decode cJ9_max_7cf53 9 = .ok (.iload_n 1, 1) := zdJ9_max_7cf53_0.2.2.2.2.2.1
theorem dJ9_max_7cf53_10 : decode cJ9_max_7cf53 10 = .ok (.ireturn, 1) := zdJ9_max_7cf53_0.2.2.2.2.2.2.1
set_option maxRecDepth 20000 in
theorem zdJ9_min_7cf53_0 : dAll cJ9_min_7cf53 [(0, .iload_n 0, 1), (1, .iload_n 1, 1), (2, .if_icmp .gt 7, 3), (5, .iload_n 0, 1), (6, .goto 4, 3), (9, .iload_n 1, 1), (10, .ireturn, 1)] := dAll_of (by decide +kernel)
theorem dJ9_min_7cf53_0 : decode cJ9_min_7cf53 0 = .ok (.iload_n 0, 1) := zdJ9_min_7cf53_0.1
theorem dJ9_min_7cf53_1 : decode cJ9_min_7cf53 1 = .ok (.iload_n 1, 1) := zdJ9_min_7cf53_0.2.1
theorem dJ9_min_7cf53_2 : decode cJ9_min_7cf53 2 = .ok (.if_icmp .gt 7, 3) := zdJ9_min_7cf53_0.2.2.1
theorem dJ9_min_7cf53_5 : decode cJ9_min_7cf53 5 = .ok (.iload_n 0, 1) := zdJ9_min_7cf53_0.2.2.2.1
theorem dJ9_min_7cf53_6 : decode cJ9_min_7cf53 6 = .ok (.goto 4, 3) := zdJ9_min_7cf53_0.2.2.2.2.1
theorem dJ9_min_7cf53_9 : decode cJ9_min_7cf53 9 = .ok (.iload_n 1, 1) := zdJ9_min_7cf53_0.2.2.2.2.2.1
theorem dJ9_min_7cf53_10 : decode cJ9_min_7cf53 10 = .ok (.ireturn, 1) := zdJ9_min_7cf53_0.2.2.2.2.2.2.1
