set_option maxRecDepth 20000 in
theorem zdX2_readByte_20 : dAll cX2_readByte [(20, .invokevirtual 50, 3), (23, .ireturn, 1), (24, .aload_n 0, 1), (25, .dup, 1), (26, .getfield 22, 3), (29, .iconst 1, 1), (30, .iadd, 1), (31, .putfield 22, 3), (34, .iconst 1, 1), (35, .ireturn, 1)] := dAll_of (by decide +kernel)
theorem dX2_readByte_20 : decode cX2_readByte 20 = .ok (.invokevirtual 50, 3) := zdX2_readByte_20.1
theorem dX2_readByte_23 : decode cX2_readByte 23 = .ok (.ireturn, 1) := zdX2_readByte_20.2.1
theorem dX2_readByte_24 : decode cX2_readByte 24 = .ok (.aload_n 0, 1) := zdX2_readByte_20.2.2.1
theorem dX2_readByte_25 : decode cX2_readByte 25 = .ok (.dup, 1) := zdX2_readByte_20.2.2.2.1
theorem dX2_readByte_26 : decode cX2_readByte 26 = .ok (.getfield 22, 3) := zdX2_readByte_20.2.2.2.2.1
theorem dX2_readByte_29 : decode cX2_readByte 29 = .ok (.iconst 1, 1) := zdX2_readByte_20.2.2.2.2.2.1
theorem dX2_readByte_30 : decode cX2_readByte 30 = .ok (.iadd, 1) := zdX2_readByte_20.2.2.2.2.2.2.1
theorem dX2_readByte_31 : decode cX2_readByte 31 = .ok (.putfield 22, 3) := zdX2_readByte_20.2.2.2.2.2.2.2.1
theorem dX2_readByte_34 : decode cX2_readByte 34 = .ok (.iconst 1, 1) := zdX2_readByte_20.2.2.2.2.2.2.2.2.1
theorem dX2_readByte_35 : decode cX2_readByte 35 = .ok (.ireturn, 1) := zdX2_readByte_20.2.2.2.2.2.2.2.2.2.1
set_option maxRecDepth 20000 in
theorem ggX2_readNumber_X4_byteAt : GoodIn wsX2_readNumber wsX4_byteAt := goodIn_r _ [8, 9, 10, 26, 27] rfl (by decide +kernel)
set_option maxRecDepth 20000 in
theorem gX2_readNumber_X4_byteAt : GoodIn wsX2_readNumber (wsV RX2 40 RX4 yX4_byteAt wsX4_byteAt) := goodIn_app (goodIn_of _ (by decide +kernel)) ggX2_readNumber_X4_byteAt
set_option maxRecDepth 20000 in
theorem ggX2_readNumber_X2_isDigit : GoodIn wsX2_readNumber wsX2_isDigit := goodIn_r _ [14] rfl (by decide +kernel)
set_option maxRecDepth 20000 in
theorem gX2_readNumber_X2_isDigit : GoodIn wsX2_readNumber (va_wsS RX2 73 yX2_isDigit wsX2_isDigit) := goodIn_app (goodIn_of _ (by decide +kernel)) ggX2_readNumber_X2_isDigit
set_option maxRecDepth 20000 in
theorem ggX2_readNumber_X2_wrongAt : GoodIn wsX2_readNumber wsX2_wrongAt := goodIn_r _ [18, 19, 20, 21, 22, 23, 24, 25] rfl (by decide +kernel)
set_option maxRecDepth 20000 in
theorem gX2_readNumber_X2_wrongAt : GoodIn wsX2_readNumber (wsV RX2 50 RX2 yX2_wrongAt wsX2_wrongAt) := goodIn_app (goodIn_of _ (by decide +kernel)) ggX2_readNumber_X2_wrongAt
set_option maxRecDepth 20000 in
theorem zdX2_readNumber_0 : dAll cX2_readNumber [(0, .aload_n 0, 1), (1, .getfield 22, 3), (4, .istore_n 3, 1), (5, .iconst 0, 1), (6, .istore 4, 2), (8, .aload_n 0, 1), (9, .getfield 22, 3), (12, .iload_n 3, 1), (13, .isub, 1), (14, .iconst 4, 1), (15, .if_icmp .ge 55, 3), (18, .aload_n 0, 1), (19, .getfield 12, 3), (22, .aload_n 0, 1), (23, .getfield 22, 3), (26, .invokevirtual 40, 3), (29, .invokestatic 73, 3), (32, .ifCond .eq 38, 3), (35, .bipush 10, 2), (37, .iload 4, 2), (39, .imul, 1), (40, .aload_n 0, 1), (41, .getfield 12, 3), (44, .aload_n 0, 1), (45, .getfield 22, 3), (48, .invokevirtual 40, 3), (51, .iadd, 1), (52, .bipush 48, 2), (54, .isub, 1), (55, .istore 4, 2)] := dAll_of (by decide +kernel)
theorem dX2_readNumber_0 : decode cX2_readNumber 0 = .ok (.aload_n 0, 1) := zdX2_readNumber_0.1
theorem dX2_readNumber_1 : decode cX2_readNumber 1 = .ok (.getfield 22, 3) := zdX2_readNumber_0.2.1
theorem dX2_readNumber_4 : decode cX2_readNumber 4 = .ok (.istore_n 3, 1) := zdX2_readNumber_0.2.2.1
theorem dX2_readNumber_5 : decode cX2_readNumber 5 = .ok (.iconst 0, 1) := zdX2_readNumber_0.2.2.2.1
theorem dX2_readNumber_6 : decode cX2_readNumber 6 = .ok (.istore 4, 2) := zdX2_readNumber_0.2.2.2.2.1
theorem dX2_readNumber_8 : decode cX2_readNumber 8 = .ok (.aload_n 0, 1) := zdX2_readNumber_0.2.2.2.2.2.1
theorem dX2_readNumber_9 : decode cX2_readNumber 9 = .ok (.getfield 22, 3) := zdX2_readNumber_0.2.2.2.2.2.2.1
theorem dX2_readNumber_12 : decode cX2_readNumber 12 = .ok (.iload_n 3, 1) := zdX2_readNumber_0.2.2.2.2.2.2.2.1
theorem dX2_readNumber_13 : decode cX2_readNumber 13 = .ok (.isub, 1) := zdX2_readNumber_0.2.2.2.2.2.2.2.2.1
theorem dX2_readNumber_14 : decode cX2_readNumber 14 = .ok (.iconst 4, 1) := zdX2_readNumber_0.2.2.2.2.2.2.2.2.2.1
theorem dX2_readNumber_15 : decode cX2_readNumber 15 = .ok (.if_icmp .ge 55, 3) := zdX2_readNumber_0.2.2.2.2.2.2.2.2.2.2.1
theorem dX2_readNumber_18 : decode cX2_readNumber 18 = .ok (.aload_n 0, 1) := zdX2_readNumber_0.2.2.2.2.2.2.2.2.2.2.2.1
theorem dX2_readNumber_19 : decode cX2_readNumber 19 = .ok (.getfield 12, 3) := zdX2_readNumber_0.2.2.2.2.2.2.2.2.2.2.2.2.1
theorem dX2_readNumber_22 : decode cX2_readNumber 22 = .ok (.aload_n 0, 1) := zdX2_readNumber_0.2.2.2.2.2.2.2.2.2.2.2.2.2.1
theorem dX2_readNumber_23 : decode cX2_readNumber 23 = .ok (.getfield 22, 3) := zdX2_readNumber_0.2.2.2.2.2.2.2.2.2.2.2.2.2.2.1
theorem dX2_readNumber_26 : decode cX2_readNumber 26 = .ok (.invokevirtual 40, 3) := zdX2_readNumber_0.2.2.2.2.2.2.2.2.2.2.2.2.2.2.2.1
theorem dX2_readNumber_29 : decode cX2_readNumber 29 = .ok (.invokestatic 73, 3) := zdX2_readNumber_0.2.2.2.2.2.2.2.2.2.2.2.2.2.2.2.2.1
theorem dX2_readNumber_32 : decode cX2_readNumber 32 = .ok (.ifCond .eq 38, 3) := zdX2_readNumber_0.2.2.2.2.2.2.2.2.2.2.2.2.2.2.2.2.2.1
theorem dX2_readNumber_35 : decode cX2_readNumber 35 = .ok (.bipush 10, 2) := zdX2_readNumber_0.2.2.2.2.2.2.2.2.2.2.2.2.2.2.2.2.2.2.1
theorem dX2_readNumber_37 : decode cX2_readNumber 37 = .ok (.iload 4, 2) := zdX2_readNumber_0.2.2.2.2.2.2.2.2.2.2.2.2.2.2.2.2.2.2.2.1
theorem dX2_readNumber_39 : decode cX2_readNumber 39 = .ok (.imul, 1) := zdX2_readNumber_0.2.2.2.2.2.2.2.2.2.2.2.2.2.2.2.2.2.2.2.2.1
theorem dX2_readNumber_40 : decode cX2_readNumber 40 = .ok (.aload_n 0, 1) := zdX2_readNumber_0.2.2.2.2.2.2.2.2.2.2.2.2.2.2.2.2.2.2.2.2.2.1
theorem dX2_readNumber_41 : decode cX2_readNumber 41 = .ok (.getfield 12, 3) := zdX2_readNumber_0.2.2.2.2.2.2.2.2.2.2.2.2.2.2.2.2.2.2.2.2.2.2.1
theorem dX2_readNumber_44 : decode cX2_readNumber 44 = .ok (.aload_n 0, 1) := zdX2_readNumber_0.2.2.2.2.2.2.2.2.2.2.2.2.2.2.2.2.2.2.2.2.2.2.2.1
theorem dX2_readNumber_45 : decode cX2_readNumber 45 = .ok (.getfield 22, 3) := zdX2_readNumber_0.2.2.2.2.2.2.2.2.2.2.2.2.2.2.2.2.2.2.2.2.2.2.2.2.1
theorem dX2_readNumber_48 : decode cX2_readNumber 48 = .ok (.invokevirtual 40, 3) := zdX2_readNumber_0.2.2.2.2.2.2.2.2.2.2.2.2.2.2.2.2.2.2.2.2.2.2.2.2.2.1
theorem dX2_readNumber_51 : decode cX2_readNumber 51 = .ok (.iadd, 1) := zdX2_readNumber_0.2.2.2.2.2.2.2.2.2.2.2.2.2.2.2.2.2.2.2.2.2.2.2.2.2.2.1
theorem dX2_readNumber_52 : decode cX2_readNumber 52 = .ok (.bipush 48, 2) := zdX2_readNumber_0.2.2.2.2.2.2.2.2.2.2.2.2.2.2.2.2.2.2.2.2.2.2.2.2.2.2.2.1
theorem dX2_readNumber_54 : decode cX2_readNumber 54 = .ok (.isub, 1) := zdX2_readNumber_0.2.2.2.2.2.2.2.2.2.2.2.2.2.2.2.2.2.2.2.2.2.2.2.2.2.2.2.2.1
theorem dX2_readNumber_55 : decode cX2_readNumber 55 = .ok (.istore 4, 2) := zdX2_readNumber_0.2.2.2.2.2.2.2.2.2.2.2.2.2.2.2.2.2.2.2.2.2.2.2.2.2.2.2.2.2.1
set_option maxRecDepth 20000 in
theorem zdX2_readNumber_57 : dAll cX2_readNumber [(57, .aload_n 0, 1), (58, .dup, 1), (59, .getfield 22, 3), (62, .iconst 1, 1), (63, .iadd, 1), (64, .putfield 22, 3), (67, .goto (-59), 3), (70, .aload_n 0, 1), (71, .getfield 22, 3), (74, .iload_n 3, 1), (75, .if_icmp .ne 12, 3), (78, .aload_n 0, 1), (79, .aload_n 0, 1), (80, .getfield 22, 3), (83, .invokevirtual 50, 3), (86, .ireturn, 1), (87, .aload_n 0, 1), (88, .getfield 12, 3), (91, .iload_n 3, 1), (92, .invokevirtual 40, 3), (95, .bipush 48, 2), (97, .if_icmp .ne 17, 3), (100, .aload_n 0, 1), (101, .getfield 22, 3), (104, .iload_n 3, 1), (105, .isub, 1), (106, .iconst 1, 1), (107, .if_icmp .le 7, 3), (110, .iconst 1, 1), (111, .goto 4, 3)] := dAll_of (by decide +kernel)
theorem dX2_readNumber_57 : decode cX2_readNumber 57 = .ok (.aload_n 0, 1) := zdX2_readNumber_57.1
theorem dX2_readNumber_58 : decode cX2_readNumber 58 = .ok (.dup, 1) := zdX2_readNumber_57.2.1
theorem dX2_readNumber_59 : decode cX2_readNumber 59 = .ok (.getfield 22, 3) := zdX2_readNumber_57.2.2.1
theorem dX2_readNumber_62 : decode cX2_readNumber 62 = .ok (.iconst 1, 1) := zdX2_readNumber_57.2.2.2.1
theorem dX2_readNumber_63 : decode cX2_readNumber 63 = .ok (.iadd, 1) := zdX2_readNumber_57.2.2.2.2.1
theorem dX2_readNumber_64 : decode cX2_readNumber 64 = .ok (.putfield 22, 3) := zdX2_readNumber_57.2.2.2.2.2.1
theorem dX2_readNumber_67 : decode cX2_readNumber 67 = .ok (.goto (-59), 3) := zdX2_readNumber_57.2.2.2.2.2.2.1
theorem dX2_readNumber_70 : decode cX2_readNumber 70 = .ok (.aload_n 0, 1) := zdX2_readNumber_57.2.2.2.2.2.2.2.1
theorem dX2_readNumber_71 : decode cX2_readNumber 71 = .ok (.getfield 22, 3) := zdX2_readNumber_57.2.2.2.2.2.2.2.2.1
theorem dX2_readNumber_74 : decode cX2_readNumber 74 = .ok (.iload_n 3, 1) := zdX2_readNumber_57.2.2.2.2.2.2.2.2.2.1
theorem dX2_readNumber_75 : decode cX2_readNumber 75 = .ok (.if_icmp .ne 12, 3) := zdX2_readNumber_57.2.2.2.2.2.2.2.2.2.2.1
theorem dX2_readNumber_78 : decode cX2_readNumber 78 = .ok (.aload_n 0, 1) := zdX2_readNumber_57.2.2.2.2.2.2.2.2.2.2.2.1
theorem dX2_readNumber_79 : decode cX2_readNumber 79 = .ok (.aload_n 0, 1) := zdX2_readNumber_57.2.2.2.2.2.2.2.2.2.2.2.2.1
theorem dX2_readNumber_80 : decode cX2_readNumber 80 = .ok (.getfield 22, 3) := zdX2_readNumber_57.2.2.2.2.2.2.2.2.2.2.2.2.2.1
theorem dX2_readNumber_83 : decode cX2_readNumber 83 = .ok (.invokevirtual 50, 3) := zdX2_readNumber_57.2.2.2.2.2.2.2.2.2.2.2.2.2.2.1
theorem dX2_readNumber_86 : decode cX2_readNumber 86 = .ok (.ireturn, 1) := zdX2_readNumber_57.2.2.2.2.2.2.2.2.2.2.2.2.2.2.2.1
theorem dX2_readNumber_87 : decode cX2_readNumber 87 = .ok (.aload_n 0, 1) := zdX2_readNumber_57.2.2.2.2.2.2.2.2.2.2.2.2.2.2.2.2.1
theorem dX2_readNumber_88 : decode cX2_readNumber 88 = .ok (.getfield 12, 3) := zdX2_readNumber_57.2.2.2.2.2.2.2.2.2.2.2.2.2.2.2.2.2.1
theorem dX2_readNumber_91 : decode cX2_readNumber 91 = .ok (.iload_n 3, 1) := zdX2_readNumber_57.2.2.2.2.2.2.2.2.2.2.2.2.2.2.2.2.2.2.1
theorem dX2_readNumber_92 : decode cX2_readNumber 92 = .ok (.invokevirtual 40, 3) := zdX2_readNumber_57.2.2.2.2.2.2.2.2.2.2.2.2.2.2.2.2.2.2.2.1
theorem dX2_readNumber_95 : decode cX2_readNumber 95 = .ok (.bipush 48, 2) := zdX2_readNumber_57.2.2.2.2.2.2.2.2.2.2.2.2.2.2.2.2.2.2.2.2.1
theorem dX2_readNumber_97 : decode cX2_readNumber 97 = .ok (.if_icmp .ne 17, 3) := zdX2_readNumber_57.2.2.2.2.2.2.2.2.2.2.2.2.2.2.2.2.2.2.2.2.2.1
theorem dX2_readNumber_100 : decode cX2_readNumber 100 = .ok (.aload_n 0, 1) := zdX2_readNumber_57.2.2.2.2.2.2.2.2.2.2.2.2.2.2.2.2.2.2.2.2.2.2.1
theorem dX2_readNumber_101 : decode cX2_readNumber 101 = .ok (.getfield 22, 3) := zdX2_readNumber_57.2.2.2.2.2.2.2.2.2.2.2.2.2.2.2.2.2.2.2.2.2.2.2.1
theorem dX2_readNumber_104 : decode cX2_readNumber 104 = .ok (.iload_n 3, 1) := zdX2_readNumber_57.2.2.2.2.2.2.2.2.2.2.2.2.2.2.2.2.2.2.2.2.2.2.2.2.1
theorem dX2_readNumber_105 : decode cX2_readNumber 105 = .ok (.isub, 1) := zdX2_readNumber_57.2.2.2.2.2.2.2.2.2.2.2.2.2.2.2.2.2.2.2.2.2.2.2.2.2.1
theorem dX2_readNumber_106 : decode cX2_readNumber 106 = .ok (.iconst 1, 1) := zdX2_readNumber_57.2.2.2.2.2.2.2.2.2.2.2.2.2.2.2.2.2.2.2.2.2.2.2.2.2.2.1
theorem dX2_readNumber_107 : decode cX2_readNumber 107 = .ok (.if_icmp .le 7, 3) := zdX2_readNumber_57.2.2.2.2.2.2.2.2.2.2.2.2.2.2.2.2.2.2.2.2.2.2.2.2.2.2.2.1
theorem dX2_readNumber_110 : decode cX2_readNumber 110 = .ok (.iconst 1, 1) := zdX2_readNumber_57.2.2.2.2.2.2.2.2.2.2.2.2.2.2.2.2.2.2.2.2.2.2.2.2.2.2.2.2.1
theorem dX2_readNumber_111 : decode cX2_readNumber 111 = .ok (.goto 4, 3) := zdX2_readNumber_57.2.2.2.2.2.2.2.2.2.2.2.2.2.2.2.2.2.2.2.2.2.2.2.2.2.2.2.2.2.1
set_option maxRecDepth 20000 in
theorem zdX2_readNumber_114 : dAll cX2_readNumber [(114, .iconst 0, 1), (115, .istore 5, 2), (117, .iload 5, 2), (119, .ifCond .ne 15, 3), (122, .iload 4, 2), (124, .iload_n 1, 1), (125, .if_icmp .lt 9, 3), (128, .iload 4, 2), (130, .iload_n 2, 1), (131, .if_icmp .le 14, 3), (134, .aload_n 0, 1), (135, .aload_n 0, 1), (136, .getfield 22, 3), (139, .iconst 1, 1), (140, .isub, 1), (141, .invokevirtual 50, 3), (144, .ireturn, 1), (145, .aload_n 0, 1), (146, .iload 4, 2), (148, .putfield 70, 3), (151, .iconst 1, 1), (152, .ireturn, 1)] := dAll_of (by decide +kernel)
theorem dX2_readNumber_114 : decode cX2_readNumber 114 = .ok (.iconst 0, 1) := zdX2_readNumber_114.1
theorem dX2_readNumber_115 : decode cX2_readNumber 115 = .ok (.istore 5, 2) := zdX2_readNumber_114.2.1
theorem dX2_readNumber_117 : decode cX2_readNumber 117 = .ok (.iload 5, 2) := zdX2_readNumber_114.2.2.1
theorem dX2_readNumber_119 : decode cX2_readNumber 119 = .ok (.ifCond .ne 15, 3) := zdX2_readNumber_114.2.2.2.1
theorem dX2_readNumber_122 : decode cX2_readNumber 122 = .ok (.iload 4, 2) := zdX2_readNumber_114.2.2.2.2.1
theorem dX2_readNumber_124 : decode cX2_readNumber 124 = .ok (.iload_n 1, 1) := zdX2_readNumber_114.2.2.2.2.2.1
theorem dX2_readNumber_125 : decode cX2_readNumber 125 = .ok (.if_icmp .lt 9, 3) := zdX2_readNumber_114.2.2.2.2.2.2.1
theorem dX2_readNumber_128 : decode cX2_readNumber 128 = .ok (.iload 4, 2) := zdX2_readNumber_114.2.2.2.2.2.2.2.1
theorem dX2_readNumber_130 : decode cX2_readNumber 130 = .ok (.iload_n 2, 1) := zdX2_readNumber_114.2.2.2.2.2.2.2.2.1
theorem dX2_readNumber_131 : decode cX2_readNumber 131 = .ok (.if_icmp .le 14, 3) := zdX2_readNumber_114.2.2.2.2.2.2.2.2.2.1
theorem dX2_readNumber_134 : decode cX2_readNumber 134 = .ok (.aload_n 0, 1) := zdX2_readNumber_114.2.2.2.2.2.2.2.2.2.2.1
theorem dX2_readNumber_135 : decode cX2_readNumber 135 = .ok (.aload_n 0, 1) := zdX2_readNumber_114.2.2.2.2.2.2.2.2.2.2.2.1
theorem dX2_readNumber_136 : decode cX2_readNumber 136 = .ok (.getfield 22, 3) := zdX2_readNumber_114.2.2.2.2.2.2.2.2.2.2.2.2.1
theorem dX2_readNumber_139 : decode cX2_readNumber 139 = .ok (.iconst 1, 1) := zdX2_readNumber_114.2.2.2.2.2.2.2.2.2.2.2.2.2.1
theorem dX2_readNumber_140 : decode cX2_readNumber 140 = .ok (.isub, 1) := zdX2_readNumber_114.2.2.2.2.2.2.2.2.2.2.2.2.2.2.1
theorem dX2_readNumber_141 : decode cX2_readNumber 141 = .ok (.invokevirtual 50, 3) := zdX2_readNumber_114.2.2.2.2.2.2.2.2.2.2.2.2.2.2.2.1
theorem dX2_readNumber_144 : decode cX2_readNumber 144 = .ok (.ireturn, 1) := zdX2_readNumber_114.2.2.2.2.2.2.2.2.2.2.2.2.2.2.2.2.1
theorem dX2_readNumber_145 : decode cX2_readNumber 145 = .ok (.aload_n 0, 1) := zdX2_readNumber_114.2.2.2.2.2.2.2.2.2.2.2.2.2.2.2.2.2.1
theorem dX2_readNumber_146 : decode cX2_readNumber 146 = .ok (.iload 4, 2) := zdX2_readNumber_114.2.2.2.2.2.2.2.2.2.2.2.2.2.2.2.2.2.2.1
theorem dX2_readNumber_148 : decode cX2_readNumber 148 = .ok (.putfield 70, 3) := zdX2_readNumber_114.2.2.2.2.2.2.2.2.2.2.2.2.2.2.2.2.2.2.2.1
theorem dX2_readNumber_151 : decode cX2_readNumber 151 = .ok (.iconst 1, 1) := zdX2_readNumber_114.2.2.2.2.2.2.2.2.2.2.2.2.2.2.2.2.2.2.2.2.1
theorem dX2_readNumber_152 : decode cX2_readNumber 152 = .ok (.ireturn, 1) := zdX2_readNumber_114.2.2.2.2.2.2.2.2.2.2.2.2.2.2.2.2.2.2.2.2.2.1
set_option maxRecDepth 20000 in
theorem zdX2_isDigit_0 : dAll cX2_isDigit [(0, .iload_n 0, 1), (1, .bipush 48, 2), (3, .if_icmp .lt 13, 3), (6, .iload_n 0, 1), (7, .bipush 57, 2), (9, .if_icmp .gt 7, 3), (12, .iconst 1, 1), (13, .goto 4, 3), (16, .iconst 0, 1), (17, .ireturn, 1)] := dAll_of (by decide +kernel)
theorem dX2_isDigit_0 : decode cX2_isDigit 0 = .ok (.iload_n 0, 1) := zdX2_isDigit_0.1
theorem dX2_isDigit_1 : decode cX2_isDigit 1 = .ok (.bipush 48, 2) := zdX2_isDigit_0.2.1
theorem dX2_isDigit_3 : decode cX2_isDigit 3 = .ok (.if_icmp .lt 13, 3) := zdX2_isDigit_0.2.2.1
theorem dX2_isDigit_6 : decode cX2_isDigit 6 = .ok (.iload_n 0, 1) := zdX2_isDigit_0.2.2.2.1
theorem dX2_isDigit_7 : decode cX2_isDigit 7 = .ok (.bipush 57, 2) := zdX2_isDigit_0.2.2.2.2.1
theorem dX2_isDigit_9 : decode cX2_isDigit 9 = .ok (.if_icmp .gt 7, 3) := zdX2_isDigit_0.2.2.2.2.2.1
theorem dX2_isDigit_12 : decode cX2_isDigit 12 = .ok (.iconst 1, 1) := zdX2_isDigit_0.2.2.2.2.2.2.1
theorem dX2_isDigit_13 : decode cX2_isDigit 13 = .ok (.goto 4, 3) := zdX2_isDigit_0.2.2.2.2.2.2.2.1
theorem dX2_isDigit_16 : decode cX2_isDigit 16 = .ok (.iconst 0, 1) := zdX2_isDigit_0.2.2.2.2.2.2.2.2.1
theorem dX2_isDigit_17 : decode cX2_isDigit 17 = .ok (.ireturn, 1) := zdX2_isDigit_0.2.2.2.2.2.2.2.2.2.1
set_option maxRecDepth 20000 in
theorem zdX2_wrongAt_0 : dAll cX2_wrongAt [(0, .aload_n 0, 1), (1, .iload_n 1, 1), (2, .putfield 29, 3), (5, .iconst 0, 1), (6, .ireturn, 1)] := dAll_of (by decide +kernel)
theorem dX2_wrongAt_0 : decode cX2_wrongAt 0 = .ok (.aload_n 0, 1) := zdX2_wrongAt_0.1
theorem dX2_wrongAt_1 : decode cX2_wrongAt 1 = .ok (.iload_n 1, 1) := zdX2_wrongAt_0.2.1
theorem dX2_wrongAt_2 : decode cX2_wrongAt 2 = .ok (.putfield 29, 3) := zdX2_wrongAt_0.2.2.1
theorem dX2_wrongAt_5 : decode cX2_wrongAt 5 = .ok (.iconst 0, 1) := zdX2_wrongAt_0.2.2.2.1
theorem dX2_wrongAt_6 : decode cX2_wrongAt 6 = .ok (.ireturn, 1) := zdX2_wrongAt_0.2.2.2.2.1
set_option maxRecDepth 20000 in
theorem zdX3_init_0 : dAll cX3_init [(0, .aload_n 0, 1), (1, .invokespecial 3, 3), (4, .aload_n 0, 1), (5, .bipush 21, 2), (7, .newarray .int, 2), (9, .putfield 9, 3), (12, .aload_n 0, 1), (13, .bipush 21, 2), (15, .newarray .int, 2), (17, .putfield 15, 3), (20, .return_, 1)] := dAll_of (by decide +kernel)
theorem dX3_init_0 : decode cX3_init 0 = .ok (.aload_n 0, 1) := zdX3_init_0.1
theorem dX3_init_1 : decode cX3_init 1 = .ok (.invokespecial 3, 3) := zdX3_init_0.2.1
theorem dX3_init_4 : decode cX3_init 4 = .ok (.aload_n 0, 1) := zdX3_init_0.2.2.1
theorem dX3_init_5 : decode cX3_init 5 = .ok (.bipush 21, 2) := zdX3_init_0.2.2.2.1
theorem dX3_init_7 : decode cX3_init 7 = .ok (.newarray .int, 2) := zdX3_init_0.2.2.2.2.1
theorem dX3_init_9 : decode cX3_init 9 = .ok (.putfield 9, 3) := zdX3_init_0.2.2.2.2.2.1
theorem dX3_init_12 : decode cX3_init 12 = .ok (.aload_n 0, 1) := zdX3_init_0.2.2.2.2.2.2.1
theorem dX3_init_13 : decode cX3_init 13 = .ok (.bipush 21, 2) := zdX3_init_0.2.2.2.2.2.2.2.1
theorem dX3_init_15 : decode cX3_init 15 = .ok (.newarray .int, 2) := zdX3_init_0.2.2.2.2.2.2.2.2.1
theorem dX3_init_17 : decode cX3_init 17 = .ok (.putfield 15, 3) := zdX3_init_0.2.2.2.2.2.2.2.2.2.1
theorem dX3_init_20 : decode cX3_init 20 = .ok (.return_, 1) := zdX3_init_0.2.2.2.2.2.2.2.2.2.2.1
set_option maxRecDepth 20000 in
theorem ggX3_measureFrom_X5_isThere : GoodIn wsX3_measureFrom wsX5_isThere := goodIn_r _ [7, 8, 9, 10, 11, 36, 37, 38, 39, 40, 41, 42, 43] rfl (by decide +kernel)
set_option maxRecDepth 20000 in
theorem gX3_measureFrom_X5_isThere : GoodIn wsX3_measureFrom (wsV RX3 19 RX5 yX5_isThere wsX5_isThere) := goodIn_app (goodIn_of _ (by decide +kernel)) ggX3_measureFrom_X5_isThere
set_option maxRecDepth 20000 in
theorem ggX3_measureFrom_X5_cornerOf : GoodIn wsX3_measureFrom wsX5_cornerOf := goodIn_r _ [15, 16, 9, 10, 11, 36, 37, 38, 39, 40, 41, 42, 43] rfl (by decide +kernel)
set_option maxRecDepth 20000 in
theorem gX3_measureFrom_X5_cornerOf : GoodIn wsX3_measureFrom (wsV RX3 25 RX5 yX5_cornerOf wsX5_cornerOf) := goodIn_app (goodIn_of _ (by decide +kernel)) ggX3_measureFrom_X5_cornerOf
set_option maxRecDepth 20000 in
theorem ggX3_measureFrom_X5_secondOf : GoodIn wsX3_measureFrom wsX5_secondOf := goodIn_r _ [20, 21, 9, 10, 11, 36, 37, 38, 39, 40, 41, 42, 43] rfl (by decide +kernel)
set_option maxRecDepth 20000 in
theorem gX3_measureFrom_X5_secondOf : GoodIn wsX3_measureFrom (wsV RX3 29 RX5 yX5_secondOf wsX5_secondOf) := goodIn_app (goodIn_of _ (by decide +kernel)) ggX3_measureFrom_X5_secondOf
set_option maxRecDepth 20000 in
theorem ggX3_measureFrom_X5_thirdOf : GoodIn wsX3_measureFrom wsX5_thirdOf := goodIn_r _ [25, 26, 9, 10, 11, 36, 37, 38, 39, 40, 41, 42, 43] rfl (by decide +kernel)
set_option maxRecDepth 20000 in
theorem gX3_measureFrom_X5_thirdOf : GoodIn wsX3_measureFrom (wsV RX3 32 RX5 yX5_thirdOf wsX5_thirdOf) := goodIn_app (goodIn_of _ (by decide +kernel)) ggX3_measureFrom_X5_thirdOf
set_option maxRecDepth 20000 in
theorem ggX3_measureFrom_X3_shorten : GoodIn wsX3_measureFrom wsX3_shorten := goodIn_r _ [31, 1, 32, 10, 33, 34, 35] rfl (by decide +kernel)
set_option maxRecDepth 20000 in
theorem gX3_measureFrom_X3_shorten : GoodIn wsX3_measureFrom (wsV RX3 35 RX3 yX3_shorten wsX3_shorten) := goodIn_app (goodIn_of _ (by decide +kernel)) ggX3_measureFrom_X3_shorten
set_option maxRecDepth 20000 in
theorem zdX3_measureFrom_0 : dAll cX3_measureFrom [(0, .iconst 0, 1), (1, .istore_n 3, 1), (2, .iload_n 3, 1), (3, .bipush 21, 2), (5, .if_icmp .ge 26, 3), (8, .aload_n 0, 1), (9, .getfield 9, 3), (12, .iload_n 3, 1), (13, .iload_n 3, 1), (14, .iload_n 2, 1), (15, .if_icmp .ne 7, 3), (18, .iconst 0, 1), (19, .goto 5, 3), (22, .ldc 18, 2), (24, .iastore, 1), (25, .iinc 3 1, 3), (28, .goto (-26), 3), (31, .iconst 1, 1), (32, .istore_n 3, 1), (33, .iconst 0, 1), (34, .istore 4, 2), (36, .iload 4, 2), (38, .bipush 21, 2), (40, .if_icmp .ge 108, 3), (43, .iload_n 3, 1), (44, .ifCond .eq 104, 3), (47, .iconst 0, 1), (48, .istore_n 3, 1), (49, .iconst 0, 1), (50, .istore 5, 2)] := dAll_of (by decide +kernel)
theorem dX3_measureFrom_0 : decode cX3_measureFrom 0 = .ok (.iconst 0, 1) := zdX3_measureFrom_0.1
theorem dX3_measureFrom_1 : decode cX3_measureFrom 1 = .ok (.istore_n 3, 1) := zdX3_measureFrom_0.2.1
theorem dX3_measureFrom_2 : decode cX3_measureFrom 2 = .ok (.iload_n 3, 1) := zdX3_measureFrom_0.2.2.1
theorem dX3_measureFrom_3 : decode cX3_measureFrom 3 = .ok (.bipush 21, 2) := zdX3_measureFrom_0.2.2.2.1
theorem dX3_measureFrom_5 : decode cX3_measureFrom 5 = .ok (.if_icmp .ge 26, 3) := zdX3_measureFrom_0.2.2.2.2.1
theorem dX3_measureFrom_8 : decode cX3_measureFrom 8 = .ok (.aload_n 0, 1) := zdX3_measureFrom_0.2.2.2.2.2.1
theorem dX3_measureFrom_9 : decode cX3_measureFrom 9 = .ok (.getfield 9, 3) := zdX3_measureFrom_0.2.2.2.2.2.2.1
theorem dX3_measureFrom_12 : decode cX3_measureFrom 12 = .ok (.iload_n 3, 1) := zdX3_measureFrom_0.2.2.2.2.2.2.2.1
theorem dX3_measureFrom_13 : decode cX3_measureFrom 13 = .ok (.iload_n 3, 1) := zdX3_measureFrom_0.2.2.2.2.2.2.2.2.1
theorem dX3_measureFrom_14 : decode cX3_measureFrom 14 = .ok (.iload_n 2, 1) := zdX3_measureFrom_0.2.2.2.2.2.2.2.2.2.1
theorem dX3_measureFrom_15 : decode cX3_measureFrom 15 = .ok (.if_icmp .ne 7, 3) := zdX3_measureFrom_0.2.2.2.2.2.2.2.2.2.2.1
theorem dX3_measureFrom_18 : decode cX3_measureFrom 18 = .ok (.iconst 0, 1) := zdX3_measureFrom_0.2.2.2.2.2.2.2.2.2.2.2.1
theorem dX3_measureFrom_19 : decode cX3_measureFrom 19 = .ok (.goto 5, 3) := zdX3_measureFrom_0.2.2.2.2.2.2.2.2.2.2.2.2.1
theorem dX3_measureFrom_22 : decode cX3_measureFrom 22 = .ok (.ldc 18, 2) := zdX3_measureFrom_0.2.2.2.2.2.2.2.2.2.2.2.2.2.1
theorem dX3_measureFrom_24 : decode cX3_measureFrom 24 = .ok (.iastore, 1) := zdX3_measureFrom_0.2.2.2.2.2.2.2.2.2.2.2.2.2.2.1
theorem dX3_measureFrom_25 : decode cX3_measureFrom 25 = .ok (.iinc 3 1, 3) := zdX3_measureFrom_0.2.2.2.2.2.2.2.2.2.2.2.2.2.2.2.1
theorem dX3_measureFrom_28 : decode cX3_measureFrom 28 = .ok (.goto (-26), 3) := zdX3_measureFrom_0.2.2.2.2.2.2.2.2.2.2.2.2.2.2.2.2.1
theorem dX3_measureFrom_31 : decode cX3_measureFrom 31 = .ok (.iconst 1, 1) := zdX3_measureFrom_0.2.2.2.2.2.2.2.2.2.2.2.2.2.2.2.2.2.1
theorem dX3_measureFrom_32 : decode cX3_measureFrom 32 = .ok (.istore_n 3, 1) := zdX3_measureFrom_0.2.2.2.2.2.2.2.2.2.2.2.2.2.2.2.2.2.2.1
theorem dX3_measureFrom_33 : decode cX3_measureFrom 33 = .ok (.iconst 0, 1) := zdX3_measureFrom_0.2.2.2.2.2.2.2.2.2.2.2.2.2.2.2.2.2.2.2.1
theorem dX3_measureFrom_34 : decode cX3_measureFrom 34 = .ok (.istore 4, 2) := zdX3_measureFrom_0.2.2.2.2.2.2.2.2.2.2.2.2.2.2.2.2.2.2.2.2.1
theorem dX3_measureFrom_36 : decode cX3_measureFrom 36 = .ok (.iload 4, 2) := zdX3_measureFrom_0.2.2.2.2.2.2.2.2.2.2.2.2.2.2.2.2.2.2.2.2.2.1
theorem dX3_measureFrom_38 : decode cX3_measureFrom 38 = .ok (.bipush 21, 2) := zdX3_measureFrom_0.2.2.2.2.2.2.2.2.2.2.2.2.2.2.2.2.2.2.2.2.2.2.1
theorem dX3_measureFrom_40 : decode cX3_measureFrom 40 = .ok (.if_icmp .ge 108, 3) := zdX3_measureFrom_0.2.2.2.2.2.2.2.2.2.2.2.2.2.2.2.2.2.2.2.2.2.2.2.1
theorem dX3_measureFrom_43 : decode cX3_measureFrom 43 = .ok (.iload_n 3, 1) := zdX3_measureFrom_0.2.2.2.2.2.2.2.2.2.2.2.2.2.2.2.2.2.2.2.2.2.2.2.2.1
theorem dX3_measureFrom_44 : decode cX3_measureFrom 44 = .ok (.ifCond .eq 104, 3) := zdX3_measureFrom_0.2.2.2.2.2.2.2.2.2.2.2.2.2.2.2.2.2.2.2.2.2.2.2.2.2.1
theorem dX3_measureFrom_47 : decode cX3_measureFrom 47 = .ok (.iconst 0, 1) := zdX3_measureFrom_0.2.2.2.2.2.2.2.2.2.2.2.2.2.2.2.2.2.2.2.2.2.2.2.2.2.2.1
theorem dX3_measureFrom_48 : decode cX3_measureFrom 48 = .ok (.istore_n 3, 1) := zdX3_measureFrom_0.2.2.2.2.2.2.2.2.2.2.2.2.2.2.2.2.2.2.2.2.2.2.2.2.2.2.2.1
theorem dX3_measureFrom_49 : decode cX3_measureFrom 49 = .ok (.iconst 0, 1) := zdX3_measureFrom_0.2.2.2.2.2.2.2.2.2.2.2.2.2.2.2.2.2.2.2.2.2.2.2.2.2.2.2.2.1
theorem dX3_measureFrom_50 : decode cX3_measureFrom 50 = .ok (.istore 5, 2) := zdX3_measureFrom_0.2.2.2.2.2.2.2.2.2.2.2.2.2.2.2.2.2.2.2.2.2.2.2.2.2.2.2.2.2.1
set_option maxRecDepth 20000 in
theorem zdX3_measureFrom_52 : dAll cX3_measureFrom [(52, .iload 5, 2), (54, .bipush 30, 2), (56, .if_icmp .ge 86, 3), (59, .aload_n 1, 1), (60, .iload 5, 2), (62, .invokevirtual 19, 3), (65, .ifCond .eq 71, 3), (68, .aload_n 0, 1), (69, .aload_n 1, 1), (70, .iload 5, 2), (72, .invokevirtual 25, 3), (75, .aload_n 1, 1), (76, .iload 5, 2), (78, .invokevirtual 29, 3), (81, .aload_n 1, 1), (82, .iload 5, 2), (84, .invokevirtual 32, 3), (87, .invokevirtual 35, 3), (90, .istore 6, 2), (92, .aload_n 0, 1), (93, .aload_n 1, 1), (94, .iload 5, 2), (96, .invokevirtual 29, 3), (99, .aload_n 1, 1), (100, .iload 5, 2), (102, .invokevirtual 25, 3), (105, .aload_n 1, 1), (106, .iload 5, 2), (108, .invokevirtual 32, 3), (111, .invokevirtual 35, 3)] := dAll_of (by decide +kernel)
theorem dX3_measureFrom_52 : decode cX3_measureFrom 52 = .ok (.iload 5, 2) := zdX3_measureFrom_52.1
theorem dX3_measureFrom_54 : decode cX3_measureFrom 54 = .ok (.bipush 30, 2) := zdX3_measureFrom_52.2.1
theorem dX3_measureFrom_56 : decode cX3_measureFrom 56 = .ok (.if_icmp .ge 86, 3) := zdX3_measureFrom_52.2.2.1
theorem dX3_measureFrom_59 : decode cX3_measureFrom 59 = .ok (.aload_n 1, 1) := zdX3_measureFrom_52.2.2.2.1
theorem dX3_measureFrom_60 : decode cX3_measureFrom 60 = .ok (.iload 5, 2) := zdX3_measureFrom_52.2.2.2.2.1
theorem dX3_measureFrom_62 : decode cX3_measureFrom 62 = .ok (.invokevirtual 19, 3) := zdX3_measureFrom_52.2.2.2.2.2.1
theorem dX3_measureFrom_65 : decode cX3_measureFrom 65 = .ok (.ifCond .eq 71, 3) := zdX3_measureFrom_52.2.2.2.2.2.2.1
theorem dX3_measureFrom_68 : decode cX3_measureFrom 68 = .ok (.aload_n 0, 1) := zdX3_measureFrom_52.2.2.2.2.2.2.2.1
theorem dX3_measureFrom_69 : decode cX3_measureFrom 69 = .ok (.aload_n 1, 1) := zdX3_measureFrom_52.2.2.2.2.2.2.2.2.1
theorem dX3_measureFrom_70 : decode cX3_measureFrom 70 = .ok (.iload 5, 2) := zdX3_measureFrom_52.2.2.2.2.2.2.2.2.2.1
theorem dX3_measureFrom_72 : decode cX3_measureFrom 72 = .ok (.invokevirtual 25, 3) := zdX3_measureFrom_52.2.2.2.2.2.2.2.2.2.2.1
theorem dX3_measureFrom_75 : decode cX3_measureFrom 75 = .ok (.aload_n 1, 1) := zdX3_measureFrom_52.2.2.2.2.2.2.2.2.2.2.2.1
theorem dX3_measureFrom_76 : decode cX3_measureFrom 76 = .ok (.iload 5, 2) := zdX3_measureFrom_52.2.2.2.2.2.2.2.2.2.2.2.2.1
theorem dX3_measureFrom_78 : decode cX3_measureFrom 78 = .ok (.invokevirtual 29, 3) := zdX3_measureFrom_52.2.2.2.2.2.2.2.2.2.2.2.2.2.1
theorem dX3_measureFrom_81 : decode cX3_measureFrom 81 = .ok (.aload_n 1, 1) := zdX3_measureFrom_52.2.2.2.2.2.2.2.2.2.2.2.2.2.2.1
theorem dX3_measureFrom_82 : decode cX3_measureFrom 82 = .ok (.iload 5, 2) := zdX3_measureFrom_52.2.2.2.2.2.2.2.2.2.2.2.2.2.2.2.1
theorem dX3_measureFrom_84 : decode cX3_measureFrom 84 = .ok (.invokevirtual 32, 3) := zdX3_measureFrom_52.2.2.2.2.2.2.2.2.2.2.2.2.2.2.2.2.1
theorem dX3_measureFrom_87 : decode cX3_measureFrom 87 = .ok (.invokevirtual 35, 3) := zdX3_measureFrom_52.2.2.2.2.2.2.2.2.2.2.2.2.2.2.2.2.2.1
theorem dX3_measureFrom_90 : decode cX3_measureFrom 90 = .ok (.istore 6, 2) := zdX3_measureFrom_52.2.2.2.2.2.2.2.2.2.2.2.2.2.2.2.2.2.2.1
theorem dX3_measureFrom_92 : decode cX3_measureFrom 92 = .ok (.aload_n 0, 1) := zdX3_measureFrom_52.2.2.2.2.2.2.2.2.2.2.2.2.2.2.2.2.2.2.2.1
theorem dX3_measureFrom_93 : decode cX3_measureFrom 93 = .ok (.aload_n 1, 1) := zdX3_measureFrom_52.2.2.2.2.2.2.2.2.2.2.2.2.2.2.2.2.2.2.2.2.1
theorem dX3_measureFrom_94 : decode cX3_measureFrom 94 = .ok (.iload 5, 2) := zdX3_measureFrom_52.2.2.2.2.2.2.2.2.2.2.2.2.2.2.2.2.2.2.2.2.2.1
theorem dX3_measureFrom_96 : decode cX3_measureFrom 96 = .ok (.invokevirtual 29, 3) := zdX3_measureFrom_52.2.2.2.2.2.2.2.2.2.2.2.2.2.2.2.2.2.2.2.2.2.2.1
theorem dX3_measureFrom_99 : decode cX3_measureFrom 99 = .ok (.aload_n 1, 1) := zdX3_measureFrom_52.2.2.2.2.2.2.2.2.2.2.2.2.2.2.2.2.2.2.2.2.2.2.2.1
theorem dX3_measureFrom_100 : decode cX3_measureFrom 100 = .ok (.iload 5, 2) := zdX3_measureFrom_52.2.2.2.2.2.2.2.2.2.2.2.2.2.2.2.2.2.2.2.2.2.2.2.2.1
theorem dX3_measureFrom_102 : decode cX3_measureFrom 102 = .ok (.invokevirtual 25, 3) := zdX3_measureFrom_52.2.2.2.2.2.2.2.2.2.2.2.2.2.2.2.2.2.2.2.2.2.2.2.2.2.1
theorem dX3_measureFrom_105 : decode cX3_measureFrom 105 = .ok (.aload_n 1, 1) := zdX3_measureFrom_52.2.2.2.2.2.2.2.2.2.2.2.2.2.2.2.2.2.2.2.2.2.2.2.2.2.2.1
theorem dX3_measureFrom_106 : decode cX3_measureFrom 106 = .ok (.iload 5, 2) := zdX3_measureFrom_52.2.2.2.2.2.2.2.2.2.2.2.2.2.2.2.2.2.2.2.2.2.2.2.2.2.2.2.1
theorem dX3_measureFrom_108 : decode cX3_measureFrom 108 = .ok (.invokevirtual 32, 3) := zdX3_measureFrom_52.2.2.2.2.2.2.2.2.2.2.2.2.2.2.2.2.2.2.2.2.2.2.2.2.2.2.2.2.1
theorem dX3_measureFrom_111 : decode cX3_measureFrom 111 = .ok (.invokevirtual 35, 3) := zdX3_measureFrom_52.2.2.2.2.2.2.2.2.2.2.2.2.2.2.2.2.2.2.2.2.2.2.2.2.2.2.2.2.2.1
set_option maxRecDepth 20000 in
theorem zdX3_measureFrom_114 : dAll cX3_measureFrom [(114, .istore 7, 2), (116, .iload_n 3, 1), (117, .ifCond .ne 13, 3), (120, .iload 6, 2), (122, .ifCond .ne 8, 3), (125, .iload 7, 2), (127, .ifCond .eq 7, 3), (130, .iconst 1, 1), (131, .goto 4, 3), (134, .iconst 0, 1), (135, .istore_n 3, 1), (136, .iinc 5 1, 3), (139, .goto (-87), 3), (142, .iinc 4 1, 3), (145, .goto (-109), 3), (148, .return_, 1)] := dAll_of (by decide +kernel)
theorem dX3_measureFrom_114 : decode cX3_measureFrom 114 = .ok (.istore 7, 2) := zdX3_measureFrom_114.1
theorem dX3_measureFrom_116 : decode cX3_measureFrom 116 = .ok (.iload_n 3, 1) := zdX3_measureFrom_114.2.1
theorem dX3_measureFrom_117 : decode cX3_measureFrom 117 = .ok (.ifCond .ne 13, 3) := zdX3_measureFrom_114.2.2.1
theorem dX3_measureFrom_120 : decode cX3_measureFrom 120 = .ok (.iload 6, 2) := zdX3_measureFrom_114.2.2.2.1
theorem dX3_measureFrom_122 : decode cX3_measureFrom 122 = .ok (.ifCond .ne 8, 3) := zdX3_measureFrom_114.2.2.2.2.1
theorem dX3_measureFrom_125 : decode cX3_measureFrom 125 = .ok (.iload 7, 2) := zdX3_measureFrom_114.2.2.2.2.2.1
theorem dX3_measureFrom_127 : decode cX3_measureFrom 127 = .ok (.ifCond .eq 7, 3) := zdX3_measureFrom_114.2.2.2.2.2.2.1
theorem dX3_measureFrom_130 : decode cX3_measureFrom 130 = .ok (.iconst 1, 1) := zdX3_measureFrom_114.2.2.2.2.2.2.2.1
theorem dX3_measureFrom_131 : decode cX3_measureFrom 131 = .ok (.goto 4, 3) := zdX3_measureFrom_114.2.2.2.2.2.2.2.2.1
theorem dX3_measureFrom_134 : decode cX3_measureFrom 134 = .ok (.iconst 0, 1) := zdX3_measureFrom_114.2.2.2.2.2.2.2.2.2.1
theorem dX3_measureFrom_135 : decode cX3_measureFrom 135 = .ok (.istore_n 3, 1) := zdX3_measureFrom_114.2.2.2.2.2.2.2.2.2.2.1
theorem dX3_measureFrom_136 : decode cX3_measureFrom 136 = .ok (.iinc 5 1, 3) := zdX3_measureFrom_114.2.2.2.2.2.2.2.2.2.2.2.1
theorem dX3_measureFrom_139 : decode cX3_measureFrom 139 = .ok (.goto (-87), 3) := zdX3_measureFrom_114.2.2.2.2.2.2.2.2.2.2.2.2.1
theorem dX3_measureFrom_142 : decode cX3_measureFrom 142 = .ok (.iinc 4 1, 3) := zdX3_measureFrom_114.2.2.2.2.2.2.2.2.2.2.2.2.2.1
theorem dX3_measureFrom_145 : decode cX3_measureFrom 145 = .ok (.goto (-109), 3) := zdX3_measureFrom_114.2.2.2.2.2.2.2.2.2.2.2.2.2.2.1
theorem dX3_measureFrom_148 : decode cX3_measureFrom 148 = .ok (.return_, 1) := zdX3_measureFrom_114.2.2.2.2.2.2.2.2.2.2.2.2.2.2.2.1
set_option maxRecDepth 20000 in
theorem ggX3_shorten_X6_isCorner : GoodIn wsX3_shorten wsX6_isCorner := goodIn_r _ [4] rfl (by decide +kernel)
set_option maxRecDepth 20000 in
theorem gX3_shorten_X6_isCorner_n39 : GoodIn wsX3_shorten (wsX6_isCorner) := ggX3_shorten_X6_isCorner
set_option maxRecDepth 20000 in
theorem zdX3_shorten_0 : dAll cX3_shorten [(0, .iload_n 1, 1), (1, .invokestatic 39, 3), (4, .ifCond .eq 27, 3), (7, .iload_n 2, 1), (8, .invokestatic 39, 3), (11, .ifCond .eq 20, 3), (14, .aload_n 0, 1), (15, .getfield 9, 3), (18, .iload_n 1, 1), (19, .iaload, 1), (20, .iload_n 3, 1), (21, .iadd, 1), (22, .aload_n 0, 1), (23, .getfield 9, 3), (26, .iload_n 2, 1), (27, .iaload, 1), (28, .if_icmp .lt 5, 3), (31, .iconst 0, 1), (32, .ireturn, 1), (33, .aload_n 0, 1), (34, .getfield 9, 3), (37, .iload_n 2, 1), (38, .aload_n 0, 1), (39, .getfield 9, 3), (42, .iload_n 1, 1), (43, .iaload, 1), (44, .iload_n 3, 1), (45, .iadd, 1), (46, .iastore, 1), (47, .iconst 1, 1)] := dAll_of (by decide +kernel)
theorem dX3_shorten_0 : decode cX3_shorten 0 = .ok (.iload_n 1, 1) := zdX3_shorten_0.1
theorem dX3_shorten_1 : decode cX3_shorten 1 = .ok (.invokestatic 39, 3) := zdX3_shorten_0.2.1
theorem dX3_shorten_4 : decode cX3_shorten 4 = .ok (.ifCond .eq 27, 3) := zdX3_shorten_0.2.2.1
theorem dX3_shorten_7 : decode cX3_shorten 7 = .ok (.iload_n 2, 1) := zdX3_shorten_0.2.2.2.1
theorem dX3_shorten_8 : decode cX3_shorten 8 = .ok (.invokestatic 39, 3) := zdX3_shorten_0.2.2.2.2.1
theorem dX3_shorten_11 : decode cX3_shorten 11 = .ok (.ifCond .eq 20, 3) := zdX3_shorten_0.2.2.2.2.2.1
theorem dX3_shorten_14 : decode cX3_shorten 14 = .ok (.aload_n 0, 1) := zdX3_shorten_0.2.2.2.2.2.2.1
theorem dX3_shorten_15 : decode cX3_shorten 15 = .ok (.getfield 9, 3) := zdX3_shorten_0.2.2.2.2.2.2.2.1
theorem dX3_shorten_18 : decode cX3_shorten 18 = .ok (.iload_n 1, 1) := zdX3_shorten_0.2.2.2.2.2.2.2.2.1
theorem dX3_shorten_19 : decode cX3_shorten 19 = .ok (.iaload, 1) := zdX3_shorten_0.2.2.2.2.2.2.2.2.2.1
theorem dX3_shorten_20 : decode cX3_shorten 20 = .ok (.iload_n 3, 1) := zdX3_shorten_0.2.2.2.2.2.2.2.2.2.2.1
theorem dX3_shorten_21 : decode cX3_shorten 21 = .ok (.iadd, 1) := zdX3_shorten_0.2.2.2.2.2.2.2.2.2.2.2.1
theorem dX3_shorten_22 : decode cX3_shorten 22 = .ok (.aload_n 0, 1) := zdX3_shorten_0.2.2.2.2.2.2.2.2.2.2.2.2.1
theorem dX3_shorten_23 : decode cX3_shorten 23 = .ok (.getfield 9, 3) := zdX3_shorten_0.2.2.2.2.2.2.2.2.2.2.2.2.2.1
theorem dX3_shorten_26 : decode cX3_shorten 26 = .ok (.iload_n 2, 1) := zdX3_shorten_0.2.2.2.2.2.2.2.2.2.2.2.2.2.2.1
theorem dX3_shorten_27 : decode cX3_shorten 27 = .ok (.iaload, 1) := zdX3_shorten_0.2.2.2.2.2.2.2.2.2.2.2.2.2.2.2.1
theorem dX3_shorten_28 : decode cX3_shorten 28 = .ok (.if_icmp .lt 5, 3) := zdX3_shorten_0.2.2.2.2.2.2.2.2.2.2.2.2.2.2.2.2.1
theorem dX3_shorten_31 : decode cX3_shorten 31 = .ok (.iconst 0, 1) := zdX3_shorten_0.2.2.2.2.2.2.2.2.2.2.2.2.2.2.2.2.2.1
theorem dX3_shorten_32 : decode cX3_shorten 32 = .ok (.ireturn, 1) := zdX3_shorten_0.2.2.2.2.2.2.2.2.2.2.2.2.2.2.2.2.2.2.1
theorem dX3_shorten_33 : decode cX3_shorten 33 = .ok (.aload_n 0, 1) := zdX3_shorten_0.2.2.2.2.2.2.2.2.2.2.2.2.2.2.2.2.2.2.2.1
theorem dX3_shorten_34 : decode cX3_shorten 34 = .ok (.getfield 9, 3) := zdX3_shorten_0.2.2.2.2.2.2.2.2.2.2.2.2.2.2.2.2.2.2.2.2.1
theorem dX3_shorten_37 : decode cX3_shorten 37 = .ok (.iload_n 2, 1) := zdX3_shorten_0.2.2.2.2.2.2.2.2.2.2.2.2.2.2.2.2.2.2.2.2.2.1
theorem dX3_shorten_38 : decode cX3_shorten 38 = .ok (.aload_n 0, 1) := zdX3_shorten_0.2.2.2.2.2.2.2.2.2.2.2.2.2.2.2.2.2.2.2.2.2.2.1
theorem dX3_shorten_39 : decode cX3_shorten 39 = .ok (.getfield 9, 3) := zdX3_shorten_0.2.2.2.2.2.2.2.2.2.2.2.2.2.2.2.2.2.2.2.2.2.2.2.1
theorem dX3_shorten_42 : decode cX3_shorten 42 = .ok (.iload_n 1, 1) := zdX3_shorten_0.2.2.2.2.2.2.2.2.2.2.2.2.2.2.2.2.2.2.2.2.2.2.2.2.1
theorem dX3_shorten_43 : decode cX3_shorten 43 = .ok (.iaload, 1) := zdX3_shorten_0.2.2.2.2.2.2.2.2.2.2.2.2.2.2.2.2.2.2.2.2.2.2.2.2.2.1
theorem dX3_shorten_44 : decode cX3_shorten 44 = .ok (.iload_n 3, 1) := zdX3_shorten_0.2.2.2.2.2.2.2.2.2.2.2.2.2.2.2.2.2.2.2.2.2.2.2.2.2.2.1
theorem dX3_shorten_45 : decode cX3_shorten 45 = .ok (.iadd, 1) := zdX3_shorten_0.2.2.2.2.2.2.2.2.2.2.2.2.2.2.2.2.2.2.2.2.2.2.2.2.2.2.2.1
theorem dX3_shorten_46 : decode cX3_shorten 46 = .ok (.iastore, 1) := zdX3_shorten_0.2.2.2.2.2.2.2.2.2.2.2.2.2.2.2.2.2.2.2.2.2.2.2.2.2.2.2.2.1
theorem dX3_shorten_47 : decode cX3_shorten 47 = .ok (.iconst 1, 1) := zdX3_shorten_0.2.2.2.2.2.2.2.2.2.2.2.2.2.2.2.2.2.2.2.2.2.2.2.2.2.2.2.2.2.1
theorem dX3_shorten_48 : decode cX3_shorten 48 = .ok (.ireturn, 1) := by decide +kernel
set_option maxRecDepth 20000 in
theorem ggX3_metresTo_X6_isCorner : GoodIn wsX3_metresTo wsX6_isCorner := goodIn_r _ [5] rfl (by decide +kernel)
set_option maxRecDepth 20000 in
theorem gX3_metresTo_X6_isCorner_n39 : GoodIn wsX3_metresTo (wsX6_isCorner) := ggX3_metresTo_X6_isCorner
set_option maxRecDepth 20000 in
theorem zdX3_metresTo_0 : dAll cX3_metresTo [(0, .iload_n 1, 1), (1, .invokestatic 39, 3), (4, .ifCond .eq 23, 3), (7, .aload_n 0, 1), (8, .getfield 9, 3), (11, .iload_n 1, 1), (12, .iaload, 1), (13, .ldc 18, 2), (15, .if_icmp .ge 12, 3), (18, .aload_n 0, 1), (19, .getfield 9, 3), (22, .iload_n 1, 1), (23, .iaload, 1), (24, .goto 4, 3), (27, .iconst (-1), 1), (28, .ireturn, 1)] := dAll_of (by decide +kernel)
theorem dX3_metresTo_0 : decode cX3_metresTo 0 = .ok (.iload_n 1, 1) := zdX3_metresTo_0.1
theorem dX3_metresTo_1 : decode cX3_metresTo 1 = .ok (.invokestatic 39, 3) := zdX3_metresTo_0.2.1
theorem dX3_metresTo_4 : decode cX3_metresTo 4 = .ok (.ifCond .eq 23, 3) := zdX3_metresTo_0.2.2.1
theorem dX3_metresTo_7 : decode cX3_metresTo 7 = .ok (.aload_n 0, 1) := zdX3_metresTo_0.2.2.2.1
theorem dX3_metresTo_8 : decode cX3_metresTo 8 = .ok (.getfield 9, 3) := zdX3_metresTo_0.2.2.2.2.1
theorem dX3_metresTo_11 : decode cX3_metresTo 11 = .ok (.iload_n 1, 1) := zdX3_metresTo_0.2.2.2.2.2.1
theorem dX3_metresTo_12 : decode cX3_metresTo 12 = .ok (.iaload, 1) := zdX3_metresTo_0.2.2.2.2.2.2.1
theorem dX3_metresTo_13 : decode cX3_metresTo 13 = .ok (.ldc 18, 2) := zdX3_metresTo_0.2.2.2.2.2.2.2.1
theorem dX3_metresTo_15 : decode cX3_metresTo 15 = .ok (.if_icmp .ge 12, 3) := zdX3_metresTo_0.2.2.2.2.2.2.2.2.1
theorem dX3_metresTo_18 : decode cX3_metresTo 18 = .ok (.aload_n 0, 1) := zdX3_metresTo_0.2.2.2.2.2.2.2.2.2.1
theorem dX3_metresTo_19 : decode cX3_metresTo 19 = .ok (.getfield 9, 3) := zdX3_metresTo_0.2.2.2.2.2.2.2.2.2.2.1
theorem dX3_metresTo_22 : decode cX3_metresTo 22 = .ok (.iload_n 1, 1) := zdX3_metresTo_0.2.2.2.2.2.2.2.2.2.2.2.1
theorem dX3_metresTo_23 : decode cX3_metresTo 23 = .ok (.iaload, 1) := zdX3_metresTo_0.2.2.2.2.2.2.2.2.2.2.2.2.1
theorem dX3_metresTo_24 : decode cX3_metresTo 24 = .ok (.goto 4, 3) := zdX3_metresTo_0.2.2.2.2.2.2.2.2.2.2.2.2.2.1
theorem dX3_metresTo_27 : decode cX3_metresTo 27 = .ok (.iconst (-1), 1) := zdX3_metresTo_0.2.2.2.2.2.2.2.2.2.2.2.2.2.2.1
theorem dX3_metresTo_28 : decode cX3_metresTo 28 = .ok (.ireturn, 1) := zdX3_metresTo_0.2.2.2.2.2.2.2.2.2.2.2.2.2.2.2.1
set_option maxRecDepth 20000 in
theorem ggX3_bringSkills_X5_cornerOf : GoodIn wsX3_bringSkills wsX5_cornerOf := goodIn_r _ [6, 7, 8, 9, 10, 30, 31, 32, 33, 34, 35, 36, 37] rfl (by decide +kernel)
set_option maxRecDepth 20000 in
theorem gX3_bringSkills_X5_cornerOf : GoodIn wsX3_bringSkills (wsV RX3 25 RX5 yX5_cornerOf wsX5_cornerOf) := goodIn_app (goodIn_of _ (by decide +kernel)) ggX3_bringSkills_X5_cornerOf
set_option maxRecDepth 20000 in
theorem ggX3_bringSkills_X5_isThere : GoodIn wsX3_bringSkills wsX5_isThere := goodIn_r _ [14, 15, 8, 9, 10, 30, 31, 32, 33, 34, 35, 36, 37] rfl (by decide +kernel)
set_option maxRecDepth 20000 in
theorem gX3_bringSkills_X5_isThere : GoodIn wsX3_bringSkills (wsV RX3 19 RX5 yX5_isThere wsX5_isThere) := goodIn_app (goodIn_of _ (by decide +kernel)) ggX3_bringSkills_X5_isThere
set_option maxRecDepth 20000 in
theorem ggX3_bringSkills_X6_isCorner : GoodIn wsX3_bringSkills wsX6_isCorner := goodIn_r _ [17] rfl (by decide +kernel)
set_option maxRecDepth 20000 in
theorem gX3_bringSkills_X6_isCorner_n39 : GoodIn wsX3_bringSkills (wsX6_isCorner) := ggX3_bringSkills_X6_isCorner
set_option maxRecDepth 20000 in
theorem ggX3_bringSkills_X5_secondOf : GoodIn wsX3_bringSkills wsX5_secondOf := goodIn_r _ [21, 22, 8, 9, 10, 30, 31, 32, 33, 34, 35, 36, 37] rfl (by decide +kernel)
set_option maxRecDepth 20000 in
theorem gX3_bringSkills_X5_secondOf : GoodIn wsX3_bringSkills (wsV RX3 29 RX5 yX5_secondOf wsX5_secondOf) := goodIn_app (goodIn_of _ (by decide +kernel)) ggX3_bringSkills_X5_secondOf
set_option maxRecDepth 20000 in
theorem ggX3_bringSkills_X3_share : GoodIn wsX3_bringSkills wsX3_share := goodIn_r _ [27, 1, 16, 9, 17, 28, 29] rfl (by decide +kernel)
set_option maxRecDepth 20000 in
theorem gX3_bringSkills_X3_share : GoodIn wsX3_bringSkills (wsV RX3 42 RX3 yX3_share wsX3_share) := goodIn_app (goodIn_of _ (by decide +kernel)) ggX3_bringSkills_X3_share
set_option maxRecDepth 20000 in
theorem zdX3_bringSkills_0 : dAll cX3_bringSkills [(0, .iconst 0, 1), (1, .istore_n 2, 1), (2, .iload_n 2, 1), (3, .bipush 21, 2), (5, .if_icmp .ge 16, 3), (8, .aload_n 0, 1), (9, .getfield 15, 3), (12, .iload_n 2, 1), (13, .iconst 0, 1), (14, .iastore, 1), (15, .iinc 2 1, 3), (18, .goto (-16), 3), (21, .bipush 30, 2), (23, .istore_n 2, 1), (24, .iload_n 2, 1), (25, .bipush 41, 2), (27, .if_icmp .ge 44, 3), (30, .aload_n 1, 1), (31, .iload_n 2, 1), (32, .invokevirtual 25, 3), (35, .istore_n 3, 1), (36, .aload_n 1, 1), (37, .iload_n 2, 1), (38, .invokevirtual 19, 3), (41, .ifCond .eq 24, 3), (44, .iload_n 3, 1), (45, .invokestatic 39, 3), (48, .ifCond .eq 17, 3), (51, .aload_n 0, 1), (52, .getfield 15, 3)] := dAll_of (by decide +kernel)
theorem dX3_bringSkills_0 : decode cX3_bringSkills 0 = .ok (.iconst 0, 1) := zdX3_bringSkills_0.1
theorem dX3_bringSkills_1 : decode cX3_bringSkills 1 = .ok (.istore_n 2, 1) := zdX3_bringSkills_0.2.1
theorem dX3_bringSkills_2 : decode cX3_bringSkills 2 = .ok (.iload_n 2, 1) := zdX3_bringSkills_0.2.2.1
theorem dX3_bringSkills_3 : decode cX3_bringSkills 3 = .ok (.bipush 21, 2) := zdX3_bringSkills_0.2.2.2.1
theorem dX3_bringSkills_5 : decode cX3_bringSkills 5 = .ok (.if_icmp .ge 16, 3) := zdX3_bringSkills_0.2.2.2.2.1
theorem dX3_bringSkills_8 : decode cX3_bringSkills 8 = .ok (.aload_n 0, 1) := zdX3_bringSkills_0.2.2.2.2.2.1
theorem dX3_bringSkills_9 : decode cX3_bringSkills 9 = .ok (.getfield 15, 3) := zdX3_bringSkills_0.2.2.2.2.2.2.1
theorem dX3_bringSkills_12 : decode cX3_bringSkills 12 = .ok (.iload_n 2, 1) := zdX3_bringSkills_0.2.2.2.2.2.2.2.1
theorem dX3_bringSkills_13 : decode cX3_bringSkills 13 = .ok (.iconst 0, 1) := zdX3_bringSkills_0.2.2.2.2.2.2.2.2.1
theorem dX3_bringSkills_14 : decode cX3_bringSkills 14 = .ok (.iastore, 1) := zdX3_bringSkills_0.2.2.2.2.2.2.2.2.2.1
theorem dX3_bringSkills_15 : decode cX3_bringSkills 15 = .ok (.iinc 2 1, 3) := zdX3_bringSkills_0.2.2.2.2.2.2.2.2.2.2.1
theorem dX3_bringSkills_18 : decode cX3_bringSkills 18 = .ok (.goto (-16), 3) := zdX3_bringSkills_0.2.2.2.2.2.2.2.2.2.2.2.1
theorem dX3_bringSkills_21 : decode cX3_bringSkills 21 = .ok (.bipush 30, 2) := zdX3_bringSkills_0.2.2.2.2.2.2.2.2.2.2.2.2.1
theorem dX3_bringSkills_23 : decode cX3_bringSkills 23 = .ok (.istore_n 2, 1) := zdX3_bringSkills_0.2.2.2.2.2.2.2.2.2.2.2.2.2.1
theorem dX3_bringSkills_24 : decode cX3_bringSkills 24 = .ok (.iload_n 2, 1) := zdX3_bringSkills_0.2.2.2.2.2.2.2.2.2.2.2.2.2.2.1
theorem dX3_bringSkills_25 : decode cX3_bringSkills 25 = .ok (.bipush 41, 2) := zdX3_bringSkills_0.2.2.2.2.2.2.2.2.2.2.2.2.2.2.2.1
theorem dX3_bringSkills_27 : decode cX3_bringSkills 27 = .ok (.if_icmp .ge 44, 3) := zdX3_bringSkills_0.2.2.2.2.2.2.2.2.2.2.2.2.2.2.2.2.1
theorem dX3_bringSkills_30 : decode cX3_bringSkills 30 = .ok (.aload_n 1, 1) := zdX3_bringSkills_0.2.2.2.2.2.2.2.2.2.2.2.2.2.2.2.2.2.1
theorem dX3_bringSkills_31 : decode cX3_bringSkills 31 = .ok (.iload_n 2, 1) := zdX3_bringSkills_0.2.2.2.2.2.2.2.2.2.2.2.2.2.2.2.2.2.2.1
theorem dX3_bringSkills_32 : decode cX3_bringSkills 32 = .ok (.invokevirtual 25, 3) := zdX3_bringSkills_0.2.2.2.2.2.2.2.2.2.2.2.2.2.2.2.2.2.2.2.1
theorem dX3_bringSkills_35 : decode cX3_bringSkills 35 = .ok (.istore_n 3, 1) := zdX3_bringSkills_0.2.2.2.2.2.2.2.2.2.2.2.2.2.2.2.2.2.2.2.2.1
theorem dX3_bringSkills_36 : decode cX3_bringSkills 36 = .ok (.aload_n 1, 1) := zdX3_bringSkills_0.2.2.2.2.2.2.2.2.2.2.2.2.2.2.2.2.2.2.2.2.2.1
theorem dX3_bringSkills_37 : decode cX3_bringSkills 37 = .ok (.iload_n 2, 1) := zdX3_bringSkills_0.2.2.2.2.2.2.2.2.2.2.2.2.2.2.2.2.2.2.2.2.2.2.1
theorem dX3_bringSkills_38 : decode cX3_bringSkills 38 = .ok (.invokevirtual 19, 3) := zdX3_bringSkills_0.2.2.2.2.2.2.2.2.2.2.2.2.2.2.2.2.2.2.2.2.2.2.2.1
theorem dX3_bringSkills_41 : decode cX3_bringSkills 41 = .ok (.ifCond .eq 24, 3) := zdX3_bringSkills_0.2.2.2.2.2.2.2.2.2.2.2.2.2.2.2.2.2.2.2.2.2.2.2.2.1
theorem dX3_bringSkills_44 : decode cX3_bringSkills 44 = .ok (.iload_n 3, 1) := zdX3_bringSkills_0.2.2.2.2.2.2.2.2.2.2.2.2.2.2.2.2.2.2.2.2.2.2.2.2.2.1
theorem dX3_bringSkills_45 : decode cX3_bringSkills 45 = .ok (.invokestatic 39, 3) := zdX3_bringSkills_0.2.2.2.2.2.2.2.2.2.2.2.2.2.2.2.2.2.2.2.2.2.2.2.2.2.2.1
theorem dX3_bringSkills_48 : decode cX3_bringSkills 48 = .ok (.ifCond .eq 17, 3) := zdX3_bringSkills_0.2.2.2.2.2.2.2.2.2.2.2.2.2.2.2.2.2.2.2.2.2.2.2.2.2.2.2.1
theorem dX3_bringSkills_51 : decode cX3_bringSkills 51 = .ok (.aload_n 0, 1) := zdX3_bringSkills_0.2.2.2.2.2.2.2.2.2.2.2.2.2.2.2.2.2.2.2.2.2.2.2.2.2.2.2.2.1
theorem dX3_bringSkills_52 : decode cX3_bringSkills 52 = .ok (.getfield 15, 3) := zdX3_bringSkills_0.2.2.2.2.2.2.2.2.2.2.2.2.2.2.2.2.2.2.2.2.2.2.2.2.2.2.2.2.2.1
set_option maxRecDepth 20000 in
theorem zdX3_bringSkills_55 : dAll cX3_bringSkills [(55, .iload_n 3, 1), (56, .dup2, 1), (57, .iaload, 1), (58, .aload_n 1, 1), (59, .iload_n 2, 1), (60, .invokevirtual 29, 3), (63, .ior, 1), (64, .iastore, 1), (65, .iinc 2 1, 3), (68, .goto (-44), 3), (71, .iconst 1, 1), (72, .istore_n 2, 1), (73, .iconst 0, 1), (74, .istore_n 3, 1), (75, .iload_n 3, 1), (76, .bipush 21, 2), (78, .if_icmp .ge 61, 3), (81, .iload_n 2, 1), (82, .ifCond .eq 57, 3), (85, .iconst 0, 1), (86, .istore_n 2, 1), (87, .iconst 0, 1), (88, .istore 4, 2), (90, .iload 4, 2), (92, .bipush 30, 2), (94, .if_icmp .ge 39, 3), (97, .aload_n 1, 1), (98, .iload 4, 2), (100, .invokevirtual 19, 3), (103, .ifCond .eq 24, 3)] := dAll_of (by decide +kernel)
theorem dX3_bringSkills_55 : decode cX3_bringSkills 55 = .ok (.iload_n 3, 1) := zdX3_bringSkills_55.1
theorem dX3_bringSkills_56 : decode cX3_bringSkills 56 = .ok (.dup2, 1) := zdX3_bringSkills_55.2.1
theorem dX3_bringSkills_57 : decode cX3_bringSkills 57 = .ok (.iaload, 1) := zdX3_bringSkills_55.2.2.1
theorem dX3_bringSkills_58 : decode cX3_bringSkills 58 = .ok (.aload_n 1, 1) := zdX3_bringSkills_55.2.2.2.1
theorem dX3_bringSkills_59 : decode cX3_bringSkills 59 = .ok (.iload_n 2, 1) := zdX3_bringSkills_55.2.2.2.2.1
theorem dX3_bringSkills_60 : decode cX3_bringSkills 60 = .ok (.invokevirtual 29, 3) := zdX3_bringSkills_55.2.2.2.2.2.1
theorem dX3_bringSkills_63 : decode cX3_bringSkills 63 = .ok (.ior, 1) := zdX3_bringSkills_55.2.2.2.2.2.2.1
theorem dX3_bringSkills_64 : decode cX3_bringSkills 64 = .ok (.iastore, 1) := zdX3_bringSkills_55.2.2.2.2.2.2.2.1
theorem dX3_bringSkills_65 : decode cX3_bringSkills 65 = .ok (.iinc 2 1, 3) := zdX3_bringSkills_55.2.2.2.2.2.2.2.2.1
theorem dX3_bringSkills_68 : decode cX3_bringSkills 68 = .ok (.goto (-44), 3) := zdX3_bringSkills_55.2.2.2.2.2.2.2.2.2.1
theorem dX3_bringSkills_71 : decode cX3_bringSkills 71 = .ok (.iconst 1, 1) := zdX3_bringSkills_55.2.2.2.2.2.2.2.2.2.2.1
theorem dX3_bringSkills_72 : decode cX3_bringSkills 72 = .ok (.istore_n 2, 1) := zdX3_bringSkills_55.2.2.2.2.2.2.2.2.2.2.2.1
theorem dX3_bringSkills_73 : decode cX3_bringSkills 73 = .ok (.iconst 0, 1) := zdX3_bringSkills_55.2.2.2.2.2.2.2.2.2.2.2.2.1
theorem dX3_bringSkills_74 : decode cX3_bringSkills 74 = .ok (.istore_n 3, 1) := zdX3_bringSkills_55.2.2.2.2.2.2.2.2.2.2.2.2.2.1
theorem dX3_bringSkills_75 : decode cX3_bringSkills 75 = .ok (.iload_n 3, 1) := zdX3_bringSkills_55.2.2.2.2.2.2.2.2.2.2.2.2.2.2.1
theorem dX3_bringSkills_76 : decode cX3_bringSkills 76 = .ok (.bipush 21, 2) := zdX3_bringSkills_55.2.2.2.2.2.2.2.2.2.2.2.2.2.2.2.1
theorem dX3_bringSkills_78 : decode cX3_bringSkills 78 = .ok (.if_icmp .ge 61, 3) := zdX3_bringSkills_55.2.2.2.2.2.2.2.2.2.2.2.2.2.2.2.2.1
theorem dX3_bringSkills_81 : decode cX3_bringSkills 81 = .ok (.iload_n 2, 1) := zdX3_bringSkills_55.2.2.2.2.2.2.2.2.2.2.2.2.2.2.2.2.2.1
theorem dX3_bringSkills_82 : decode cX3_bringSkills 82 = .ok (.ifCond .eq 57, 3) := zdX3_bringSkills_55.2.2.2.2.2.2.2.2.2.2.2.2.2.2.2.2.2.2.1
theorem dX3_bringSkills_85 : decode cX3_bringSkills 85 = .ok (.iconst 0, 1) := zdX3_bringSkills_55.2.2.2.2.2.2.2.2.2.2.2.2.2.2.2.2.2.2.2.1
theorem dX3_bringSkills_86 : decode cX3_bringSkills 86 = .ok (.istore_n 2, 1) := zdX3_bringSkills_55.2.2.2.2.2.2.2.2.2.2.2.2.2.2.2.2.2.2.2.2.1
theorem dX3_bringSkills_87 : decode cX3_bringSkills 87 = .ok (.iconst 0, 1) := zdX3_bringSkills_55.2.2.2.2.2.2.2.2.2.2.2.2.2.2.2.2.2.2.2.2.2.1
theorem dX3_bringSkills_88 : decode cX3_bringSkills 88 = .ok (.istore 4, 2) := zdX3_bringSkills_55.2.2.2.2.2.2.2.2.2.2.2.2.2.2.2.2.2.2.2.2.2.2.1
theorem dX3_bringSkills_90 : decode cX3_bringSkills 90 = .ok (.iload 4, 2) := zdX3_bringSkills_55.2.2.2.2.2.2.2.2.2.2.2.2.2.2.2.2.2.2.2.2.2.2.2.1
theorem dX3_bringSkills_92 : decode cX3_bringSkills 92 = .ok (.bipush 30, 2) := zdX3_bringSkills_55.2.2.2.2.2.2.2.2.2.2.2.2.2.2.2.2.2.2.2.2.2.2.2.2.1
theorem dX3_bringSkills_94 : decode cX3_bringSkills 94 = .ok (.if_icmp .ge 39, 3) := zdX3_bringSkills_55.2.2.2.2.2.2.2.2.2.2.2.2.2.2.2.2.2.2.2.2.2.2.2.2.2.1
theorem dX3_bringSkills_97 : decode cX3_bringSkills 97 = .ok (.aload_n 1, 1) := zdX3_bringSkills_55.2.2.2.2.2.2.2.2.2.2.2.2.2.2.2.2.2.2.2.2.2.2.2.2.2.2.1
theorem dX3_bringSkills_98 : decode cX3_bringSkills 98 = .ok (.iload 4, 2) := zdX3_bringSkills_55.2.2.2.2.2.2.2.2.2.2.2.2.2.2.2.2.2.2.2.2.2.2.2.2.2.2.2.1
theorem dX3_bringSkills_100 : decode cX3_bringSkills 100 = .ok (.invokevirtual 19, 3) := zdX3_bringSkills_55.2.2.2.2.2.2.2.2.2.2.2.2.2.2.2.2.2.2.2.2.2.2.2.2.2.2.2.2.1
theorem dX3_bringSkills_103 : decode cX3_bringSkills 103 = .ok (.ifCond .eq 24, 3) := zdX3_bringSkills_55.2.2.2.2.2.2.2.2.2.2.2.2.2.2.2.2.2.2.2.2.2.2.2.2.2.2.2.2.2.1
set_option maxRecDepth 20000 in
theorem zdX3_bringSkills_106 : dAll cX3_bringSkills [(106, .aload_n 0, 1), (107, .aload_n 1, 1), (108, .iload 4, 2), (110, .invokevirtual 25, 3), (113, .aload_n 1, 1), (114, .iload 4, 2), (116, .invokevirtual 29, 3), (119, .invokevirtual 42, 3), (122, .ifCond .eq 5, 3), (125, .iconst 1, 1), (126, .istore_n 2, 1), (127, .iinc 4 1, 3), (130, .goto (-40), 3), (133, .iinc 3 1, 3), (136, .goto (-61), 3), (139, .return_, 1)] := dAll_of (by decide +kernel)
theorem dX3_bringSkills_106 : decode cX3_bringSkills 106 = .ok (.aload_n 0, 1) := zdX3_bringSkills_106.1
theorem dX3_bringSkills_107 : decode cX3_bringSkills 107 = .ok (.aload_n 1, 1) := zdX3_bringSkills_106.2.1
theorem dX3_bringSkills_108 : decode cX3_bringSkills 108 = .ok (.iload 4, 2) := zdX3_bringSkills_106.2.2.1
theorem dX3_bringSkills_110 : decode cX3_bringSkills 110 = .ok (.invokevirtual 25, 3) := zdX3_bringSkills_106.2.2.2.1
theorem dX3_bringSkills_113 : decode cX3_bringSkills 113 = .ok (.aload_n 1, 1) := zdX3_bringSkills_106.2.2.2.2.1
theorem dX3_bringSkills_114 : decode cX3_bringSkills 114 = .ok (.iload 4, 2) := zdX3_bringSkills_106.2.2.2.2.2.1
theorem dX3_bringSkills_116 : decode cX3_bringSkills 116 = .ok (.invokevirtual 29, 3) := zdX3_bringSkills_106.2.2.2.2.2.2.1
theorem dX3_bringSkills_119 : decode cX3_bringSkills 119 = .ok (.invokevirtual 42, 3) := zdX3_bringSkills_106.2.2.2.2.2.2.2.1
theorem dX3_bringSkills_122 : decode cX3_bringSkills 122 = .ok (.ifCond .eq 5, 3) := zdX3_bringSkills_106.2.2.2.2.2.2.2.2.1
theorem dX3_bringSkills_125 : decode cX3_bringSkills 125 = .ok (.iconst 1, 1) := zdX3_bringSkills_106.2.2.2.2.2.2.2.2.2.1
theorem dX3_bringSkills_126 : decode cX3_bringSkills 126 = .ok (.istore_n 2, 1) := zdX3_bringSkills_106.2.2.2.2.2.2.2.2.2.2.1
theorem dX3_bringSkills_127 : decode cX3_bringSkills 127 = .ok (.iinc 4 1, 3) := zdX3_bringSkills_106.2.2.2.2.2.2.2.2.2.2.2.1
theorem dX3_bringSkills_130 : decode cX3_bringSkills 130 = .ok (.goto (-40), 3) := zdX3_bringSkills_106.2.2.2.2.2.2.2.2.2.2.2.2.1
theorem dX3_bringSkills_133 : decode cX3_bringSkills 133 = .ok (.iinc 3 1, 3) := zdX3_bringSkills_106.2.2.2.2.2.2.2.2.2.2.2.2.2.1
theorem dX3_bringSkills_136 : decode cX3_bringSkills 136 = .ok (.goto (-61), 3) := zdX3_bringSkills_106.2.2.2.2.2.2.2.2.2.2.2.2.2.2.1
theorem dX3_bringSkills_139 : decode cX3_bringSkills 139 = .ok (.return_, 1) := zdX3_bringSkills_106.2.2.2.2.2.2.2.2.2.2.2.2.2.2.2.1
set_option maxRecDepth 20000 in
theorem ggX3_share_X6_isCorner : GoodIn wsX3_share wsX6_isCorner := goodIn_r _ [4] rfl (by decide +kernel)
set_option maxRecDepth 20000 in
theorem gX3_share_X6_isCorner_n39 : GoodIn wsX3_share (wsX6_isCorner) := ggX3_share_X6_isCorner
set_option maxRecDepth 20000 in
theorem zdX3_share_0 : dAll cX3_share [(0, .iload_n 1, 1), (1, .invokestatic 39, 3), (4, .ifCond .eq 25, 3), (7, .iload_n 2, 1), (8, .invokestatic 39, 3), (11, .ifCond .eq 18, 3), (14, .aload_n 0, 1), (15, .getfield 15, 3), (18, .iload_n 1, 1), (19, .iaload, 1), (20, .aload_n 0, 1), (21, .getfield 15, 3), (24, .iload_n 2, 1), (25, .iaload, 1), (26, .if_icmp .ne 5, 3), (29, .iconst 0, 1), (30, .ireturn, 1), (31, .aload_n 0, 1), (32, .getfield 15, 3), (35, .iload_n 1, 1), (36, .iaload, 1), (37, .aload_n 0, 1), (38, .getfield 15, 3), (41, .iload_n 2, 1), (42, .iaload, 1), (43, .ior, 1), (44, .istore_n 3, 1), (45, .aload_n 0, 1), (46, .getfield 15, 3), (49, .iload_n 1, 1)] := dAll_of (by decide +kernel)
theorem dX3_share_0 : decode cX3_share 0 = .ok (.iload_n 1, 1) := zdX3_share_0.1
theorem dX3_share_1 : decode cX3_share 1 = .ok (.invokestatic 39, 3) := zdX3_share_0.2.1
theorem dX3_share_4 : decode cX3_share 4 = .ok (.ifCond .eq 25, 3) := zdX3_share_0.2.2.1
theorem dX3_share_7 : decode cX3_share 7 = .ok (.iload_n 2, 1) := zdX3_share_0.2.2.2.1
theorem dX3_share_8 : decode cX3_share 8 = .ok (.invokestatic 39, 3) := zdX3_share_0.2.2.2.2.1
theorem dX3_share_11 : decode cX3_share 11 = .ok (.ifCond .eq 18, 3) := zdX3_share_0.2.2.2.2.2.1
theorem dX3_share_14 : decode cX3_share 14 = .ok (.aload_n 0, 1) := zdX3_share_0.2.2.2.2.2.2.1
theorem dX3_share_15 : decode cX3_share 15 = .ok (.getfield 15, 3) := zdX3_share_0.2.2.2.2.2.2.2.1
theorem dX3_share_18 : decode cX3_share 18 = .ok (.iload_n 1, 1) := zdX3_share_0.2.2.2.2.2.2.2.2.1
theorem dX3_share_19 : decode cX3_share 19 = .ok (.iaload, 1) := zdX3_share_0.2.2.2.2.2.2.2.2.2.1
theorem dX3_share_20 : decode cX3_share 20 = .ok (.aload_n 0, 1) := zdX3_share_0.2.2.2.2.2.2.2.2.2.2.1
theorem dX3_share_21 : decode cX3_share 21 = .ok (.getfield 15, 3) := zdX3_share_0.2.2.2.2.2.2.2.2.2.2.2.1
theorem dX3_share_24 : decode cX3_share 24 = .ok (.iload_n 2, 1) := zdX3_share_0.2.2.2.2.2.2.2.2.2.2.2.2.1
theorem dX3_share_25 : decode cX3_share 25 = .ok (.iaload, 1) := zdX3_share_0.2.2.2.2.2.2.2.2.2.2.2.2.2.1
theorem dX3_share_26 : decode cX3_share 26 = .ok (.if_icmp .ne 5, 3) := zdX3_share_0.2.2.2.2.2.2.2.2.2.2.2.2.2.2.1
theorem dX3_share_29 : decode cX3_share 29 = .ok (.iconst 0, 1) := zdX3_share_0.2.2.2.2.2.2.2.2.2.2.2.2.2.2.2.1
theorem dX3_share_30 : decode cX3_share 30 = .ok (.ireturn, 1) := zdX3_share_0.2.2.2.2.2.2.2.2.2.2.2.2.2.2.2.2.1
theorem dX3_share_31 : decode cX3_share 31 = .ok (.aload_n 0, 1) := zdX3_share_0.2.2.2.2.2.2.2.2.2.2.2.2.2.2.2.2.2.1
theorem dX3_share_32 : decode cX3_share 32 = .ok (.getfield 15, 3) := zdX3_share_0.2.2.2.2.2.2.2.2.2.2.2.2.2.2.2.2.2.2.1
theorem dX3_share_35 : decode cX3_share 35 = .ok (.iload_n 1, 1) := zdX3_share_0.2.2.2.2.2.2.2.2.2.2.2.2.2.2.2.2.2.2.2.1
theorem dX3_share_36 : decode cX3_share 36 = .ok (.iaload, 1) := zdX3_share_0.2.2.2.2.2.2.2.2.2.2.2.2.2.2.2.2.2.2.2.2.1
theorem dX3_share_37 : decode cX3_share 37 = .ok (.aload_n 0, 1) := zdX3_share_0.2.2.2.2.2.2.2.2.2.2.2.2.2.2.2.2.2.2.2.2.2.1
theorem dX3_share_38 : decode cX3_share 38 = .ok (.getfield 15, 3) := zdX3_share_0.2.2.2.2.2.2.2.2.2.2.2.2.2.2.2.2.2.2.2.2.2.2.1
theorem dX3_share_41 : decode cX3_share 41 = .ok (.iload_n 2, 1) := zdX3_share_0.2.2.2.2.2.2.2.2.2.2.2.2.2.2.2.2.2.2.2.2.2.2.2.1
theorem dX3_share_42 : decode cX3_share 42 = .ok (.iaload, 1) := zdX3_share_0.2.2.2.2.2.2.2.2.2.2.2.2.2.2.2.2.2.2.2.2.2.2.2.2.1
theorem dX3_share_43 : decode cX3_share 43 = .ok (.ior, 1) := zdX3_share_0.2.2.2.2.2.2.2.2.2.2.2.2.2.2.2.2.2.2.2.2.2.2.2.2.2.1
theorem dX3_share_44 : decode cX3_share 44 = .ok (.istore_n 3, 1) := zdX3_share_0.2.2.2.2.2.2.2.2.2.2.2.2.2.2.2.2.2.2.2.2.2.2.2.2.2.2.1
theorem dX3_share_45 : decode cX3_share 45 = .ok (.aload_n 0, 1) := zdX3_share_0.2.2.2.2.2.2.2.2.2.2.2.2.2.2.2.2.2.2.2.2.2.2.2.2.2.2.2.1
theorem dX3_share_46 : decode cX3_share 46 = .ok (.getfield 15, 3) := zdX3_share_0.2.2.2.2.2.2.2.2.2.2.2.2.2.2.2.2.2.2.2.2.2.2.2.2.2.2.2.2.1
theorem dX3_share_49 : decode cX3_share 49 = .ok (.iload_n 1, 1) := zdX3_share_0.2.2.2.2.2.2.2.2.2.2.2.2.2.2.2.2.2.2.2.2.2.2.2.2.2.2.2.2.2.1
set_option maxRecDepth 20000 in
theorem zdX3_share_50 : dAll cX3_share [(50, .iload_n 3, 1), (51, .iastore, 1), (52, .aload_n 0, 1), (53, .getfield 15, 3), (56, .iload_n 2, 1), (57, .iload_n 3, 1), (58, .iastore, 1), (59, .iconst 1, 1), (60, .ireturn, 1)] := dAll_of (by decide +kernel)
theorem dX3_share_50 : decode cX3_share 50 = .ok (.iload_n 3, 1) := zdX3_share_50.1
theorem dX3_share_51 : decode cX3_share 51 = .ok (.iastore, 1) := zdX3_share_50.2.1
theorem dX3_share_52 : decode cX3_share 52 = .ok (.aload_n 0, 1) := zdX3_share_50.2.2.1
theorem dX3_share_53 : decode cX3_share 53 = .ok (.getfield 15, 3) := zdX3_share_50.2.2.2.1
theorem dX3_share_56 : decode cX3_share 56 = .ok (.iload_n 2, 1) := zdX3_share_50.2.2.2.2.1
theorem dX3_share_57 : decode cX3_share 57 = .ok (.iload_n 3, 1) := zdX3_share_50.2.2.2.2.2.1
theorem dX3_share_58 : decode cX3_share 58 = .ok (.iastore, 1) := zdX3_share_50.2.2.2.2.2.2.1
theorem dX3_share_59 : decode cX3_share 59 = .ok (.iconst 1, 1) := zdX3_share_50.2.2.2.2.2.2.2.1
theorem dX3_share_60 : decode cX3_share 60 = .ok (.ireturn, 1) := zdX3_share_50.2.2.2.2.2.2.2.2.1
set_option maxRecDepth 20000 in
theorem ggX3_skillComesTo_X6_isCorner : GoodIn wsX3_skillComesTo wsX6_isCorner := goodIn_r _ [4] rfl (by decide +kernel)
set_option maxRecDepth 20000 in
theorem gX3_skillComesTo_X6_isCorner_n39 : GoodIn wsX3_skillComesTo (wsX6_isCorner) := ggX3_skillComesTo_X6_isCorner
set_option maxRecDepth 20000 in
theorem zdX3_skillComesTo_0 : dAll cX3_skillComesTo [(0, .iload_n 1, 1), (1, .invokestatic 39, 3), (4, .ifCond .eq 21, 3), (7, .aload_n 0, 1), (8, .getfield 15, 3), (11, .iload_n 1, 1), (12, .iaload, 1), (13, .iload_n 2, 1), (14, .ishr, 1), (15, .iconst 1, 1), (16, .iand, 1), (17, .iconst 1, 1), (18, .if_icmp .ne 7, 3), (21, .iconst 1, 1), (22, .goto 4, 3), (25, .iconst 0, 1), (26, .ireturn, 1)] := dAll_of (by decide +kernel)
theorem dX3_skillComesTo_0 : decode cX3_skillComesTo 0 = .ok (.iload_n 1, 1) := zdX3_skillComesTo_0.1
theorem dX3_skillComesTo_1 : decode cX3_skillComesTo 1 = .ok (.invokestatic 39, 3) := zdX3_skillComesTo_0.2.1
theorem dX3_skillComesTo_4 : decode cX3_skillComesTo 4 = .ok (.ifCond .eq 21, 3) := zdX3_skillComesTo_0.2.2.1
theorem dX3_skillComesTo_7 : decode cX3_skillComesTo 7 = .ok (.aload_n 0, 1) := zdX3_skillComesTo_0.2.2.2.1
theorem dX3_skillComesTo_8 : decode cX3_skillComesTo 8 = .ok (.getfield 15, 3) := zdX3_skillComesTo_0.2.2.2.2.1
theorem dX3_skillComesTo_11 : decode cX3_skillComesTo 11 = .ok (.iload_n 1, 1) := zdX3_skillComesTo_0.2.2.2.2.2.1
theorem dX3_skillComesTo_12 : decode cX3_skillComesTo 12 = .ok (.iaload, 1) := zdX3_skillComesTo_0.2.2.2.2.2.2.1
theorem dX3_skillComesTo_13 : decode cX3_skillComesTo 13 = .ok (.iload_n 2, 1) := zdX3_skillComesTo_0.2.2.2.2.2.2.2.1
theorem dX3_skillComesTo_14 : decode cX3_skillComesTo 14 = .ok (.ishr, 1) := zdX3_skillComesTo_0.2.2.2.2.2.2.2.2.1
theorem dX3_skillComesTo_15 : decode cX3_skillComesTo 15 = .ok (.iconst 1, 1) := zdX3_skillComesTo_0.2.2.2.2.2.2.2.2.2.1
theorem dX3_skillComesTo_16 : decode cX3_skillComesTo 16 = .ok (.iand, 1) := zdX3_skillComesTo_0.2.2.2.2.2.2.2.2.2.2.1
theorem dX3_skillComesTo_17 : decode cX3_skillComesTo 17 = .ok (.iconst 1, 1) := zdX3_skillComesTo_0.2.2.2.2.2.2.2.2.2.2.2.1
theorem dX3_skillComesTo_18 : decode cX3_skillComesTo 18 = .ok (.if_icmp .ne 7, 3) := zdX3_skillComesTo_0.2.2.2.2.2.2.2.2.2.2.2.2.1
theorem dX3_skillComesTo_21 : decode cX3_skillComesTo 21 = .ok (.iconst 1, 1) := zdX3_skillComesTo_0.2.2.2.2.2.2.2.2.2.2.2.2.2.1
theorem dX3_skillComesTo_22 : decode cX3_skillComesTo 22 = .ok (.goto 4, 3) := zdX3_skillComesTo_0.2.2.2.2.2.2.2.2.2.2.2.2.2.2.1
theorem dX3_skillComesTo_25 : decode cX3_skillComesTo 25 = .ok (.iconst 0, 1) := zdX3_skillComesTo_0.2.2.2.2.2.2.2.2.2.2.2.2.2.2.2.1
theorem dX3_skillComesTo_26 : decode cX3_skillComesTo 26 = .ok (.ireturn, 1) := zdX3_skillComesTo_0.2.2.2.2.2.2.2.2.2.2.2.2.2.2.2.2.1
set_option maxRecDepth 20000 in
theorem zdX4_init_0 : dAll cX4_init [(0, .aload_n 0, 1), (1, .invokespecial 3, 3), (4, .aload_n 0, 1), (5, .sipush 600, 3), (8, .newarray .int, 2), (10, .putfield 9, 3), (13, .return_, 1)] := dAll_of (by decide +kernel)
theorem dX4_init_0 : decode cX4_init 0 = .ok (.aload_n 0, 1) := zdX4_init_0.1
theorem dX4_init_1 : decode cX4_init 1 = .ok (.invokespecial 3, 3) := zdX4_init_0.2.1
theorem dX4_init_4 : decode cX4_init 4 = .ok (.aload_n 0, 1) := zdX4_init_0.2.2.1
theorem dX4_init_5 : decode cX4_init 5 = .ok (.sipush 600, 3) := zdX4_init_0.2.2.2.1
theorem dX4_init_8 : decode cX4_init 8 = .ok (.newarray .int, 2) := zdX4_init_0.2.2.2.2.1
theorem dX4_init_10 : decode cX4_init 10 = .ok (.putfield 9, 3) := zdX4_init_0.2.2.2.2.2.1
theorem dX4_init_13 : decode cX4_init 13 = .ok (.return_, 1) := zdX4_init_0.2.2.2.2.2.2.1
set_option maxRecDepth 20000 in
theorem zdX4_clear_0 : dAll cX4_clear [(0, .aload_n 0, 1), (1, .iconst 0, 1), (2, .putfield 15, 3), (5, .return_, 1)] := dAll_of (by decide +kernel)
theorem dX4_clear_0 : decode cX4_clear 0 = .ok (.aload_n 0, 1) := zdX4_clear_0.1
theorem dX4_clear_1 : decode cX4_clear 1 = .ok (.iconst 0, 1) := zdX4_clear_0.2.1
theorem dX4_clear_2 : decode cX4_clear 2 = .ok (.putfield 15, 3) := zdX4_clear_0.2.2.1
theorem dX4_clear_5 : decode cX4_clear 5 = .ok (.return_, 1) := zdX4_clear_0.2.2.2.1
theorem dX4_length_0 : decode cX4_length 0 = .ok (.aload_n 0, 1) := by decide +kernel
theorem dX4_length_1 : decode cX4_length 1 = .ok (.getfield 15, 3) := by decide +kernel
