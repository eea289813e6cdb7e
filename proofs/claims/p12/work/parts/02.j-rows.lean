set_option maxRecDepth 20000 in
theorem zdX7_isServed_4 : dAll cX7_isServed [(4, .iload_n 1, 1), (5, .baload, 1), (6, .ifCond .ne 5, 3), (9, .iconst 0, 1), (10, .ireturn, 1), (11, .aload_n 0, 1), (12, .aload_n 0, 1), (13, .getfield 17, 3), (16, .iload_n 1, 1), (17, .iaload, 1), (18, .invokevirtual 93, 3), (21, .iconst 0, 1), (22, .istore_n 2, 1), (23, .bipush 30, 2), (25, .istore_n 3, 1), (26, .iload_n 3, 1), (27, .bipush 41, 2), (29, .if_icmp .ge 63, 3), (32, .iload_n 2, 1), (33, .ifCond .ne 47, 3), (36, .aload_n 0, 1), (37, .getfield 13, 3), (40, .iload_n 3, 1), (41, .baload, 1), (42, .ifCond .eq 42, 3), (45, .aload_n 0, 1), (46, .getfield 20, 3), (49, .iload_n 3, 1), (50, .iaload, 1), (51, .aload_n 0, 1)] := dAll_of (by decide +kernel)
theorem dX7_isServed_4 : decode cX7_isServed 4 = .ok (.iload_n 1, 1) := zdX7_isServed_4.1
theorem dX7_isServed_5 : decode cX7_isServed 5 = .ok (.baload, 1) := zdX7_isServed_4.2.1
theorem dX7_isServed_6 : decode cX7_isServed 6 = .ok (.ifCond .ne 5, 3) := zdX7_isServed_4.2.2.1
theorem dX7_isServed_9 : decode cX7_isServed 9 = .ok (.iconst 0, 1) := zdX7_isServed_4.2.2.2.1
theorem dX7_isServed_10 : decode cX7_isServed 10 = .ok (.ireturn, 1) := zdX7_isServed_4.2.2.2.2.1
theorem dX7_isServed_11 : decode cX7_isServed 11 = .ok (.aload_n 0, 1) := zdX7_isServed_4.2.2.2.2.2.1
theorem dX7_isServed_12 : decode cX7_isServed 12 = .ok (.aload_n 0, 1) := zdX7_isServed_4.2.2.2.2.2.2.1
theorem dX7_isServed_13 : decode cX7_isServed 13 = .ok (.getfield 17, 3) := zdX7_isServed_4.2.2.2.2.2.2.2.1
theorem dX7_isServed_16 : decode cX7_isServed 16 = .ok (.iload_n 1, 1) := zdX7_isServed_4.2.2.2.2.2.2.2.2.1
theorem dX7_isServed_17 : decode cX7_isServed 17 = .ok (.iaload, 1) := zdX7_isServed_4.2.2.2.2.2.2.2.2.2.1
theorem dX7_isServed_18 : decode cX7_isServed 18 = .ok (.invokevirtual 93, 3) := zdX7_isServed_4.2.2.2.2.2.2.2.2.2.2.1
theorem dX7_isServed_21 : decode cX7_isServed 21 = .ok (.iconst 0, 1) := zdX7_isServed_4.2.2.2.2.2.2.2.2.2.2.2.1
theorem dX7_isServed_22 : decode cX7_isServed 22 = .ok (.istore_n 2, 1) := zdX7_isServed_4.2.2.2.2.2.2.2.2.2.2.2.2.1
theorem dX7_isServed_23 : decode cX7_isServed 23 = .ok (.bipush 30, 2) := zdX7_isServed_4.2.2.2.2.2.2.2.2.2.2.2.2.2.1
theorem dX7_isServed_25 : decode cX7_isServed 25 = .ok (.istore_n 3, 1) := zdX7_isServed_4.2.2.2.2.2.2.2.2.2.2.2.2.2.2.1
theorem dX7_isServed_26 : decode cX7_isServed 26 = .ok (.iload_n 3, 1) := zdX7_isServed_4.2.2.2.2.2.2.2.2.2.2.2.2.2.2.2.1
theorem dX7_isServed_27 : decode cX7_isServed 27 = .ok (.bipush 41, 2) := zdX7_isServed_4.2.2.2.2.2.2.2.2.2.2.2.2.2.2.2.2.1
theorem dX7_isServed_29 : decode cX7_isServed 29 = .ok (.if_icmp .ge 63, 3) := zdX7_isServed_4.2.2.2.2.2.2.2.2.2.2.2.2.2.2.2.2.2.1
theorem dX7_isServed_32 : decode cX7_isServed 32 = .ok (.iload_n 2, 1) := zdX7_isServed_4.2.2.2.2.2.2.2.2.2.2.2.2.2.2.2.2.2.2.1
theorem dX7_isServed_33 : decode cX7_isServed 33 = .ok (.ifCond .ne 47, 3) := zdX7_isServed_4.2.2.2.2.2.2.2.2.2.2.2.2.2.2.2.2.2.2.2.1
theorem dX7_isServed_36 : decode cX7_isServed 36 = .ok (.aload_n 0, 1) := zdX7_isServed_4.2.2.2.2.2.2.2.2.2.2.2.2.2.2.2.2.2.2.2.2.1
theorem dX7_isServed_37 : decode cX7_isServed 37 = .ok (.getfield 13, 3) := zdX7_isServed_4.2.2.2.2.2.2.2.2.2.2.2.2.2.2.2.2.2.2.2.2.2.1
theorem dX7_isServed_40 : decode cX7_isServed 40 = .ok (.iload_n 3, 1) := zdX7_isServed_4.2.2.2.2.2.2.2.2.2.2.2.2.2.2.2.2.2.2.2.2.2.2.1
theorem dX7_isServed_41 : decode cX7_isServed 41 = .ok (.baload, 1) := zdX7_isServed_4.2.2.2.2.2.2.2.2.2.2.2.2.2.2.2.2.2.2.2.2.2.2.2.1
theorem dX7_isServed_42 : decode cX7_isServed 42 = .ok (.ifCond .eq 42, 3) := zdX7_isServed_4.2.2.2.2.2.2.2.2.2.2.2.2.2.2.2.2.2.2.2.2.2.2.2.2.1
theorem dX7_isServed_45 : decode cX7_isServed 45 = .ok (.aload_n 0, 1) := zdX7_isServed_4.2.2.2.2.2.2.2.2.2.2.2.2.2.2.2.2.2.2.2.2.2.2.2.2.2.1
theorem dX7_isServed_46 : decode cX7_isServed 46 = .ok (.getfield 20, 3) := zdX7_isServed_4.2.2.2.2.2.2.2.2.2.2.2.2.2.2.2.2.2.2.2.2.2.2.2.2.2.2.1
theorem dX7_isServed_49 : decode cX7_isServed 49 = .ok (.iload_n 3, 1) := zdX7_isServed_4.2.2.2.2.2.2.2.2.2.2.2.2.2.2.2.2.2.2.2.2.2.2.2.2.2.2.2.1
theorem dX7_isServed_50 : decode cX7_isServed 50 = .ok (.iaload, 1) := zdX7_isServed_4.2.2.2.2.2.2.2.2.2.2.2.2.2.2.2.2.2.2.2.2.2.2.2.2.2.2.2.2.1
theorem dX7_isServed_51 : decode cX7_isServed 51 = .ok (.aload_n 0, 1) := zdX7_isServed_4.2.2.2.2.2.2.2.2.2.2.2.2.2.2.2.2.2.2.2.2.2.2.2.2.2.2.2.2.2.1
set_option maxRecDepth 20000 in
theorem zdX7_isServed_52 : dAll cX7_isServed [(52, .getfield 20, 3), (55, .iload_n 1, 1), (56, .iaload, 1), (57, .ishr, 1), (58, .iconst 1, 1), (59, .iand, 1), (60, .iconst 1, 1), (61, .if_icmp .ne 23, 3), (64, .aload_n 0, 1), (65, .getfield 29, 3), (68, .aload_n 0, 1), (69, .getfield 17, 3), (72, .iload_n 3, 1), (73, .iaload, 1), (74, .iaload, 1), (75, .ldc 92, 2), (77, .if_icmp .ge 7, 3), (80, .iconst 1, 1), (81, .goto 4, 3), (84, .iconst 0, 1), (85, .istore_n 2, 1), (86, .iinc 3 1, 3), (89, .goto (-63), 3), (92, .iload_n 2, 1), (93, .ireturn, 1)] := dAll_of (by decide +kernel)
theorem dX7_isServed_52 : decode cX7_isServed 52 = .ok (.getfield 20, 3) := zdX7_isServed_52.1
theorem dX7_isServed_55 : decode cX7_isServed 55 = .ok (.iload_n 1, 1) := zdX7_isServed_52.2.1
theorem dX7_isServed_56 : decode cX7_isServed 56 = .ok (.iaload, 1) := zdX7_isServed_52.2.2.1
theorem dX7_isServed_57 : decode cX7_isServed 57 = .ok (.ishr, 1) := zdX7_isServed_52.2.2.2.1
theorem dX7_isServed_58 : decode cX7_isServed 58 = .ok (.iconst 1, 1) := zdX7_isServed_52.2.2.2.2.1
theorem dX7_isServed_59 : decode cX7_isServed 59 = .ok (.iand, 1) := zdX7_isServed_52.2.2.2.2.2.1
theorem dX7_isServed_60 : decode cX7_isServed 60 = .ok (.iconst 1, 1) := zdX7_isServed_52.2.2.2.2.2.2.1
theorem dX7_isServed_61 : decode cX7_isServed 61 = .ok (.if_icmp .ne 23, 3) := zdX7_isServed_52.2.2.2.2.2.2.2.1
theorem dX7_isServed_64 : decode cX7_isServed 64 = .ok (.aload_n 0, 1) := zdX7_isServed_52.2.2.2.2.2.2.2.2.1
theorem dX7_isServed_65 : decode cX7_isServed 65 = .ok (.getfield 29, 3) := zdX7_isServed_52.2.2.2.2.2.2.2.2.2.1
theorem dX7_isServed_68 : decode cX7_isServed 68 = .ok (.aload_n 0, 1) := zdX7_isServed_52.2.2.2.2.2.2.2.2.2.2.1
theorem dX7_isServed_69 : decode cX7_isServed 69 = .ok (.getfield 17, 3) := zdX7_isServed_52.2.2.2.2.2.2.2.2.2.2.2.1
theorem dX7_isServed_72 : decode cX7_isServed 72 = .ok (.iload_n 3, 1) := zdX7_isServed_52.2.2.2.2.2.2.2.2.2.2.2.2.1
theorem dX7_isServed_73 : decode cX7_isServed 73 = .ok (.iaload, 1) := zdX7_isServed_52.2.2.2.2.2.2.2.2.2.2.2.2.2.1
theorem dX7_isServed_74 : decode cX7_isServed 74 = .ok (.iaload, 1) := zdX7_isServed_52.2.2.2.2.2.2.2.2.2.2.2.2.2.2.1
theorem dX7_isServed_75 : decode cX7_isServed 75 = .ok (.ldc 92, 2) := zdX7_isServed_52.2.2.2.2.2.2.2.2.2.2.2.2.2.2.2.1
theorem dX7_isServed_77 : decode cX7_isServed 77 = .ok (.if_icmp .ge 7, 3) := zdX7_isServed_52.2.2.2.2.2.2.2.2.2.2.2.2.2.2.2.2.1
theorem dX7_isServed_80 : decode cX7_isServed 80 = .ok (.iconst 1, 1) := zdX7_isServed_52.2.2.2.2.2.2.2.2.2.2.2.2.2.2.2.2.2.1
theorem dX7_isServed_81 : decode cX7_isServed 81 = .ok (.goto 4, 3) := zdX7_isServed_52.2.2.2.2.2.2.2.2.2.2.2.2.2.2.2.2.2.2.1
theorem dX7_isServed_84 : decode cX7_isServed 84 = .ok (.iconst 0, 1) := zdX7_isServed_52.2.2.2.2.2.2.2.2.2.2.2.2.2.2.2.2.2.2.2.1
theorem dX7_isServed_85 : decode cX7_isServed 85 = .ok (.istore_n 2, 1) := zdX7_isServed_52.2.2.2.2.2.2.2.2.2.2.2.2.2.2.2.2.2.2.2.2.1
theorem dX7_isServed_86 : decode cX7_isServed 86 = .ok (.iinc 3 1, 3) := zdX7_isServed_52.2.2.2.2.2.2.2.2.2.2.2.2.2.2.2.2.2.2.2.2.2.1
theorem dX7_isServed_89 : decode cX7_isServed 89 = .ok (.goto (-63), 3) := zdX7_isServed_52.2.2.2.2.2.2.2.2.2.2.2.2.2.2.2.2.2.2.2.2.2.2.1
theorem dX7_isServed_92 : decode cX7_isServed 92 = .ok (.iload_n 2, 1) := zdX7_isServed_52.2.2.2.2.2.2.2.2.2.2.2.2.2.2.2.2.2.2.2.2.2.2.2.1
theorem dX7_isServed_93 : decode cX7_isServed 93 = .ok (.ireturn, 1) := zdX7_isServed_52.2.2.2.2.2.2.2.2.2.2.2.2.2.2.2.2.2.2.2.2.2.2.2.2.1
set_option maxRecDepth 20000 in
theorem zdX7_isTwice_0 : dAll cX7_isTwice [(0, .bipush 41, 2), (2, .istore_n 1, 1), (3, .iload_n 1, 1), (4, .bipush 62, 2), (6, .if_icmp .ge 73, 3), (9, .bipush 41, 2), (11, .istore_n 2, 1), (12, .iload_n 2, 1), (13, .iload_n 1, 1), (14, .if_icmp .ge 59, 3), (17, .aload_n 0, 1), (18, .getfield 13, 3), (21, .iload_n 1, 1), (22, .baload, 1), (23, .ifCond .eq 44, 3), (26, .aload_n 0, 1), (27, .getfield 13, 3), (30, .iload_n 2, 1), (31, .baload, 1), (32, .ifCond .eq 35, 3), (35, .aload_n 0, 1), (36, .getfield 23, 3), (39, .iload_n 1, 1), (40, .iaload, 1), (41, .aload_n 0, 1), (42, .getfield 23, 3), (45, .iload_n 2, 1), (46, .iaload, 1), (47, .if_icmp .ne 20, 3), (50, .aload_n 0, 1)] := dAll_of (by decide +kernel)
theorem dX7_isTwice_0 : decode cX7_isTwice 0 = .ok (.bipush 41, 2) := zdX7_isTwice_0.1
theorem dX7_isTwice_2 : decode cX7_isTwice 2 = .ok (.istore_n 1, 1) := zdX7_isTwice_0.2.1
theorem dX7_isTwice_3 : decode cX7_isTwice 3 = .ok (.iload_n 1, 1) := zdX7_isTwice_0.2.2.1
theorem dX7_isTwice_4 : decode cX7_isTwice 4 = .ok (.bipush 62, 2) := zdX7_isTwice_0.2.2.2.1
theorem dX7_isTwice_6 : decode cX7_isTwice 6 = .ok (.if_icmp .ge 73, 3) := zdX7_isTwice_0.2.2.2.2.1
theorem dX7_isTwice_9 : decode cX7_isTwice 9 = .ok (.bipush 41, 2) := zdX7_isTwice_0.2.2.2.2.2.1
theorem dX7_isTwice_11 : decode cX7_isTwice 11 = .ok (.istore_n 2, 1) := zdX7_isTwice_0.2.2.2.2.2.2.1
theorem dX7_isTwice_12 : decode cX7_isTwice 12 = .ok (.iload_n 2, 1) := zdX7_isTwice_0.2.2.2.2.2.2.2.1
theorem dX7_isTwice_13 : decode cX7_isTwice 13 = .ok (.iload_n 1, 1) := zdX7_isTwice_0.2.2.2.2.2.2.2.2.1
theorem dX7_isTwice_14 : decode cX7_isTwice 14 = .ok (.if_icmp .ge 59, 3) := zdX7_isTwice_0.2.2.2.2.2.2.2.2.2.1
theorem dX7_isTwice_17 : decode cX7_isTwice 17 = .ok (.aload_n 0, 1) := zdX7_isTwice_0.2.2.2.2.2.2.2.2.2.2.1
theorem dX7_isTwice_18 : decode cX7_isTwice 18 = .ok (.getfield 13, 3) := zdX7_isTwice_0.2.2.2.2.2.2.2.2.2.2.2.1
theorem dX7_isTwice_21 : decode cX7_isTwice 21 = .ok (.iload_n 1, 1) := zdX7_isTwice_0.2.2.2.2.2.2.2.2.2.2.2.2.1
theorem dX7_isTwice_22 : decode cX7_isTwice 22 = .ok (.baload, 1) := zdX7_isTwice_0.2.2.2.2.2.2.2.2.2.2.2.2.2.1
theorem dX7_isTwice_23 : decode cX7_isTwice 23 = .ok (.ifCond .eq 44, 3) := zdX7_isTwice_0.2.2.2.2.2.2.2.2.2.2.2.2.2.2.1
theorem dX7_isTwice_26 : decode cX7_isTwice 26 = .ok (.aload_n 0, 1) := zdX7_isTwice_0.2.2.2.2.2.2.2.2.2.2.2.2.2.2.2.1
theorem dX7_isTwice_27 : decode cX7_isTwice 27 = .ok (.getfield 13, 3) := zdX7_isTwice_0.2.2.2.2.2.2.2.2.2.2.2.2.2.2.2.2.1
theorem dX7_isTwice_30 : decode cX7_isTwice 30 = .ok (.iload_n 2, 1) := zdX7_isTwice_0.2.2.2.2.2.2.2.2.2.2.2.2.2.2.2.2.2.1
theorem dX7_isTwice_31 : decode cX7_isTwice 31 = .ok (.baload, 1) := zdX7_isTwice_0.2.2.2.2.2.2.2.2.2.2.2.2.2.2.2.2.2.2.1
theorem dX7_isTwice_32 : decode cX7_isTwice 32 = .ok (.ifCond .eq 35, 3) := zdX7_isTwice_0.2.2.2.2.2.2.2.2.2.2.2.2.2.2.2.2.2.2.2.1
theorem dX7_isTwice_35 : decode cX7_isTwice 35 = .ok (.aload_n 0, 1) := zdX7_isTwice_0.2.2.2.2.2.2.2.2.2.2.2.2.2.2.2.2.2.2.2.2.1
theorem dX7_isTwice_36 : decode cX7_isTwice 36 = .ok (.getfield 23, 3) := zdX7_isTwice_0.2.2.2.2.2.2.2.2.2.2.2.2.2.2.2.2.2.2.2.2.2.1
theorem dX7_isTwice_39 : decode cX7_isTwice 39 = .ok (.iload_n 1, 1) := zdX7_isTwice_0.2.2.2.2.2.2.2.2.2.2.2.2.2.2.2.2.2.2.2.2.2.2.1
theorem dX7_isTwice_40 : decode cX7_isTwice 40 = .ok (.iaload, 1) := zdX7_isTwice_0.2.2.2.2.2.2.2.2.2.2.2.2.2.2.2.2.2.2.2.2.2.2.2.1
theorem dX7_isTwice_41 : decode cX7_isTwice 41 = .ok (.aload_n 0, 1) := zdX7_isTwice_0.2.2.2.2.2.2.2.2.2.2.2.2.2.2.2.2.2.2.2.2.2.2.2.2.1
theorem dX7_isTwice_42 : decode cX7_isTwice 42 = .ok (.getfield 23, 3) := zdX7_isTwice_0.2.2.2.2.2.2.2.2.2.2.2.2.2.2.2.2.2.2.2.2.2.2.2.2.2.1
theorem dX7_isTwice_45 : decode cX7_isTwice 45 = .ok (.iload_n 2, 1) := zdX7_isTwice_0.2.2.2.2.2.2.2.2.2.2.2.2.2.2.2.2.2.2.2.2.2.2.2.2.2.2.1
theorem dX7_isTwice_46 : decode cX7_isTwice 46 = .ok (.iaload, 1) := zdX7_isTwice_0.2.2.2.2.2.2.2.2.2.2.2.2.2.2.2.2.2.2.2.2.2.2.2.2.2.2.2.1
theorem dX7_isTwice_47 : decode cX7_isTwice 47 = .ok (.if_icmp .ne 20, 3) := zdX7_isTwice_0.2.2.2.2.2.2.2.2.2.2.2.2.2.2.2.2.2.2.2.2.2.2.2.2.2.2.2.2.1
theorem dX7_isTwice_50 : decode cX7_isTwice 50 = .ok (.aload_n 0, 1) := zdX7_isTwice_0.2.2.2.2.2.2.2.2.2.2.2.2.2.2.2.2.2.2.2.2.2.2.2.2.2.2.2.2.2.1
set_option maxRecDepth 20000 in
theorem zdX7_isTwice_51 : dAll cX7_isTwice [(51, .getfield 17, 3), (54, .iload_n 1, 1), (55, .iaload, 1), (56, .aload_n 0, 1), (57, .getfield 17, 3), (60, .iload_n 2, 1), (61, .iaload, 1), (62, .if_icmp .ne 5, 3), (65, .iconst 1, 1), (66, .ireturn, 1), (67, .iinc 2 1, 3), (70, .goto (-58), 3), (73, .iinc 1 1, 3), (76, .goto (-73), 3), (79, .iconst 0, 1), (80, .ireturn, 1)] := dAll_of (by decide +kernel)
theorem dX7_isTwice_51 : decode cX7_isTwice 51 = .ok (.getfield 17, 3) := zdX7_isTwice_51.1
theorem dX7_isTwice_54 : decode cX7_isTwice 54 = .ok (.iload_n 1, 1) := zdX7_isTwice_51.2.1
theorem dX7_isTwice_55 : decode cX7_isTwice 55 = .ok (.iaload, 1) := zdX7_isTwice_51.2.2.1
theorem dX7_isTwice_56 : decode cX7_isTwice 56 = .ok (.aload_n 0, 1) := zdX7_isTwice_51.2.2.2.1
theorem dX7_isTwice_57 : decode cX7_isTwice 57 = .ok (.getfield 17, 3) := zdX7_isTwice_51.2.2.2.2.1
theorem dX7_isTwice_60 : decode cX7_isTwice 60 = .ok (.iload_n 2, 1) := zdX7_isTwice_51.2.2.2.2.2.1
theorem dX7_isTwice_61 : decode cX7_isTwice 61 = .ok (.iaload, 1) := zdX7_isTwice_51.2.2.2.2.2.2.1
theorem dX7_isTwice_62 : decode cX7_isTwice 62 = .ok (.if_icmp .ne 5, 3) := zdX7_isTwice_51.2.2.2.2.2.2.2.1
theorem dX7_isTwice_65 : decode cX7_isTwice 65 = .ok (.iconst 1, 1) := zdX7_isTwice_51.2.2.2.2.2.2.2.2.1
theorem dX7_isTwice_66 : decode cX7_isTwice 66 = .ok (.ireturn, 1) := zdX7_isTwice_51.2.2.2.2.2.2.2.2.2.1
theorem dX7_isTwice_67 : decode cX7_isTwice 67 = .ok (.iinc 2 1, 3) := zdX7_isTwice_51.2.2.2.2.2.2.2.2.2.2.1
theorem dX7_isTwice_70 : decode cX7_isTwice 70 = .ok (.goto (-58), 3) := zdX7_isTwice_51.2.2.2.2.2.2.2.2.2.2.2.1
theorem dX7_isTwice_73 : decode cX7_isTwice 73 = .ok (.iinc 1 1, 3) := zdX7_isTwice_51.2.2.2.2.2.2.2.2.2.2.2.2.1
theorem dX7_isTwice_76 : decode cX7_isTwice 76 = .ok (.goto (-73), 3) := zdX7_isTwice_51.2.2.2.2.2.2.2.2.2.2.2.2.2.1
theorem dX7_isTwice_79 : decode cX7_isTwice 79 = .ok (.iconst 0, 1) := zdX7_isTwice_51.2.2.2.2.2.2.2.2.2.2.2.2.2.2.1
theorem dX7_isTwice_80 : decode cX7_isTwice 80 = .ok (.ireturn, 1) := zdX7_isTwice_51.2.2.2.2.2.2.2.2.2.2.2.2.2.2.2.1
set_option maxRecDepth 20000 in
theorem ggX7_isLong_X7_reach : GoodIn wsX7_isLong wsX7_reach := goodIn_r _ [9, 3, 10, 1, 2, 11, 12, 16, 17, 18, 19, 20, 21, 22, 23, 24, 25, 26, 27, 28, 29, 30, 31, 32, 33, 34] rfl (by decide +kernel)
set_option maxRecDepth 20000 in
theorem gX7_isLong_X7_reach : GoodIn wsX7_isLong (wsV RX7 93 RX7 yX7_reach wsX7_reach) := goodIn_app (goodIn_of _ (by decide +kernel)) ggX7_isLong_X7_reach
set_option maxRecDepth 20000 in
theorem ggX7_isLong_X7_in : GoodIn wsX7_isLong wsX7_in := goodIn_r _ [15] rfl (by decide +kernel)
set_option maxRecDepth 20000 in
theorem gX7_isLong_X7_in : GoodIn wsX7_isLong (va_wsS RX7 76 yX7_in wsX7_in) := goodIn_app (goodIn_of _ (by decide +kernel)) ggX7_isLong_X7_in
set_option maxRecDepth 20000 in
theorem zdX7_isLong_0 : dAll cX7_isLong [(0, .iconst 0, 1), (1, .istore_n 1, 1), (2, .bipush 41, 2), (4, .istore_n 2, 1), (5, .iload_n 2, 1), (6, .bipush 62, 2), (8, .if_icmp .ge 83, 3), (11, .aload_n 0, 1), (12, .getfield 13, 3), (15, .iload_n 2, 1), (16, .baload, 1), (17, .ifCond .eq 68, 3), (20, .aload_n 0, 1), (21, .aload_n 0, 1), (22, .getfield 17, 3), (25, .iload_n 2, 1), (26, .iaload, 1), (27, .invokevirtual 93, 3), (30, .bipush 30, 2), (32, .istore_n 3, 1), (33, .iload_n 3, 1), (34, .bipush 41, 2), (36, .if_icmp .ge 49, 3), (39, .iload_n 1, 1), (40, .ifCond .ne 33, 3), (43, .aload_n 0, 1), (44, .getfield 13, 3), (47, .iload_n 3, 1), (48, .baload, 1), (49, .ifCond .eq 28, 3)] := dAll_of (by decide +kernel)
theorem dX7_isLong_0 : decode cX7_isLong 0 = .ok (.iconst 0, 1) := zdX7_isLong_0.1
theorem dX7_isLong_1 : decode cX7_isLong 1 = .ok (.istore_n 1, 1) := zdX7_isLong_0.2.1
theorem dX7_isLong_2 : decode cX7_isLong 2 = .ok (.bipush 41, 2) := zdX7_isLong_0.2.2.1
theorem dX7_isLong_4 : decode cX7_isLong 4 = .ok (.istore_n 2, 1) := zdX7_isLong_0.2.2.2.1
theorem dX7_isLong_5 : decode cX7_isLong 5 = .ok (.iload_n 2, 1) := zdX7_isLong_0.2.2.2.2.1
theorem dX7_isLong_6 : decode cX7_isLong 6 = .ok (.bipush 62, 2) := zdX7_isLong_0.2.2.2.2.2.1
theorem dX7_isLong_8 : decode cX7_isLong 8 = .ok (.if_icmp .ge 83, 3) := zdX7_isLong_0.2.2.2.2.2.2.1
theorem dX7_isLong_11 : decode cX7_isLong 11 = .ok (.aload_n 0, 1) := zdX7_isLong_0.2.2.2.2.2.2.2.1
theorem dX7_isLong_12 : decode cX7_isLong 12 = .ok (.getfield 13, 3) := zdX7_isLong_0.2.2.2.2.2.2.2.2.1
theorem dX7_isLong_15 : decode cX7_isLong 15 = .ok (.iload_n 2, 1) := zdX7_isLong_0.2.2.2.2.2.2.2.2.2.1
theorem dX7_isLong_16 : decode cX7_isLong 16 = .ok (.baload, 1) := zdX7_isLong_0.2.2.2.2.2.2.2.2.2.2.1
theorem dX7_isLong_17 : decode cX7_isLong 17 = .ok (.ifCond .eq 68, 3) := zdX7_isLong_0.2.2.2.2.2.2.2.2.2.2.2.1
theorem dX7_isLong_20 : decode cX7_isLong 20 = .ok (.aload_n 0, 1) := zdX7_isLong_0.2.2.2.2.2.2.2.2.2.2.2.2.1
theorem dX7_isLong_21 : decode cX7_isLong 21 = .ok (.aload_n 0, 1) := zdX7_isLong_0.2.2.2.2.2.2.2.2.2.2.2.2.2.1
theorem dX7_isLong_22 : decode cX7_isLong 22 = .ok (.getfield 17, 3) := zdX7_isLong_0.2.2.2.2.2.2.2.2.2.2.2.2.2.2.1
theorem dX7_isLong_25 : decode cX7_isLong 25 = .ok (.iload_n 2, 1) := zdX7_isLong_0.2.2.2.2.2.2.2.2.2.2.2.2.2.2.2.1
theorem dX7_isLong_26 : decode cX7_isLong 26 = .ok (.iaload, 1) := zdX7_isLong_0.2.2.2.2.2.2.2.2.2.2.2.2.2.2.2.2.1
theorem dX7_isLong_27 : decode cX7_isLong 27 = .ok (.invokevirtual 93, 3) := zdX7_isLong_0.2.2.2.2.2.2.2.2.2.2.2.2.2.2.2.2.2.1
theorem dX7_isLong_30 : decode cX7_isLong 30 = .ok (.bipush 30, 2) := zdX7_isLong_0.2.2.2.2.2.2.2.2.2.2.2.2.2.2.2.2.2.2.1
theorem dX7_isLong_32 : decode cX7_isLong 32 = .ok (.istore_n 3, 1) := zdX7_isLong_0.2.2.2.2.2.2.2.2.2.2.2.2.2.2.2.2.2.2.2.1
theorem dX7_isLong_33 : decode cX7_isLong 33 = .ok (.iload_n 3, 1) := zdX7_isLong_0.2.2.2.2.2.2.2.2.2.2.2.2.2.2.2.2.2.2.2.2.1
theorem dX7_isLong_34 : decode cX7_isLong 34 = .ok (.bipush 41, 2) := zdX7_isLong_0.2.2.2.2.2.2.2.2.2.2.2.2.2.2.2.2.2.2.2.2.2.1
theorem dX7_isLong_36 : decode cX7_isLong 36 = .ok (.if_icmp .ge 49, 3) := zdX7_isLong_0.2.2.2.2.2.2.2.2.2.2.2.2.2.2.2.2.2.2.2.2.2.2.1
theorem dX7_isLong_39 : decode cX7_isLong 39 = .ok (.iload_n 1, 1) := zdX7_isLong_0.2.2.2.2.2.2.2.2.2.2.2.2.2.2.2.2.2.2.2.2.2.2.2.1
theorem dX7_isLong_40 : decode cX7_isLong 40 = .ok (.ifCond .ne 33, 3) := zdX7_isLong_0.2.2.2.2.2.2.2.2.2.2.2.2.2.2.2.2.2.2.2.2.2.2.2.2.1
theorem dX7_isLong_43 : decode cX7_isLong 43 = .ok (.aload_n 0, 1) := zdX7_isLong_0.2.2.2.2.2.2.2.2.2.2.2.2.2.2.2.2.2.2.2.2.2.2.2.2.2.1
theorem dX7_isLong_44 : decode cX7_isLong 44 = .ok (.getfield 13, 3) := zdX7_isLong_0.2.2.2.2.2.2.2.2.2.2.2.2.2.2.2.2.2.2.2.2.2.2.2.2.2.2.1
theorem dX7_isLong_47 : decode cX7_isLong 47 = .ok (.iload_n 3, 1) := zdX7_isLong_0.2.2.2.2.2.2.2.2.2.2.2.2.2.2.2.2.2.2.2.2.2.2.2.2.2.2.2.1
theorem dX7_isLong_48 : decode cX7_isLong 48 = .ok (.baload, 1) := zdX7_isLong_0.2.2.2.2.2.2.2.2.2.2.2.2.2.2.2.2.2.2.2.2.2.2.2.2.2.2.2.2.1
theorem dX7_isLong_49 : decode cX7_isLong 49 = .ok (.ifCond .eq 28, 3) := zdX7_isLong_0.2.2.2.2.2.2.2.2.2.2.2.2.2.2.2.2.2.2.2.2.2.2.2.2.2.2.2.2.2.1
set_option maxRecDepth 20000 in
theorem zdX7_isLong_52 : dAll cX7_isLong [(52, .aload_n 0, 1), (53, .getfield 29, 3), (56, .aload_n 0, 1), (57, .getfield 17, 3), (60, .iload_n 3, 1), (61, .iaload, 1), (62, .iaload, 1), (63, .bipush 100, 2), (65, .ldc 97, 2), (67, .invokestatic 76, 3), (70, .ifCond .eq 7, 3), (73, .iconst 1, 1), (74, .goto 4, 3), (77, .iconst 0, 1), (78, .istore_n 1, 1), (79, .iinc 3 1, 3), (82, .goto (-49), 3), (85, .iinc 2 1, 3), (88, .goto (-83), 3), (91, .iload_n 1, 1), (92, .ireturn, 1)] := dAll_of (by decide +kernel)
theorem dX7_isLong_52 : decode cX7_isLong 52 = .ok (.aload_n 0, 1) := zdX7_isLong_52.1
theorem dX7_isLong_53 : decode cX7_isLong 53 = .ok (.getfield 29, 3) := zdX7_isLong_52.2.1
theorem dX7_isLong_56 : decode cX7_isLong 56 = .ok (.aload_n 0, 1) := zdX7_isLong_52.2.2.1
theorem dX7_isLong_57 : decode cX7_isLong 57 = .ok (.getfield 17, 3) := zdX7_isLong_52.2.2.2.1
theorem dX7_isLong_60 : decode cX7_isLong 60 = .ok (.iload_n 3, 1) := zdX7_isLong_52.2.2.2.2.1
theorem dX7_isLong_61 : decode cX7_isLong 61 = .ok (.iaload, 1) := zdX7_isLong_52.2.2.2.2.2.1
theorem dX7_isLong_62 : decode cX7_isLong 62 = .ok (.iaload, 1) := zdX7_isLong_52.2.2.2.2.2.2.1
theorem dX7_isLong_63 : decode cX7_isLong 63 = .ok (.bipush 100, 2) := zdX7_isLong_52.2.2.2.2.2.2.2.1
theorem dX7_isLong_65 : decode cX7_isLong 65 = .ok (.ldc 97, 2) := zdX7_isLong_52.2.2.2.2.2.2.2.2.1
theorem dX7_isLong_67 : decode cX7_isLong 67 = .ok (.invokestatic 76, 3) := zdX7_isLong_52.2.2.2.2.2.2.2.2.2.1
theorem dX7_isLong_70 : decode cX7_isLong 70 = .ok (.ifCond .eq 7, 3) := zdX7_isLong_52.2.2.2.2.2.2.2.2.2.2.1
theorem dX7_isLong_73 : decode cX7_isLong 73 = .ok (.iconst 1, 1) := zdX7_isLong_52.2.2.2.2.2.2.2.2.2.2.2.1
theorem dX7_isLong_74 : decode cX7_isLong 74 = .ok (.goto 4, 3) := zdX7_isLong_52.2.2.2.2.2.2.2.2.2.2.2.2.1
theorem dX7_isLong_77 : decode cX7_isLong 77 = .ok (.iconst 0, 1) := zdX7_isLong_52.2.2.2.2.2.2.2.2.2.2.2.2.2.1
theorem dX7_isLong_78 : decode cX7_isLong 78 = .ok (.istore_n 1, 1) := zdX7_isLong_52.2.2.2.2.2.2.2.2.2.2.2.2.2.2.1
theorem dX7_isLong_79 : decode cX7_isLong 79 = .ok (.iinc 3 1, 3) := zdX7_isLong_52.2.2.2.2.2.2.2.2.2.2.2.2.2.2.2.1
theorem dX7_isLong_82 : decode cX7_isLong 82 = .ok (.goto (-49), 3) := zdX7_isLong_52.2.2.2.2.2.2.2.2.2.2.2.2.2.2.2.2.1
theorem dX7_isLong_85 : decode cX7_isLong 85 = .ok (.iinc 2 1, 3) := zdX7_isLong_52.2.2.2.2.2.2.2.2.2.2.2.2.2.2.2.2.2.1
theorem dX7_isLong_88 : decode cX7_isLong 88 = .ok (.goto (-83), 3) := zdX7_isLong_52.2.2.2.2.2.2.2.2.2.2.2.2.2.2.2.2.2.2.1
theorem dX7_isLong_91 : decode cX7_isLong 91 = .ok (.iload_n 1, 1) := zdX7_isLong_52.2.2.2.2.2.2.2.2.2.2.2.2.2.2.2.2.2.2.2.1
theorem dX7_isLong_92 : decode cX7_isLong 92 = .ok (.ireturn, 1) := zdX7_isLong_52.2.2.2.2.2.2.2.2.2.2.2.2.2.2.2.2.2.2.2.2.1
set_option maxRecDepth 20000 in
theorem ggX7_isSo_X7_isServed : GoodIn wsX7_isSo wsX7_isServed := goodIn_r _ [9, 2, 10, 3, 11, 12, 13, 14, 15, 8, 16, 4, 29, 30, 31, 32, 33, 34, 35, 36, 37, 38, 39, 40, 41, 42, 43, 44, 45, 46, 47] rfl (by decide +kernel)
set_option maxRecDepth 20000 in
theorem gX7_isSo_X7_isServed : GoodIn wsX7_isSo (wsV RX7 98 RX7 yX7_isServed wsX7_isServed) := goodIn_app (goodIn_of _ (by decide +kernel)) ggX7_isSo_X7_isServed
set_option maxRecDepth 20000 in
theorem ggX7_isSo_X7_isTwice : GoodIn wsX7_isSo wsX7_isTwice := goodIn_r _ [20, 2, 4, 10, 29, 30, 31, 32, 33, 34, 35, 36, 37, 38, 39, 40, 41, 42, 43, 44, 45, 46, 47] rfl (by decide +kernel)
set_option maxRecDepth 20000 in
theorem gX7_isSo_X7_isTwice : GoodIn wsX7_isSo (wsV RX7 101 RX7 yX7_isTwice wsX7_isTwice) := goodIn_app (goodIn_of _ (by decide +kernel)) ggX7_isSo_X7_isTwice
set_option maxRecDepth 20000 in
theorem ggX7_isSo_X7_isLong : GoodIn wsX7_isSo wsX7_isLong := goodIn_r _ [24, 2, 10, 11, 25, 13, 14, 15, 8, 16, 12, 3, 4, 26, 27, 28, 29, 30, 31, 32, 33, 34, 35, 36, 37, 38, 39, 40, 41, 42, 43, 44, 45, 46, 47] rfl (by decide +kernel)
set_option maxRecDepth 20000 in
theorem gX7_isSo_X7_isLong : GoodIn wsX7_isSo (wsV RX7 105 RX7 yX7_isLong wsX7_isLong) := goodIn_app (goodIn_of _ (by decide +kernel)) ggX7_isSo_X7_isLong
set_option maxRecDepth 20000 in
theorem zdX7_isSo_0 : dAll cX7_isSo [(0, .iconst 0, 1), (1, .istore_n 2, 1), (2, .iconst 0, 1), (3, .istore_n 3, 1), (4, .iconst 0, 1), (5, .istore 4, 2), (7, .iload 4, 2), (9, .bipush 62, 2), (11, .if_icmp .ge 134, 3), (14, .iload_n 2, 1), (15, .ifCond .ne 37, 3), (18, .iload_n 1, 1), (19, .ifCond .ne 37, 3), (22, .aload_n 0, 1), (23, .getfield 7, 3), (26, .iload 4, 2), (28, .iaload, 1), (29, .iconst 2, 1), (30, .if_icmp .ne 26, 3), (33, .aload_n 0, 1), (34, .getfield 13, 3), (37, .iload 4, 2), (39, .baload, 1), (40, .ifCond .eq 16, 3), (43, .aload_n 0, 1), (44, .iload 4, 2), (46, .invokevirtual 98, 3), (49, .ifCond .ne 7, 3), (52, .iconst 1, 1), (53, .goto 4, 3)] := dAll_of (by decide +kernel)
theorem dX7_isSo_0 : decode cX7_isSo 0 = .ok (.iconst 0, 1) := zdX7_isSo_0.1
theorem dX7_isSo_1 : decode cX7_isSo 1 = .ok (.istore_n 2, 1) := zdX7_isSo_0.2.1
theorem dX7_isSo_2 : decode cX7_isSo 2 = .ok (.iconst 0, 1) := zdX7_isSo_0.2.2.1
theorem dX7_isSo_3 : decode cX7_isSo 3 = .ok (.istore_n 3, 1) := zdX7_isSo_0.2.2.2.1
theorem dX7_isSo_4 : decode cX7_isSo 4 = .ok (.iconst 0, 1) := zdX7_isSo_0.2.2.2.2.1
theorem dX7_isSo_5 : decode cX7_isSo 5 = .ok (.istore 4, 2) := zdX7_isSo_0.2.2.2.2.2.1
theorem dX7_isSo_7 : decode cX7_isSo 7 = .ok (.iload 4, 2) := zdX7_isSo_0.2.2.2.2.2.2.1
theorem dX7_isSo_9 : decode cX7_isSo 9 = .ok (.bipush 62, 2) := zdX7_isSo_0.2.2.2.2.2.2.2.1
theorem dX7_isSo_11 : decode cX7_isSo 11 = .ok (.if_icmp .ge 134, 3) := zdX7_isSo_0.2.2.2.2.2.2.2.2.1
theorem dX7_isSo_14 : decode cX7_isSo 14 = .ok (.iload_n 2, 1) := zdX7_isSo_0.2.2.2.2.2.2.2.2.2.1
theorem dX7_isSo_15 : decode cX7_isSo 15 = .ok (.ifCond .ne 37, 3) := zdX7_isSo_0.2.2.2.2.2.2.2.2.2.2.1
theorem dX7_isSo_18 : decode cX7_isSo 18 = .ok (.iload_n 1, 1) := zdX7_isSo_0.2.2.2.2.2.2.2.2.2.2.2.1
theorem dX7_isSo_19 : decode cX7_isSo 19 = .ok (.ifCond .ne 37, 3) := zdX7_isSo_0.2.2.2.2.2.2.2.2.2.2.2.2.1
theorem dX7_isSo_22 : decode cX7_isSo 22 = .ok (.aload_n 0, 1) := zdX7_isSo_0.2.2.2.2.2.2.2.2.2.2.2.2.2.1
theorem dX7_isSo_23 : decode cX7_isSo 23 = .ok (.getfield 7, 3) := zdX7_isSo_0.2.2.2.2.2.2.2.2.2.2.2.2.2.2.1
theorem dX7_isSo_26 : decode cX7_isSo 26 = .ok (.iload 4, 2) := zdX7_isSo_0.2.2.2.2.2.2.2.2.2.2.2.2.2.2.2.1
theorem dX7_isSo_28 : decode cX7_isSo 28 = .ok (.iaload, 1) := zdX7_isSo_0.2.2.2.2.2.2.2.2.2.2.2.2.2.2.2.2.1
theorem dX7_isSo_29 : decode cX7_isSo 29 = .ok (.iconst 2, 1) := zdX7_isSo_0.2.2.2.2.2.2.2.2.2.2.2.2.2.2.2.2.2.1
theorem dX7_isSo_30 : decode cX7_isSo 30 = .ok (.if_icmp .ne 26, 3) := zdX7_isSo_0.2.2.2.2.2.2.2.2.2.2.2.2.2.2.2.2.2.2.1
theorem dX7_isSo_33 : decode cX7_isSo 33 = .ok (.aload_n 0, 1) := zdX7_isSo_0.2.2.2.2.2.2.2.2.2.2.2.2.2.2.2.2.2.2.2.1
theorem dX7_isSo_34 : decode cX7_isSo 34 = .ok (.getfield 13, 3) := zdX7_isSo_0.2.2.2.2.2.2.2.2.2.2.2.2.2.2.2.2.2.2.2.2.1
theorem dX7_isSo_37 : decode cX7_isSo 37 = .ok (.iload 4, 2) := zdX7_isSo_0.2.2.2.2.2.2.2.2.2.2.2.2.2.2.2.2.2.2.2.2.2.1
theorem dX7_isSo_39 : decode cX7_isSo 39 = .ok (.baload, 1) := zdX7_isSo_0.2.2.2.2.2.2.2.2.2.2.2.2.2.2.2.2.2.2.2.2.2.2.1
theorem dX7_isSo_40 : decode cX7_isSo 40 = .ok (.ifCond .eq 16, 3) := zdX7_isSo_0.2.2.2.2.2.2.2.2.2.2.2.2.2.2.2.2.2.2.2.2.2.2.2.1
theorem dX7_isSo_43 : decode cX7_isSo 43 = .ok (.aload_n 0, 1) := zdX7_isSo_0.2.2.2.2.2.2.2.2.2.2.2.2.2.2.2.2.2.2.2.2.2.2.2.2.1
theorem dX7_isSo_44 : decode cX7_isSo 44 = .ok (.iload 4, 2) := zdX7_isSo_0.2.2.2.2.2.2.2.2.2.2.2.2.2.2.2.2.2.2.2.2.2.2.2.2.2.1
theorem dX7_isSo_46 : decode cX7_isSo 46 = .ok (.invokevirtual 98, 3) := zdX7_isSo_0.2.2.2.2.2.2.2.2.2.2.2.2.2.2.2.2.2.2.2.2.2.2.2.2.2.2.1
theorem dX7_isSo_49 : decode cX7_isSo 49 = .ok (.ifCond .ne 7, 3) := zdX7_isSo_0.2.2.2.2.2.2.2.2.2.2.2.2.2.2.2.2.2.2.2.2.2.2.2.2.2.2.2.1
theorem dX7_isSo_52 : decode cX7_isSo 52 = .ok (.iconst 1, 1) := zdX7_isSo_0.2.2.2.2.2.2.2.2.2.2.2.2.2.2.2.2.2.2.2.2.2.2.2.2.2.2.2.2.1
theorem dX7_isSo_53 : decode cX7_isSo 53 = .ok (.goto 4, 3) := zdX7_isSo_0.2.2.2.2.2.2.2.2.2.2.2.2.2.2.2.2.2.2.2.2.2.2.2.2.2.2.2.2.2.1
set_option maxRecDepth 20000 in
theorem zdX7_isSo_56 : dAll cX7_isSo [(56, .iconst 0, 1), (57, .istore_n 2, 1), (58, .iload_n 2, 1), (59, .ifCond .ne 40, 3), (62, .iload_n 1, 1), (63, .iconst 2, 1), (64, .if_icmp .ne 39, 3), (67, .aload_n 0, 1), (68, .getfield 7, 3), (71, .iload 4, 2), (73, .iaload, 1), (74, .iconst 1, 1), (75, .if_icmp .ne 28, 3), (78, .aload_n 0, 1), (79, .getfield 13, 3), (82, .iload 4, 2), (84, .baload, 1), (85, .ifCond .eq 18, 3), (88, .aload_n 0, 1), (89, .getfield 20, 3), (92, .iload 4, 2), (94, .iaload, 1), (95, .iconst 3, 1), (96, .if_icmp .le 7, 3), (99, .iconst 1, 1), (100, .goto 4, 3), (103, .iconst 0, 1), (104, .istore_n 2, 1), (105, .iload_n 3, 1), (106, .aload_n 0, 1)] := dAll_of (by decide +kernel)
theorem dX7_isSo_56 : decode cX7_isSo 56 = .ok (.iconst 0, 1) := zdX7_isSo_56.1
theorem dX7_isSo_57 : decode cX7_isSo 57 = .ok (.istore_n 2, 1) := zdX7_isSo_56.2.1
theorem dX7_isSo_58 : decode cX7_isSo 58 = .ok (.iload_n 2, 1) := zdX7_isSo_56.2.2.1
theorem dX7_isSo_59 : decode cX7_isSo 59 = .ok (.ifCond .ne 40, 3) := zdX7_isSo_56.2.2.2.1
theorem dX7_isSo_62 : decode cX7_isSo 62 = .ok (.iload_n 1, 1) := zdX7_isSo_56.2.2.2.2.1
theorem dX7_isSo_63 : decode cX7_isSo 63 = .ok (.iconst 2, 1) := zdX7_isSo_56.2.2.2.2.2.1
theorem dX7_isSo_64 : decode cX7_isSo 64 = .ok (.if_icmp .ne 39, 3) := zdX7_isSo_56.2.2.2.2.2.2.1
theorem dX7_isSo_67 : decode cX7_isSo 67 = .ok (.aload_n 0, 1) := zdX7_isSo_56.2.2.2.2.2.2.2.1
theorem dX7_isSo_68 : decode cX7_isSo 68 = .ok (.getfield 7, 3) := zdX7_isSo_56.2.2.2.2.2.2.2.2.1
theorem dX7_isSo_71 : decode cX7_isSo 71 = .ok (.iload 4, 2) := zdX7_isSo_56.2.2.2.2.2.2.2.2.2.1
theorem dX7_isSo_73 : decode cX7_isSo 73 = .ok (.iaload, 1) := zdX7_isSo_56.2.2.2.2.2.2.2.2.2.2.1
theorem dX7_isSo_74 : decode cX7_isSo 74 = .ok (.iconst 1, 1) := zdX7_isSo_56.2.2.2.2.2.2.2.2.2.2.2.1
theorem dX7_isSo_75 : decode cX7_isSo 75 = .ok (.if_icmp .ne 28, 3) := zdX7_isSo_56.2.2.2.2.2.2.2.2.2.2.2.2.1
theorem dX7_isSo_78 : decode cX7_isSo 78 = .ok (.aload_n 0, 1) := zdX7_isSo_56.2.2.2.2.2.2.2.2.2.2.2.2.2.1
theorem dX7_isSo_79 : decode cX7_isSo 79 = .ok (.getfield 13, 3) := zdX7_isSo_56.2.2.2.2.2.2.2.2.2.2.2.2.2.2.1
theorem dX7_isSo_82 : decode cX7_isSo 82 = .ok (.iload 4, 2) := zdX7_isSo_56.2.2.2.2.2.2.2.2.2.2.2.2.2.2.2.1
theorem dX7_isSo_84 : decode cX7_isSo 84 = .ok (.baload, 1) := zdX7_isSo_56.2.2.2.2.2.2.2.2.2.2.2.2.2.2.2.2.1
theorem dX7_isSo_85 : decode cX7_isSo 85 = .ok (.ifCond .eq 18, 3) := zdX7_isSo_56.2.2.2.2.2.2.2.2.2.2.2.2.2.2.2.2.2.1
theorem dX7_isSo_88 : decode cX7_isSo 88 = .ok (.aload_n 0, 1) := zdX7_isSo_56.2.2.2.2.2.2.2.2.2.2.2.2.2.2.2.2.2.2.1
theorem dX7_isSo_89 : decode cX7_isSo 89 = .ok (.getfield 20, 3) := zdX7_isSo_56.2.2.2.2.2.2.2.2.2.2.2.2.2.2.2.2.2.2.2.1
theorem dX7_isSo_92 : decode cX7_isSo 92 = .ok (.iload 4, 2) := zdX7_isSo_56.2.2.2.2.2.2.2.2.2.2.2.2.2.2.2.2.2.2.2.2.1
theorem dX7_isSo_94 : decode cX7_isSo 94 = .ok (.iaload, 1) := zdX7_isSo_56.2.2.2.2.2.2.2.2.2.2.2.2.2.2.2.2.2.2.2.2.2.1
theorem dX7_isSo_95 : decode cX7_isSo 95 = .ok (.iconst 3, 1) := zdX7_isSo_56.2.2.2.2.2.2.2.2.2.2.2.2.2.2.2.2.2.2.2.2.2.2.1
theorem dX7_isSo_96 : decode cX7_isSo 96 = .ok (.if_icmp .le 7, 3) := zdX7_isSo_56.2.2.2.2.2.2.2.2.2.2.2.2.2.2.2.2.2.2.2.2.2.2.2.1
theorem dX7_isSo_99 : decode cX7_isSo 99 = .ok (.iconst 1, 1) := zdX7_isSo_56.2.2.2.2.2.2.2.2.2.2.2.2.2.2.2.2.2.2.2.2.2.2.2.2.1
theorem dX7_isSo_100 : decode cX7_isSo 100 = .ok (.goto 4, 3) := zdX7_isSo_56.2.2.2.2.2.2.2.2.2.2.2.2.2.2.2.2.2.2.2.2.2.2.2.2.2.1
theorem dX7_isSo_103 : decode cX7_isSo 103 = .ok (.iconst 0, 1) := zdX7_isSo_56.2.2.2.2.2.2.2.2.2.2.2.2.2.2.2.2.2.2.2.2.2.2.2.2.2.2.1
theorem dX7_isSo_104 : decode cX7_isSo 104 = .ok (.istore_n 2, 1) := zdX7_isSo_56.2.2.2.2.2.2.2.2.2.2.2.2.2.2.2.2.2.2.2.2.2.2.2.2.2.2.2.1
theorem dX7_isSo_105 : decode cX7_isSo 105 = .ok (.iload_n 3, 1) := zdX7_isSo_56.2.2.2.2.2.2.2.2.2.2.2.2.2.2.2.2.2.2.2.2.2.2.2.2.2.2.2.2.1
theorem dX7_isSo_106 : decode cX7_isSo 106 = .ok (.aload_n 0, 1) := zdX7_isSo_56.2.2.2.2.2.2.2.2.2.2.2.2.2.2.2.2.2.2.2.2.2.2.2.2.2.2.2.2.2.1
set_option maxRecDepth 20000 in
theorem zdX7_isSo_107 : dAll cX7_isSo [(107, .getfield 7, 3), (110, .iload 4, 2), (112, .iaload, 1), (113, .ifCond .ne 23, 3), (116, .aload_n 0, 1), (117, .getfield 13, 3), (120, .iload 4, 2), (122, .baload, 1), (123, .ifCond .eq 13, 3), (126, .aload_n 0, 1), (127, .getfield 23, 3), (130, .iload 4, 2), (132, .iaload, 1), (133, .goto 4, 3), (136, .iconst 0, 1), (137, .iadd, 1), (138, .istore_n 3, 1), (139, .iinc 4 1, 3), (142, .goto (-135), 3), (145, .iload_n 1, 1), (146, .ifCond .ne 7, 3), (149, .iload_n 2, 1), (150, .goto 56, 3), (153, .iload_n 1, 1), (154, .iconst 1, 1), (155, .if_icmp .ne 10, 3), (158, .aload_n 0, 1), (159, .invokevirtual 101, 3), (162, .goto 44, 3), (165, .iload_n 1, 1)] := dAll_of (by decide +kernel)
theorem dX7_isSo_107 : decode cX7_isSo 107 = .ok (.getfield 7, 3) := zdX7_isSo_107.1
theorem dX7_isSo_110 : decode cX7_isSo 110 = .ok (.iload 4, 2) := zdX7_isSo_107.2.1
theorem dX7_isSo_112 : decode cX7_isSo 112 = .ok (.iaload, 1) := zdX7_isSo_107.2.2.1
theorem dX7_isSo_113 : decode cX7_isSo 113 = .ok (.ifCond .ne 23, 3) := zdX7_isSo_107.2.2.2.1
theorem dX7_isSo_116 : decode cX7_isSo 116 = .ok (.aload_n 0, 1) := zdX7_isSo_107.2.2.2.2.1
theorem dX7_isSo_117 : decode cX7_isSo 117 = .ok (.getfield 13, 3) := zdX7_isSo_107.2.2.2.2.2.1
theorem dX7_isSo_120 : decode cX7_isSo 120 = .ok (.iload 4, 2) := zdX7_isSo_107.2.2.2.2.2.2.1
theorem dX7_isSo_122 : decode cX7_isSo 122 = .ok (.baload, 1) := zdX7_isSo_107.2.2.2.2.2.2.2.1
theorem dX7_isSo_123 : decode cX7_isSo 123 = .ok (.ifCond .eq 13, 3) := zdX7_isSo_107.2.2.2.2.2.2.2.2.1
theorem dX7_isSo_126 : decode cX7_isSo 126 = .ok (.aload_n 0, 1) := zdX7_isSo_107.2.2.2.2.2.2.2.2.2.1
theorem dX7_isSo_127 : decode cX7_isSo 127 = .ok (.getfield 23, 3) := zdX7_isSo_107.2.2.2.2.2.2.2.2.2.2.1
theorem dX7_isSo_130 : decode cX7_isSo 130 = .ok (.iload 4, 2) := zdX7_isSo_107.2.2.2.2.2.2.2.2.2.2.2.1
theorem dX7_isSo_132 : decode cX7_isSo 132 = .ok (.iaload, 1) := zdX7_isSo_107.2.2.2.2.2.2.2.2.2.2.2.2.1
theorem dX7_isSo_133 : decode cX7_isSo 133 = .ok (.goto 4, 3) := zdX7_isSo_107.2.2.2.2.2.2.2.2.2.2.2.2.2.1
theorem dX7_isSo_136 : decode cX7_isSo 136 = .ok (.iconst 0, 1) := zdX7_isSo_107.2.2.2.2.2.2.2.2.2.2.2.2.2.2.1
theorem dX7_isSo_137 : decode cX7_isSo 137 = .ok (.iadd, 1) := zdX7_isSo_107.2.2.2.2.2.2.2.2.2.2.2.2.2.2.2.1
theorem dX7_isSo_138 : decode cX7_isSo 138 = .ok (.istore_n 3, 1) := zdX7_isSo_107.2.2.2.2.2.2.2.2.2.2.2.2.2.2.2.2.1
theorem dX7_isSo_139 : decode cX7_isSo 139 = .ok (.iinc 4 1, 3) := zdX7_isSo_107.2.2.2.2.2.2.2.2.2.2.2.2.2.2.2.2.2.1
theorem dX7_isSo_142 : decode cX7_isSo 142 = .ok (.goto (-135), 3) := zdX7_isSo_107.2.2.2.2.2.2.2.2.2.2.2.2.2.2.2.2.2.2.1
theorem dX7_isSo_145 : decode cX7_isSo 145 = .ok (.iload_n 1, 1) := zdX7_isSo_107.2.2.2.2.2.2.2.2.2.2.2.2.2.2.2.2.2.2.2.1
theorem dX7_isSo_146 : decode cX7_isSo 146 = .ok (.ifCond .ne 7, 3) := zdX7_isSo_107.2.2.2.2.2.2.2.2.2.2.2.2.2.2.2.2.2.2.2.2.1
theorem dX7_isSo_149 : decode cX7_isSo 149 = .ok (.iload_n 2, 1) := zdX7_isSo_107.2.2.2.2.2.2.2.2.2.2.2.2.2.2.2.2.2.2.2.2.2.1
theorem dX7_isSo_150 : decode cX7_isSo 150 = .ok (.goto 56, 3) := zdX7_isSo_107.2.2.2.2.2.2.2.2.2.2.2.2.2.2.2.2.2.2.2.2.2.2.1
theorem dX7_isSo_153 : decode cX7_isSo 153 = .ok (.iload_n 1, 1) := zdX7_isSo_107.2.2.2.2.2.2.2.2.2.2.2.2.2.2.2.2.2.2.2.2.2.2.2.1
theorem dX7_isSo_154 : decode cX7_isSo 154 = .ok (.iconst 1, 1) := zdX7_isSo_107.2.2.2.2.2.2.2.2.2.2.2.2.2.2.2.2.2.2.2.2.2.2.2.2.1
theorem dX7_isSo_155 : decode cX7_isSo 155 = .ok (.if_icmp .ne 10, 3) := zdX7_isSo_107.2.2.2.2.2.2.2.2.2.2.2.2.2.2.2.2.2.2.2.2.2.2.2.2.2.1
theorem dX7_isSo_158 : decode cX7_isSo 158 = .ok (.aload_n 0, 1) := zdX7_isSo_107.2.2.2.2.2.2.2.2.2.2.2.2.2.2.2.2.2.2.2.2.2.2.2.2.2.2.1
theorem dX7_isSo_159 : decode cX7_isSo 159 = .ok (.invokevirtual 101, 3) := zdX7_isSo_107.2.2.2.2.2.2.2.2.2.2.2.2.2.2.2.2.2.2.2.2.2.2.2.2.2.2.2.1
theorem dX7_isSo_162 : decode cX7_isSo 162 = .ok (.goto 44, 3) := zdX7_isSo_107.2.2.2.2.2.2.2.2.2.2.2.2.2.2.2.2.2.2.2.2.2.2.2.2.2.2.2.2.1
theorem dX7_isSo_165 : decode cX7_isSo 165 = .ok (.iload_n 1, 1) := zdX7_isSo_107.2.2.2.2.2.2.2.2.2.2.2.2.2.2.2.2.2.2.2.2.2.2.2.2.2.2.2.2.2.1
set_option maxRecDepth 20000 in
theorem zdX7_isSo_166 : dAll cX7_isSo [(166, .iconst 2, 1), (167, .if_icmp .ne 15, 3), (170, .iload_n 2, 1), (171, .ifCond .ne 7, 3), (174, .iconst 1, 1), (175, .goto 31, 3), (178, .iconst 0, 1), (179, .goto 27, 3), (182, .iload_n 1, 1), (183, .iconst 3, 1), (184, .if_icmp .ne 10, 3), (187, .aload_n 0, 1), (188, .invokevirtual 105, 3), (191, .goto 15, 3), (194, .iload_n 3, 1), (195, .sipush 300, 3), (198, .if_icmp .le 7, 3), (201, .iconst 1, 1), (202, .goto 4, 3), (205, .iconst 0, 1), (206, .ireturn, 1)] := dAll_of (by decide +kernel)
theorem dX7_isSo_166 : decode cX7_isSo 166 = .ok (.iconst 2, 1) := zdX7_isSo_166.1
theorem dX7_isSo_167 : decode cX7_isSo 167 = .ok (.if_icmp .ne 15, 3) := zdX7_isSo_166.2.1
theorem dX7_isSo_170 : decode cX7_isSo 170 = .ok (.iload_n 2, 1) := zdX7_isSo_166.2.2.1
theorem dX7_isSo_171 : decode cX7_isSo 171 = .ok (.ifCond .ne 7, 3) := zdX7_isSo_166.2.2.2.1
theorem dX7_isSo_174 : decode cX7_isSo 174 = .ok (.iconst 1, 1) := zdX7_isSo_166.2.2.2.2.1
theorem dX7_isSo_175 : decode cX7_isSo 175 = .ok (.goto 31, 3) := zdX7_isSo_166.2.2.2.2.2.1
theorem dX7_isSo_178 : decode cX7_isSo 178 = .ok (.iconst 0, 1) := zdX7_isSo_166.2.2.2.2.2.2.1
theorem dX7_isSo_179 : decode cX7_isSo 179 = .ok (.goto 27, 3) := zdX7_isSo_166.2.2.2.2.2.2.2.1
theorem dX7_isSo_182 : decode cX7_isSo 182 = .ok (.iload_n 1, 1) := zdX7_isSo_166.2.2.2.2.2.2.2.2.1
theorem dX7_isSo_183 : decode cX7_isSo 183 = .ok (.iconst 3, 1) := zdX7_isSo_166.2.2.2.2.2.2.2.2.2.1
theorem dX7_isSo_184 : decode cX7_isSo 184 = .ok (.if_icmp .ne 10, 3) := zdX7_isSo_166.2.2.2.2.2.2.2.2.2.2.1
theorem dX7_isSo_187 : decode cX7_isSo 187 = .ok (.aload_n 0, 1) := zdX7_isSo_166.2.2.2.2.2.2.2.2.2.2.2.1
theorem dX7_isSo_188 : decode cX7_isSo 188 = .ok (.invokevirtual 105, 3) := zdX7_isSo_166.2.2.2.2.2.2.2.2.2.2.2.2.1
theorem dX7_isSo_191 : decode cX7_isSo 191 = .ok (.goto 15, 3) := zdX7_isSo_166.2.2.2.2.2.2.2.2.2.2.2.2.2.1
theorem dX7_isSo_194 : decode cX7_isSo 194 = .ok (.iload_n 3, 1) := zdX7_isSo_166.2.2.2.2.2.2.2.2.2.2.2.2.2.2.1
theorem dX7_isSo_195 : decode cX7_isSo 195 = .ok (.sipush 300, 3) := zdX7_isSo_166.2.2.2.2.2.2.2.2.2.2.2.2.2.2.2.1
theorem dX7_isSo_198 : decode cX7_isSo 198 = .ok (.if_icmp .le 7, 3) := zdX7_isSo_166.2.2.2.2.2.2.2.2.2.2.2.2.2.2.2.2.1
theorem dX7_isSo_201 : decode cX7_isSo 201 = .ok (.iconst 1, 1) := zdX7_isSo_166.2.2.2.2.2.2.2.2.2.2.2.2.2.2.2.2.2.1
theorem dX7_isSo_202 : decode cX7_isSo 202 = .ok (.goto 4, 3) := zdX7_isSo_166.2.2.2.2.2.2.2.2.2.2.2.2.2.2.2.2.2.2.1
theorem dX7_isSo_205 : decode cX7_isSo 205 = .ok (.iconst 0, 1) := zdX7_isSo_166.2.2.2.2.2.2.2.2.2.2.2.2.2.2.2.2.2.2.2.1
theorem dX7_isSo_206 : decode cX7_isSo 206 = .ok (.ireturn, 1) := zdX7_isSo_166.2.2.2.2.2.2.2.2.2.2.2.2.2.2.2.2.2.2.2.2.1
set_option maxRecDepth 20000 in
theorem ggX7_holds_X7_in : GoodIn wsX7_holds wsX7_in := goodIn_r _ [4] rfl (by decide +kernel)
set_option maxRecDepth 20000 in
theorem gX7_holds_X7_in : GoodIn wsX7_holds (va_wsS RX7 76 yX7_in wsX7_in) := goodIn_app (goodIn_of _ (by decide +kernel)) ggX7_holds_X7_in
set_option maxRecDepth 20000 in
theorem ggX7_holds_X7_throwing : GoodIn wsX7_holds wsX7_throwing := goodIn_r _ [8, 9, 38, 39, 40, 41, 42, 43, 44, 45, 46, 47, 48, 49, 50, 51, 52, 53, 54, 55, 56] rfl (by decide +kernel)
set_option maxRecDepth 20000 in
theorem gX7_holds_X7_throwing : GoodIn wsX7_holds (wsV RX7 80 RX7 yX7_throwing wsX7_throwing) := goodIn_app (goodIn_of _ (by decide +kernel)) ggX7_holds_X7_throwing
set_option maxRecDepth 20000 in
theorem ggX7_holds_X7_isSo : GoodIn wsX7_holds wsX7_isSo := goodIn_r _ [13, 14, 15, 16, 17, 18, 19, 20, 3, 21, 22, 23, 24, 25, 26, 27, 28, 29, 30, 31, 32, 33, 34, 35, 36, 37, 1, 2, 4, 38, 39, 40, 41, 42, 43, 44, 45, 46, 47, 48, 49, 50, 51, 52, 53, 54, 55, 56] rfl (by decide +kernel)
set_option maxRecDepth 20000 in
theorem gX7_holds_X7_isSo : GoodIn wsX7_holds (wsV RX7 108 RX7 yX7_isSo wsX7_isSo) := goodIn_app (goodIn_of _ (by decide +kernel)) ggX7_holds_X7_isSo
set_option maxRecDepth 20000 in
theorem zdX7_holds_0 : dAll cX7_holds [(0, .aload_n 0, 1), (1, .iload_n 1, 1), (2, .iconst 0, 1), (3, .iconst 4, 1), (4, .invokestatic 76, 3), (7, .ifCond .ne 7, 3), (10, .iconst 1, 1), (11, .goto 4, 3), (14, .iconst 0, 1), (15, .iconst 0, 1), (16, .invokevirtual 80, 3), (19, .ifCond .eq 5, 3), (22, .iconst 0, 1), (23, .ireturn, 1), (24, .aload_n 0, 1), (25, .iload_n 1, 1), (26, .invokevirtual 108, 3), (29, .ireturn, 1)] := dAll_of (by decide +kernel)
theorem dX7_holds_0 : decode cX7_holds 0 = .ok (.aload_n 0, 1) := zdX7_holds_0.1
theorem dX7_holds_1 : decode cX7_holds 1 = .ok (.iload_n 1, 1) := zdX7_holds_0.2.1
theorem dX7_holds_2 : decode cX7_holds 2 = .ok (.iconst 0, 1) := zdX7_holds_0.2.2.1
theorem dX7_holds_3 : decode cX7_holds 3 = .ok (.iconst 4, 1) := zdX7_holds_0.2.2.2.1
theorem dX7_holds_4 : decode cX7_holds 4 = .ok (.invokestatic 76, 3) := zdX7_holds_0.2.2.2.2.1
theorem dX7_holds_7 : decode cX7_holds 7 = .ok (.ifCond .ne 7, 3) := zdX7_holds_0.2.2.2.2.2.1
theorem dX7_holds_10 : decode cX7_holds 10 = .ok (.iconst 1, 1) := zdX7_holds_0.2.2.2.2.2.2.1
theorem dX7_holds_11 : decode cX7_holds 11 = .ok (.goto 4, 3) := zdX7_holds_0.2.2.2.2.2.2.2.1
theorem dX7_holds_14 : decode cX7_holds 14 = .ok (.iconst 0, 1) := zdX7_holds_0.2.2.2.2.2.2.2.2.1
theorem dX7_holds_15 : decode cX7_holds 15 = .ok (.iconst 0, 1) := zdX7_holds_0.2.2.2.2.2.2.2.2.2.1
theorem dX7_holds_16 : decode cX7_holds 16 = .ok (.invokevirtual 80, 3) := zdX7_holds_0.2.2.2.2.2.2.2.2.2.2.1
theorem dX7_holds_19 : decode cX7_holds 19 = .ok (.ifCond .eq 5, 3) := zdX7_holds_0.2.2.2.2.2.2.2.2.2.2.2.1
theorem dX7_holds_22 : decode cX7_holds 22 = .ok (.iconst 0, 1) := zdX7_holds_0.2.2.2.2.2.2.2.2.2.2.2.2.1
theorem dX7_holds_23 : decode cX7_holds 23 = .ok (.ireturn, 1) := zdX7_holds_0.2.2.2.2.2.2.2.2.2.2.2.2.2.1
theorem dX7_holds_24 : decode cX7_holds 24 = .ok (.aload_n 0, 1) := zdX7_holds_0.2.2.2.2.2.2.2.2.2.2.2.2.2.2.1
theorem dX7_holds_25 : decode cX7_holds 25 = .ok (.iload_n 1, 1) := zdX7_holds_0.2.2.2.2.2.2.2.2.2.2.2.2.2.2.2.1
theorem dX7_holds_26 : decode cX7_holds 26 = .ok (.invokevirtual 108, 3) := zdX7_holds_0.2.2.2.2.2.2.2.2.2.2.2.2.2.2.2.2.1
theorem dX7_holds_29 : decode cX7_holds 29 = .ok (.ireturn, 1) := zdX7_holds_0.2.2.2.2.2.2.2.2.2.2.2.2.2.2.2.2.2.1
set_option maxRecDepth 20000 in
theorem ggX7_way_X7_in : GoodIn wsX7_way wsX7_in := goodIn_r _ [10] rfl (by decide +kernel)
set_option maxRecDepth 20000 in
theorem gX7_way_X7_in : GoodIn wsX7_way (va_wsS RX7 76 yX7_in wsX7_in) := goodIn_app (goodIn_of _ (by decide +kernel)) ggX7_way_X7_in
set_option maxRecDepth 20000 in
theorem ggX7_way_X7_throwing : GoodIn wsX7_way wsX7_throwing := goodIn_r _ [14, 15, 22, 23, 24, 25, 26, 27, 28, 29, 30, 31, 32, 33, 34, 35, 36, 37, 38, 39, 40] rfl (by decide +kernel)
set_option maxRecDepth 20000 in
theorem gX7_way_X7_throwing : GoodIn wsX7_way (wsV RX7 80 RX7 yX7_throwing wsX7_throwing) := goodIn_app (goodIn_of _ (by decide +kernel)) ggX7_way_X7_throwing
set_option maxRecDepth 20000 in
theorem ggX7_way_X7_reach : GoodIn wsX7_way wsX7_reach := goodIn_r _ [19, 5, 6, 3, 4, 20, 21, 22, 23, 24, 25, 26, 27, 28, 29, 30, 31, 32, 33, 34, 35, 36, 37, 38, 39, 40] rfl (by decide +kernel)
set_option maxRecDepth 20000 in
theorem gX7_way_X7_reach : GoodIn wsX7_way (wsV RX7 93 RX7 yX7_reach wsX7_reach) := goodIn_app (goodIn_of _ (by decide +kernel)) ggX7_way_X7_reach
set_option maxRecDepth 20000 in
theorem zdX7_way_0 : dAll cX7_way [(0, .aload_n 0, 1), (1, .iload_n 1, 1), (2, .iconst 0, 1), (3, .aload_n 0, 1), (4, .getfield 59, 3), (7, .iconst 1, 1), (8, .isub, 1), (9, .invokestatic 76, 3), (12, .ifCond .eq 17, 3), (15, .iload_n 2, 1), (16, .iconst 0, 1), (17, .aload_n 0, 1), (18, .getfield 62, 3), (21, .iconst 1, 1), (22, .isub, 1), (23, .invokestatic 76, 3), (26, .ifCond .ne 7, 3), (29, .iconst 1, 1), (30, .goto 4, 3), (33, .iconst 0, 1), (34, .iconst 0, 1), (35, .invokevirtual 80, 3), (38, .ifCond .eq 5, 3), (41, .iconst 0, 1), (42, .ireturn, 1), (43, .aload_n 0, 1), (44, .getfield 13, 3), (47, .bipush 30, 2), (49, .iload_n 1, 1), (50, .iadd, 1)] := dAll_of (by decide +kernel)
theorem dX7_way_0 : decode cX7_way 0 = .ok (.aload_n 0, 1) := zdX7_way_0.1
theorem dX7_way_1 : decode cX7_way 1 = .ok (.iload_n 1, 1) := zdX7_way_0.2.1
theorem dX7_way_2 : decode cX7_way 2 = .ok (.iconst 0, 1) := zdX7_way_0.2.2.1
theorem dX7_way_3 : decode cX7_way 3 = .ok (.aload_n 0, 1) := zdX7_way_0.2.2.2.1
theorem dX7_way_4 : decode cX7_way 4 = .ok (.getfield 59, 3) := zdX7_way_0.2.2.2.2.1
theorem dX7_way_7 : decode cX7_way 7 = .ok (.iconst 1, 1) := zdX7_way_0.2.2.2.2.2.1
theorem dX7_way_8 : decode cX7_way 8 = .ok (.isub, 1) := zdX7_way_0.2.2.2.2.2.2.1
theorem dX7_way_9 : decode cX7_way 9 = .ok (.invokestatic 76, 3) := zdX7_way_0.2.2.2.2.2.2.2.1
theorem dX7_way_12 : decode cX7_way 12 = .ok (.ifCond .eq 17, 3) := zdX7_way_0.2.2.2.2.2.2.2.2.1
theorem dX7_way_15 : decode cX7_way 15 = .ok (.iload_n 2, 1) := zdX7_way_0.2.2.2.2.2.2.2.2.2.1
theorem dX7_way_16 : decode cX7_way 16 = .ok (.iconst 0, 1) := zdX7_way_0.2.2.2.2.2.2.2.2.2.2.1
theorem dX7_way_17 : decode cX7_way 17 = .ok (.aload_n 0, 1) := zdX7_way_0.2.2.2.2.2.2.2.2.2.2.2.1
theorem dX7_way_18 : decode cX7_way 18 = .ok (.getfield 62, 3) := zdX7_way_0.2.2.2.2.2.2.2.2.2.2.2.2.1
theorem dX7_way_21 : decode cX7_way 21 = .ok (.iconst 1, 1) := zdX7_way_0.2.2.2.2.2.2.2.2.2.2.2.2.2.1
theorem dX7_way_22 : decode cX7_way 22 = .ok (.isub, 1) := zdX7_way_0.2.2.2.2.2.2.2.2.2.2.2.2.2.2.1
theorem dX7_way_23 : decode cX7_way 23 = .ok (.invokestatic 76, 3) := zdX7_way_0.2.2.2.2.2.2.2.2.2.2.2.2.2.2.2.1
theorem dX7_way_26 : decode cX7_way 26 = .ok (.ifCond .ne 7, 3) := zdX7_way_0.2.2.2.2.2.2.2.2.2.2.2.2.2.2.2.2.1
theorem dX7_way_29 : decode cX7_way 29 = .ok (.iconst 1, 1) := zdX7_way_0.2.2.2.2.2.2.2.2.2.2.2.2.2.2.2.2.2.1
theorem dX7_way_30 : decode cX7_way 30 = .ok (.goto 4, 3) := zdX7_way_0.2.2.2.2.2.2.2.2.2.2.2.2.2.2.2.2.2.2.1
theorem dX7_way_33 : decode cX7_way 33 = .ok (.iconst 0, 1) := zdX7_way_0.2.2.2.2.2.2.2.2.2.2.2.2.2.2.2.2.2.2.2.1
theorem dX7_way_34 : decode cX7_way 34 = .ok (.iconst 0, 1) := zdX7_way_0.2.2.2.2.2.2.2.2.2.2.2.2.2.2.2.2.2.2.2.2.1
theorem dX7_way_35 : decode cX7_way 35 = .ok (.invokevirtual 80, 3) := zdX7_way_0.2.2.2.2.2.2.2.2.2.2.2.2.2.2.2.2.2.2.2.2.2.1
theorem dX7_way_38 : decode cX7_way 38 = .ok (.ifCond .eq 5, 3) := zdX7_way_0.2.2.2.2.2.2.2.2.2.2.2.2.2.2.2.2.2.2.2.2.2.2.1
theorem dX7_way_41 : decode cX7_way 41 = .ok (.iconst 0, 1) := zdX7_way_0.2.2.2.2.2.2.2.2.2.2.2.2.2.2.2.2.2.2.2.2.2.2.2.1
theorem dX7_way_42 : decode cX7_way 42 = .ok (.ireturn, 1) := zdX7_way_0.2.2.2.2.2.2.2.2.2.2.2.2.2.2.2.2.2.2.2.2.2.2.2.2.1
theorem dX7_way_43 : decode cX7_way 43 = .ok (.aload_n 0, 1) := zdX7_way_0.2.2.2.2.2.2.2.2.2.2.2.2.2.2.2.2.2.2.2.2.2.2.2.2.2.1
theorem dX7_way_44 : decode cX7_way 44 = .ok (.getfield 13, 3) := zdX7_way_0.2.2.2.2.2.2.2.2.2.2.2.2.2.2.2.2.2.2.2.2.2.2.2.2.2.2.1
theorem dX7_way_47 : decode cX7_way 47 = .ok (.bipush 30, 2) := zdX7_way_0.2.2.2.2.2.2.2.2.2.2.2.2.2.2.2.2.2.2.2.2.2.2.2.2.2.2.2.1
theorem dX7_way_49 : decode cX7_way 49 = .ok (.iload_n 1, 1) := zdX7_way_0.2.2.2.2.2.2.2.2.2.2.2.2.2.2.2.2.2.2.2.2.2.2.2.2.2.2.2.2.1
theorem dX7_way_50 : decode cX7_way 50 = .ok (.iadd, 1) := zdX7_way_0.2.2.2.2.2.2.2.2.2.2.2.2.2.2.2.2.2.2.2.2.2.2.2.2.2.2.2.2.2.1
set_option maxRecDepth 20000 in
theorem zdX7_way_51 : dAll cX7_way [(51, .baload, 1), (52, .ifCond .eq 15, 3), (55, .aload_n 0, 1), (56, .getfield 13, 3), (59, .bipush 41, 2), (61, .iload_n 2, 1), (62, .iadd, 1), (63, .baload, 1), (64, .ifCond .ne 5, 3), (67, .iconst (-1), 1), (68, .ireturn, 1), (69, .aload_n 0, 1), (70, .aload_n 0, 1), (71, .getfield 17, 3), (74, .bipush 41, 2), (76, .iload_n 2, 1), (77, .iadd, 1), (78, .iaload, 1), (79, .invokevirtual 93, 3), (82, .aload_n 0, 1), (83, .getfield 29, 3), (86, .aload_n 0, 1), (87, .getfield 17, 3), (90, .bipush 30, 2), (92, .iload_n 1, 1), (93, .iadd, 1), (94, .iaload, 1), (95, .iaload, 1), (96, .istore_n 3, 1), (97, .iload_n 3, 1)] := dAll_of (by decide +kernel)
theorem dX7_way_51 : decode cX7_way 51 = .ok (.baload, 1) := zdX7_way_51.1
theorem dX7_way_52 : decode cX7_way 52 = .ok (.ifCond .eq 15, 3) := zdX7_way_51.2.1
theorem dX7_way_55 : decode cX7_way 55 = .ok (.aload_n 0, 1) := zdX7_way_51.2.2.1
theorem dX7_way_56 : decode cX7_way 56 = .ok (.getfield 13, 3) := zdX7_way_51.2.2.2.1
theorem dX7_way_59 : decode cX7_way 59 = .ok (.bipush 41, 2) := zdX7_way_51.2.2.2.2.1
theorem dX7_way_61 : decode cX7_way 61 = .ok (.iload_n 2, 1) := zdX7_way_51.2.2.2.2.2.1
theorem dX7_way_62 : decode cX7_way 62 = .ok (.iadd, 1) := zdX7_way_51.2.2.2.2.2.2.1
theorem dX7_way_63 : decode cX7_way 63 = .ok (.baload, 1) := zdX7_way_51.2.2.2.2.2.2.2.1
theorem dX7_way_64 : decode cX7_way 64 = .ok (.ifCond .ne 5, 3) := zdX7_way_51.2.2.2.2.2.2.2.2.1
theorem dX7_way_67 : decode cX7_way 67 = .ok (.iconst (-1), 1) := zdX7_way_51.2.2.2.2.2.2.2.2.2.1
theorem dX7_way_68 : decode cX7_way 68 = .ok (.ireturn, 1) := zdX7_way_51.2.2.2.2.2.2.2.2.2.2.1
theorem dX7_way_69 : decode cX7_way 69 = .ok (.aload_n 0, 1) := zdX7_way_51.2.2.2.2.2.2.2.2.2.2.2.1
theorem dX7_way_70 : decode cX7_way 70 = .ok (.aload_n 0, 1) := zdX7_way_51.2.2.2.2.2.2.2.2.2.2.2.2.1
theorem dX7_way_71 : decode cX7_way 71 = .ok (.getfield 17, 3) := zdX7_way_51.2.2.2.2.2.2.2.2.2.2.2.2.2.1
theorem dX7_way_74 : decode cX7_way 74 = .ok (.bipush 41, 2) := zdX7_way_51.2.2.2.2.2.2.2.2.2.2.2.2.2.2.1
theorem dX7_way_76 : decode cX7_way 76 = .ok (.iload_n 2, 1) := zdX7_way_51.2.2.2.2.2.2.2.2.2.2.2.2.2.2.2.1
theorem dX7_way_77 : decode cX7_way 77 = .ok (.iadd, 1) := zdX7_way_51.2.2.2.2.2.2.2.2.2.2.2.2.2.2.2.2.1
theorem dX7_way_78 : decode cX7_way 78 = .ok (.iaload, 1) := zdX7_way_51.2.2.2.2.2.2.2.2.2.2.2.2.2.2.2.2.2.1
theorem dX7_way_79 : decode cX7_way 79 = .ok (.invokevirtual 93, 3) := zdX7_way_51.2.2.2.2.2.2.2.2.2.2.2.2.2.2.2.2.2.2.1
theorem dX7_way_82 : decode cX7_way 82 = .ok (.aload_n 0, 1) := zdX7_way_51.2.2.2.2.2.2.2.2.2.2.2.2.2.2.2.2.2.2.2.1
theorem dX7_way_83 : decode cX7_way 83 = .ok (.getfield 29, 3) := zdX7_way_51.2.2.2.2.2.2.2.2.2.2.2.2.2.2.2.2.2.2.2.2.1
theorem dX7_way_86 : decode cX7_way 86 = .ok (.aload_n 0, 1) := zdX7_way_51.2.2.2.2.2.2.2.2.2.2.2.2.2.2.2.2.2.2.2.2.2.1
theorem dX7_way_87 : decode cX7_way 87 = .ok (.getfield 17, 3) := zdX7_way_51.2.2.2.2.2.2.2.2.2.2.2.2.2.2.2.2.2.2.2.2.2.2.1
theorem dX7_way_90 : decode cX7_way 90 = .ok (.bipush 30, 2) := zdX7_way_51.2.2.2.2.2.2.2.2.2.2.2.2.2.2.2.2.2.2.2.2.2.2.2.1
theorem dX7_way_92 : decode cX7_way 92 = .ok (.iload_n 1, 1) := zdX7_way_51.2.2.2.2.2.2.2.2.2.2.2.2.2.2.2.2.2.2.2.2.2.2.2.2.1
theorem dX7_way_93 : decode cX7_way 93 = .ok (.iadd, 1) := zdX7_way_51.2.2.2.2.2.2.2.2.2.2.2.2.2.2.2.2.2.2.2.2.2.2.2.2.2.1
theorem dX7_way_94 : decode cX7_way 94 = .ok (.iaload, 1) := zdX7_way_51.2.2.2.2.2.2.2.2.2.2.2.2.2.2.2.2.2.2.2.2.2.2.2.2.2.2.1
theorem dX7_way_95 : decode cX7_way 95 = .ok (.iaload, 1) := zdX7_way_51.2.2.2.2.2.2.2.2.2.2.2.2.2.2.2.2.2.2.2.2.2.2.2.2.2.2.2.1
theorem dX7_way_96 : decode cX7_way 96 = .ok (.istore_n 3, 1) := zdX7_way_51.2.2.2.2.2.2.2.2.2.2.2.2.2.2.2.2.2.2.2.2.2.2.2.2.2.2.2.2.1
theorem dX7_way_97 : decode cX7_way 97 = .ok (.iload_n 3, 1) := zdX7_way_51.2.2.2.2.2.2.2.2.2.2.2.2.2.2.2.2.2.2.2.2.2.2.2.2.2.2.2.2.2.1
set_option maxRecDepth 20000 in
theorem zdX7_way_98 : dAll cX7_way [(98, .ldc 92, 2), (100, .if_icmp .ge 7, 3), (103, .iload_n 3, 1), (104, .goto 4, 3), (107, .iconst (-1), 1), (108, .ireturn, 1)] := dAll_of (by decide +kernel)
theorem dX7_way_98 : decode cX7_way 98 = .ok (.ldc 92, 2) := zdX7_way_98.1
theorem dX7_way_100 : decode cX7_way 100 = .ok (.if_icmp .ge 7, 3) := zdX7_way_98.2.1
theorem dX7_way_103 : decode cX7_way 103 = .ok (.iload_n 3, 1) := zdX7_way_98.2.2.1
theorem dX7_way_104 : decode cX7_way 104 = .ok (.goto 4, 3) := zdX7_way_98.2.2.2.1
theorem dX7_way_107 : decode cX7_way 107 = .ok (.iconst (-1), 1) := zdX7_way_98.2.2.2.2.1
theorem dX7_way_108 : decode cX7_way 108 = .ok (.ireturn, 1) := zdX7_way_98.2.2.2.2.2.1
set_option maxRecDepth 20000 in
theorem ggX7_shrink_X7_in : GoodIn wsX7_shrink wsX7_in := goodIn_r _ [5] rfl (by decide +kernel)
set_option maxRecDepth 20000 in
theorem gX7_shrink_X7_in : GoodIn wsX7_shrink (va_wsS RX7 76 yX7_in wsX7_in) := goodIn_app (goodIn_of _ (by decide +kernel)) ggX7_shrink_X7_in
set_option maxRecDepth 20000 in
theorem ggX7_shrink_X7_isSo : GoodIn wsX7_shrink wsX7_isSo := goodIn_r _ [9, 10, 1, 11, 12, 13, 14, 15, 4, 16, 17, 18, 19, 20, 21, 22, 23, 24, 25, 26, 27, 28, 29, 30, 31, 32, 2, 3, 5, 38, 39, 40, 41, 42, 43, 44, 45, 46, 47, 48, 49, 50, 51, 52, 53, 54, 55, 56] rfl (by decide +kernel)
set_option maxRecDepth 20000 in
theorem gX7_shrink_X7_isSo : GoodIn wsX7_shrink (wsV RX7 108 RX7 yX7_isSo wsX7_isSo) := goodIn_app (goodIn_of _ (by decide +kernel)) ggX7_shrink_X7_isSo
set_option maxRecDepth 20000 in
theorem ggX7_shrink_X7_throwing : GoodIn wsX7_shrink wsX7_throwing := goodIn_r _ [36, 37, 38, 39, 40, 41, 42, 43, 44, 45, 46, 47, 48, 49, 50, 51, 52, 53, 54, 55, 56] rfl (by decide +kernel)
set_option maxRecDepth 20000 in
theorem gX7_shrink_X7_throwing : GoodIn wsX7_shrink (wsV RX7 80 RX7 yX7_throwing wsX7_throwing) := goodIn_app (goodIn_of _ (by decide +kernel)) ggX7_shrink_X7_throwing
set_option maxRecDepth 20000 in
theorem zdX7_shrink_0 : dAll cX7_shrink [(0, .iload_n 1, 1), (1, .iconst 0, 1), (2, .iconst 4, 1), (3, .invokestatic 76, 3), (6, .ifCond .ne 7, 3), (9, .iconst 1, 1), (10, .goto 4, 3), (13, .iconst 0, 1), (14, .istore_n 2, 1), (15, .aload_n 0, 1), (16, .iload_n 2, 1), (17, .iload_n 2, 1), (18, .ifCond .ne 15, 3), (21, .aload_n 0, 1), (22, .iload_n 1, 1), (23, .invokevirtual 108, 3), (26, .ifCond .ne 7, 3), (29, .iconst 1, 1), (30, .goto 4, 3), (33, .iconst 0, 1), (34, .invokevirtual 80, 3), (37, .ifCond .eq 5, 3), (40, .iconst 0, 1), (41, .ireturn, 1), (42, .iconst 0, 1), (43, .istore_n 3, 1), (44, .iconst 1, 1), (45, .istore 4, 2), (47, .iload 4, 2), (49, .ifCond .eq 97, 3)] := dAll_of (by decide +kernel)
theorem dX7_shrink_0 : decode cX7_shrink 0 = .ok (.iload_n 1, 1) := zdX7_shrink_0.1
theorem dX7_shrink_1 : decode cX7_shrink 1 = .ok (.iconst 0, 1) := zdX7_shrink_0.2.1
theorem dX7_shrink_2 : decode cX7_shrink 2 = .ok (.iconst 4, 1) := zdX7_shrink_0.2.2.1
theorem dX7_shrink_3 : decode cX7_shrink 3 = .ok (.invokestatic 76, 3) := zdX7_shrink_0.2.2.2.1
theorem dX7_shrink_6 : decode cX7_shrink 6 = .ok (.ifCond .ne 7, 3) := zdX7_shrink_0.2.2.2.2.1
theorem dX7_shrink_9 : decode cX7_shrink 9 = .ok (.iconst 1, 1) := zdX7_shrink_0.2.2.2.2.2.1
theorem dX7_shrink_10 : decode cX7_shrink 10 = .ok (.goto 4, 3) := zdX7_shrink_0.2.2.2.2.2.2.1
theorem dX7_shrink_13 : decode cX7_shrink 13 = .ok (.iconst 0, 1) := zdX7_shrink_0.2.2.2.2.2.2.2.1
theorem dX7_shrink_14 : decode cX7_shrink 14 = .ok (.istore_n 2, 1) := zdX7_shrink_0.2.2.2.2.2.2.2.2.1
theorem dX7_shrink_15 : decode cX7_shrink 15 = .ok (.aload_n 0, 1) := zdX7_shrink_0.2.2.2.2.2.2.2.2.2.1
theorem dX7_shrink_16 : decode cX7_shrink 16 = .ok (.iload_n 2, 1) := zdX7_shrink_0.2.2.2.2.2.2.2.2.2.2.1
theorem dX7_shrink_17 : decode cX7_shrink 17 = .ok (.iload_n 2, 1) := zdX7_shrink_0.2.2.2.2.2.2.2.2.2.2.2.1
theorem dX7_shrink_18 : decode cX7_shrink 18 = .ok (.ifCond .ne 15, 3) := zdX7_shrink_0.2.2.2.2.2.2.2.2.2.2.2.2.1
theorem dX7_shrink_21 : decode cX7_shrink 21 = .ok (.aload_n 0, 1) := zdX7_shrink_0.2.2.2.2.2.2.2.2.2.2.2.2.2.1
theorem dX7_shrink_22 : decode cX7_shrink 22 = .ok (.iload_n 1, 1) := zdX7_shrink_0.2.2.2.2.2.2.2.2.2.2.2.2.2.2.1
theorem dX7_shrink_23 : decode cX7_shrink 23 = .ok (.invokevirtual 108, 3) := zdX7_shrink_0.2.2.2.2.2.2.2.2.2.2.2.2.2.2.2.1
theorem dX7_shrink_26 : decode cX7_shrink 26 = .ok (.ifCond .ne 7, 3) := zdX7_shrink_0.2.2.2.2.2.2.2.2.2.2.2.2.2.2.2.2.1
theorem dX7_shrink_29 : decode cX7_shrink 29 = .ok (.iconst 1, 1) := zdX7_shrink_0.2.2.2.2.2.2.2.2.2.2.2.2.2.2.2.2.2.1
theorem dX7_shrink_30 : decode cX7_shrink 30 = .ok (.goto 4, 3) := zdX7_shrink_0.2.2.2.2.2.2.2.2.2.2.2.2.2.2.2.2.2.2.1
theorem dX7_shrink_33 : decode cX7_shrink 33 = .ok (.iconst 0, 1) := zdX7_shrink_0.2.2.2.2.2.2.2.2.2.2.2.2.2.2.2.2.2.2.2.1
theorem dX7_shrink_34 : decode cX7_shrink 34 = .ok (.invokevirtual 80, 3) := zdX7_shrink_0.2.2.2.2.2.2.2.2.2.2.2.2.2.2.2.2.2.2.2.2.1
theorem dX7_shrink_37 : decode cX7_shrink 37 = .ok (.ifCond .eq 5, 3) := zdX7_shrink_0.2.2.2.2.2.2.2.2.2.2.2.2.2.2.2.2.2.2.2.2.2.1
theorem dX7_shrink_40 : decode cX7_shrink 40 = .ok (.iconst 0, 1) := zdX7_shrink_0.2.2.2.2.2.2.2.2.2.2.2.2.2.2.2.2.2.2.2.2.2.2.1
theorem dX7_shrink_41 : decode cX7_shrink 41 = .ok (.ireturn, 1) := zdX7_shrink_0.2.2.2.2.2.2.2.2.2.2.2.2.2.2.2.2.2.2.2.2.2.2.2.1
theorem dX7_shrink_42 : decode cX7_shrink 42 = .ok (.iconst 0, 1) := zdX7_shrink_0.2.2.2.2.2.2.2.2.2.2.2.2.2.2.2.2.2.2.2.2.2.2.2.2.1
theorem dX7_shrink_43 : decode cX7_shrink 43 = .ok (.istore_n 3, 1) := zdX7_shrink_0.2.2.2.2.2.2.2.2.2.2.2.2.2.2.2.2.2.2.2.2.2.2.2.2.2.1
theorem dX7_shrink_44 : decode cX7_shrink 44 = .ok (.iconst 1, 1) := zdX7_shrink_0.2.2.2.2.2.2.2.2.2.2.2.2.2.2.2.2.2.2.2.2.2.2.2.2.2.2.1
theorem dX7_shrink_45 : decode cX7_shrink 45 = .ok (.istore 4, 2) := zdX7_shrink_0.2.2.2.2.2.2.2.2.2.2.2.2.2.2.2.2.2.2.2.2.2.2.2.2.2.2.2.1
theorem dX7_shrink_47 : decode cX7_shrink 47 = .ok (.iload 4, 2) := zdX7_shrink_0.2.2.2.2.2.2.2.2.2.2.2.2.2.2.2.2.2.2.2.2.2.2.2.2.2.2.2.2.1
theorem dX7_shrink_49 : decode cX7_shrink 49 = .ok (.ifCond .eq 97, 3) := zdX7_shrink_0.2.2.2.2.2.2.2.2.2.2.2.2.2.2.2.2.2.2.2.2.2.2.2.2.2.2.2.2.2.1
set_option maxRecDepth 20000 in
theorem zdX7_shrink_52 : dAll cX7_shrink [(52, .iconst 0, 1), (53, .istore 4, 2), (55, .iconst 0, 1), (56, .istore 5, 2), (58, .iload 5, 2), (60, .bipush 62, 2), (62, .if_icmp .ge 81, 3), (65, .aload_n 0, 1), (66, .getfield 13, 3), (69, .iload 5, 2), (71, .baload, 1), (72, .ifCond .eq 65, 3), (75, .aload_n 0, 1), (76, .getfield 13, 3), (79, .iload 5, 2)] := dAll_of (by decide +kernel)
theorem dX7_shrink_52 : decode cX7_shrink 52 = .ok (.iconst 0, 1) := zdX7_shrink_52.1
theorem dX7_shrink_53 : decode cX7_shrink 53 = .ok (.istore 4, 2) := zdX7_shrink_52.2.1
theorem dX7_shrink_55 : decode cX7_shrink 55 = .ok (.iconst 0, 1) := zdX7_shrink_52.2.2.1
theorem dX7_shrink_56 : decode cX7_shrink 56 = .ok (.istore 5, 2) := zdX7_shrink_52.2.2.2.1
theorem dX7_shrink_58 : decode cX7_shrink 58 = .ok (.iload 5, 2) := zdX7_shrink_52.2.2.2.2.1
theorem dX7_shrink_60 : decode cX7_shrink 60 = .ok (.bipush 62, 2) := zdX7_shrink_52.2.2.2.2.2.1
theorem dX7_shrink_62 : decode cX7_shrink 62 = .ok (.if_icmp .ge 81, 3) := zdX7_shrink_52.2.2.2.2.2.2.1
theorem dX7_shrink_65 : decode cX7_shrink 65 = .ok (.aload_n 0, 1) := zdX7_shrink_52.2.2.2.2.2.2.2.1
theorem dX7_shrink_66 : decode cX7_shrink 66 = .ok (.getfield 13, 3) := zdX7_shrink_52.2.2.2.2.2.2.2.2.1
theorem dX7_shrink_69 : decode cX7_shrink 69 = .ok (.iload 5, 2) := zdX7_shrink_52.2.2.2.2.2.2.2.2.2.1
theorem dX7_shrink_71 : decode cX7_shrink 71 = .ok (.baload, 1) := zdX7_shrink_52.2.2.2.2.2.2.2.2.2.2.1
theorem dX7_shrink_72 : decode cX7_shrink 72 = .ok (.ifCond .eq 65, 3) := zdX7_shrink_52.2.2.2.2.2.2.2.2.2.2.2.1
theorem dX7_shrink_75 : decode cX7_shrink 75 = .ok (.aload_n 0, 1) := zdX7_shrink_52.2.2.2.2.2.2.2.2.2.2.2.2.1
theorem dX7_shrink_76 : decode cX7_shrink 76 = .ok (.getfield 13, 3) := zdX7_shrink_52.2.2.2.2.2.2.2.2.2.2.2.2.2.1
theorem dX7_shrink_79 : decode cX7_shrink 79 = .ok (.iload 5, 2) := zdX7_shrink_52.2.2.2.2.2.2.2.2.2.2.2.2.2.2.1
