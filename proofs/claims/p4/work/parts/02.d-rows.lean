set_option maxRecDepth 20000 in
theorem ggX1_write_X4_clear : GoodIn wsX1_write wsX4_clear := goodIn_r _ [6, 7, 49, 50] (by decide +kernel) (by decide +kernel)
set_option maxRecDepth 20000 in
theorem gX1_write_X4_clear : GoodIn wsX1_write (wsV RX1 18 RX4 yX4_clear wsX4_clear) := goodIn_app (goodIn_of _ (by decide +kernel)) ggX1_write_X4_clear
set_option maxRecDepth 20000 in
theorem ggX1_write_X5_isThere : GoodIn wsX1_write wsX5_isThere := goodIn_r _ [12, 13, 14, 15, 16, 51, 52, 53, 54, 55, 56, 57, 58] (by decide +kernel) (by decide +kernel)
set_option maxRecDepth 20000 in
theorem gX1_write_X5_isThere : GoodIn wsX1_write (wsV RX1 21 RX5 yX5_isThere wsX5_isThere) := goodIn_app (goodIn_of _ (by decide +kernel)) ggX1_write_X5_isThere
set_option maxRecDepth 20000 in
theorem ggX1_write_X1_writePart : GoodIn wsX1_write wsX1_writePart := goodIn_r _ [21, 1, 22, 15, 23, 24, 25, 26, 5, 27, 7, 28, 29, 30, 31, 11, 32, 33, 14, 16, 34, 35, 36, 20, 37, 38, 39, 40, 41, 42, 43, 44, 45, 46, 47, 48, 49, 50, 51, 52, 53, 54, 55, 56, 57, 58] (by decide +kernel) (by decide +kernel)
set_option maxRecDepth 20000 in
theorem gX1_write_X1_writePart : GoodIn wsX1_write (wsV RX1 27 RX1 yX1_writePart wsX1_writePart) := goodIn_app (goodIn_of _ (by decide +kernel)) ggX1_write_X1_writePart
set_option maxRecDepth 20000 in
theorem ggX1_write_X4_add : GoodIn wsX1_write wsX4_add := goodIn_r _ [27, 7, 28, 49, 50] (by decide +kernel) (by decide +kernel)
set_option maxRecDepth 20000 in
theorem gX1_write_X4_add : GoodIn wsX1_write (wsV RX1 31 RX4 yX4_add wsX4_add) := goodIn_app (goodIn_of _ (by decide +kernel)) ggX1_write_X4_add
theorem dX1_write_0 : decode cX1_write 0 = .ok (.aload_n 0, 1) := by decide +kernel
theorem dX1_write_1 : decode cX1_write 1 = .ok (.getfield 12, 3) := by decide +kernel
theorem dX1_write_4 : decode cX1_write 4 = .ok (.invokevirtual 18, 3) := by decide +kernel
theorem dX1_write_7 : decode cX1_write 7 = .ok (.iconst 0, 1) := by decide +kernel
theorem dX1_write_8 : decode cX1_write 8 = .ok (.istore_n 2, 1) := by decide +kernel
theorem dX1_write_9 : decode cX1_write 9 = .ok (.iload_n 2, 1) := by decide +kernel
theorem dX1_write_10 : decode cX1_write 10 = .ok (.bipush 62, 2) := by decide +kernel
theorem dX1_write_12 : decode cX1_write 12 = .ok (.if_icmp .ge 32, 3) := by decide +kernel
theorem dX1_write_15 : decode cX1_write 15 = .ok (.aload_n 1, 1) := by decide +kernel
theorem dX1_write_16 : decode cX1_write 16 = .ok (.iload_n 2, 1) := by decide +kernel
theorem dX1_write_17 : decode cX1_write 17 = .ok (.invokevirtual 21, 3) := by decide +kernel
theorem dX1_write_20 : decode cX1_write 20 = .ok (.ifCond .eq 18, 3) := by decide +kernel
theorem dX1_write_23 : decode cX1_write 23 = .ok (.aload_n 0, 1) := by decide +kernel
theorem dX1_write_24 : decode cX1_write 24 = .ok (.aload_n 1, 1) := by decide +kernel
theorem dX1_write_25 : decode cX1_write 25 = .ok (.iload_n 2, 1) := by decide +kernel
theorem dX1_write_26 : decode cX1_write 26 = .ok (.invokevirtual 27, 3) := by decide +kernel
theorem dX1_write_29 : decode cX1_write 29 = .ok (.aload_n 0, 1) := by decide +kernel
theorem dX1_write_30 : decode cX1_write 30 = .ok (.getfield 12, 3) := by decide +kernel
theorem dX1_write_33 : decode cX1_write 33 = .ok (.bipush 59, 2) := by decide +kernel
theorem dX1_write_35 : decode cX1_write 35 = .ok (.invokevirtual 31, 3) := by decide +kernel
theorem dX1_write_38 : decode cX1_write 38 = .ok (.iinc 2 1, 3) := by decide +kernel
theorem dX1_write_41 : decode cX1_write 41 = .ok (.goto (-32), 3) := by decide +kernel
theorem dX1_write_44 : decode cX1_write 44 = .ok (.return_, 1) := by decide +kernel
set_option maxRecDepth 20000 in
theorem ggX1_writePart_X6_kindOf : GoodIn wsX1_writePart wsX6_kindOf := goodIn_r _ [4] (by decide +kernel) (by decide +kernel)
set_option maxRecDepth 20000 in
theorem gX1_writePart_X6_kindOf_n35 : GoodIn wsX1_writePart (wsX6_kindOf) := ggX1_writePart_X6_kindOf
set_option maxRecDepth 20000 in
theorem ggX1_writePart_X4_add : GoodIn wsX1_writePart wsX4_add := goodIn_r _ [9, 10, 11, 36, 37] (by decide +kernel) (by decide +kernel)
set_option maxRecDepth 20000 in
theorem gX1_writePart_X4_add : GoodIn wsX1_writePart (wsV RX1 31 RX4 yX4_add wsX4_add) := goodIn_app (goodIn_of _ (by decide +kernel)) ggX1_writePart_X4_add
set_option maxRecDepth 20000 in
theorem ggX1_writePart_X5_cornerOf : GoodIn wsX1_writePart wsX5_cornerOf := goodIn_r _ [16, 17, 18, 3, 19, 38, 39, 40, 41, 42, 43, 44, 45] (by decide +kernel) (by decide +kernel)
set_option maxRecDepth 20000 in
theorem gX1_writePart_X5_cornerOf : GoodIn wsX1_writePart (wsV RX1 39 RX5 yX5_cornerOf wsX5_cornerOf) := goodIn_app (goodIn_of _ (by decide +kernel)) ggX1_writePart_X5_cornerOf
set_option maxRecDepth 20000 in
theorem ggX1_writePart_X1_writeNumber : GoodIn wsX1_writePart wsX1_writeNumber := goodIn_r _ [24, 1, 5, 6, 7, 8, 9, 10, 11, 35, 36, 37] (by decide +kernel) (by decide +kernel)
set_option maxRecDepth 20000 in
theorem gX1_writePart_X1_writeNumber : GoodIn wsX1_writePart (wsV RX1 42 RX1 yX1_writeNumber wsX1_writeNumber) := goodIn_app (goodIn_of _ (by decide +kernel)) ggX1_writePart_X1_writeNumber
set_option maxRecDepth 20000 in
theorem ggX1_writePart_X5_secondOf : GoodIn wsX1_writePart wsX5_secondOf := goodIn_r _ [28, 29, 18, 3, 19, 38, 39, 40, 41, 42, 43, 44, 45] (by decide +kernel) (by decide +kernel)
set_option maxRecDepth 20000 in
theorem gX1_writePart_X5_secondOf : GoodIn wsX1_writePart (wsV RX1 45 RX5 yX5_secondOf wsX5_secondOf) := goodIn_app (goodIn_of _ (by decide +kernel)) ggX1_writePart_X5_secondOf
set_option maxRecDepth 20000 in
theorem ggX1_writePart_X5_thirdOf : GoodIn wsX1_writePart wsX5_thirdOf := goodIn_r _ [33, 34, 18, 3, 19, 38, 39, 40, 41, 42, 43, 44, 45] (by decide +kernel) (by decide +kernel)
set_option maxRecDepth 20000 in
theorem gX1_writePart_X5_thirdOf : GoodIn wsX1_writePart (wsV RX1 48 RX5 yX5_thirdOf wsX5_thirdOf) := goodIn_app (goodIn_of _ (by decide +kernel)) ggX1_writePart_X5_thirdOf
theorem dX1_writePart_0 : decode cX1_writePart 0 = .ok (.iload_n 2, 1) := by decide +kernel
theorem dX1_writePart_1 : decode cX1_writePart 1 = .ok (.invokestatic 35, 3) := by decide +kernel
theorem dX1_writePart_4 : decode cX1_writePart 4 = .ok (.istore_n 3, 1) := by decide +kernel
theorem dX1_writePart_5 : decode cX1_writePart 5 = .ok (.aload_n 0, 1) := by decide +kernel
theorem dX1_writePart_6 : decode cX1_writePart 6 = .ok (.getfield 12, 3) := by decide +kernel
theorem dX1_writePart_9 : decode cX1_writePart 9 = .ok (.iload_n 3, 1) := by decide +kernel
theorem dX1_writePart_10 : decode cX1_writePart 10 = .ok (.ifCond .ne 8, 3) := by decide +kernel
theorem dX1_writePart_13 : decode cX1_writePart 13 = .ok (.bipush 115, 2) := by decide +kernel
theorem dX1_writePart_15 : decode cX1_writePart 15 = .ok (.goto 15, 3) := by decide +kernel
theorem dX1_writePart_18 : decode cX1_writePart 18 = .ok (.iload_n 3, 1) := by decide +kernel
theorem dX1_writePart_19 : decode cX1_writePart 19 = .ok (.iconst 1, 1) := by decide +kernel
theorem dX1_writePart_20 : decode cX1_writePart 20 = .ok (.if_icmp .ne 8, 3) := by decide +kernel
theorem dX1_writePart_23 : decode cX1_writePart 23 = .ok (.bipush 117, 2) := by decide +kernel
theorem dX1_writePart_25 : decode cX1_writePart 25 = .ok (.goto 5, 3) := by decide +kernel
theorem dX1_writePart_28 : decode cX1_writePart 28 = .ok (.bipush 99, 2) := by decide +kernel
theorem dX1_writePart_30 : decode cX1_writePart 30 = .ok (.invokevirtual 31, 3) := by decide +kernel
theorem dX1_writePart_33 : decode cX1_writePart 33 = .ok (.aload_n 0, 1) := by decide +kernel
theorem dX1_writePart_34 : decode cX1_writePart 34 = .ok (.aload_n 1, 1) := by decide +kernel
theorem dX1_writePart_35 : decode cX1_writePart 35 = .ok (.iload_n 2, 1) := by decide +kernel
theorem dX1_writePart_36 : decode cX1_writePart 36 = .ok (.invokevirtual 39, 3) := by decide +kernel
theorem dX1_writePart_39 : decode cX1_writePart 39 = .ok (.invokevirtual 42, 3) := by decide +kernel
theorem dX1_writePart_42 : decode cX1_writePart 42 = .ok (.aload_n 0, 1) := by decide +kernel
theorem dX1_writePart_43 : decode cX1_writePart 43 = .ok (.getfield 12, 3) := by decide +kernel
theorem dX1_writePart_46 : decode cX1_writePart 46 = .ok (.iload_n 3, 1) := by decide +kernel
theorem dX1_writePart_47 : decode cX1_writePart 47 = .ok (.ifCond .ne 8, 3) := by decide +kernel
theorem dX1_writePart_50 : decode cX1_writePart 50 = .ok (.bipush 45, 2) := by decide +kernel
theorem dX1_writePart_52 : decode cX1_writePart 52 = .ok (.goto 5, 3) := by decide +kernel
theorem dX1_writePart_55 : decode cX1_writePart 55 = .ok (.bipush 58, 2) := by decide +kernel
theorem dX1_writePart_57 : decode cX1_writePart 57 = .ok (.invokevirtual 31, 3) := by decide +kernel
theorem dX1_writePart_60 : decode cX1_writePart 60 = .ok (.aload_n 0, 1) := by decide +kernel
theorem dX1_writePart_61 : decode cX1_writePart 61 = .ok (.aload_n 1, 1) := by decide +kernel
theorem dX1_writePart_62 : decode cX1_writePart 62 = .ok (.iload_n 2, 1) := by decide +kernel
theorem dX1_writePart_63 : decode cX1_writePart 63 = .ok (.invokevirtual 45, 3) := by decide +kernel
theorem dX1_writePart_66 : decode cX1_writePart 66 = .ok (.invokevirtual 42, 3) := by decide +kernel
theorem dX1_writePart_69 : decode cX1_writePart 69 = .ok (.iload_n 3, 1) := by decide +kernel
theorem dX1_writePart_70 : decode cX1_writePart 70 = .ok (.iconst 1, 1) := by decide +kernel
theorem dX1_writePart_71 : decode cX1_writePart 71 = .ok (.if_icmp .eq 30, 3) := by decide +kernel
theorem dX1_writePart_74 : decode cX1_writePart 74 = .ok (.aload_n 0, 1) := by decide +kernel
theorem dX1_writePart_75 : decode cX1_writePart 75 = .ok (.getfield 12, 3) := by decide +kernel
theorem dX1_writePart_78 : decode cX1_writePart 78 = .ok (.iload_n 3, 1) := by decide +kernel
theorem dX1_writePart_79 : decode cX1_writePart 79 = .ok (.ifCond .ne 8, 3) := by decide +kernel
theorem dX1_writePart_82 : decode cX1_writePart 82 = .ok (.bipush 58, 2) := by decide +kernel
theorem dX1_writePart_84 : decode cX1_writePart 84 = .ok (.goto 5, 3) := by decide +kernel
theorem dX1_writePart_87 : decode cX1_writePart 87 = .ok (.bipush 64, 2) := by decide +kernel
theorem dX1_writePart_89 : decode cX1_writePart 89 = .ok (.invokevirtual 31, 3) := by decide +kernel
theorem dX1_writePart_92 : decode cX1_writePart 92 = .ok (.aload_n 0, 1) := by decide +kernel
theorem dX1_writePart_93 : decode cX1_writePart 93 = .ok (.aload_n 1, 1) := by decide +kernel
theorem dX1_writePart_94 : decode cX1_writePart 94 = .ok (.iload_n 2, 1) := by decide +kernel
theorem dX1_writePart_95 : decode cX1_writePart 95 = .ok (.invokevirtual 48, 3) := by decide +kernel
theorem dX1_writePart_98 : decode cX1_writePart 98 = .ok (.invokevirtual 42, 3) := by decide +kernel
theorem dX1_writePart_101 : decode cX1_writePart 101 = .ok (.return_, 1) := by decide +kernel
set_option maxRecDepth 20000 in
theorem ggX1_writeNumber_X4_add : GoodIn wsX1_writeNumber wsX4_add := goodIn_r _ [6, 7, 8, 10, 11] (by decide +kernel) (by decide +kernel)
set_option maxRecDepth 20000 in
theorem gX1_writeNumber_X4_add : GoodIn wsX1_writeNumber (wsV RX1 31 RX4 yX4_add wsX4_add) := goodIn_app (goodIn_of _ (by decide +kernel)) ggX1_writeNumber_X4_add
theorem dX1_writeNumber_0 : decode cX1_writeNumber 0 = .ok (.iload_n 1, 1) := by decide +kernel
theorem dX1_writeNumber_1 : decode cX1_writeNumber 1 = .ok (.sipush 1000, 3) := by decide +kernel
theorem dX1_writeNumber_4 : decode cX1_writeNumber 4 = .ok (.if_icmp .lt 21, 3) := by decide +kernel
theorem dX1_writeNumber_7 : decode cX1_writeNumber 7 = .ok (.aload_n 0, 1) := by decide +kernel
theorem dX1_writeNumber_8 : decode cX1_writeNumber 8 = .ok (.getfield 12, 3) := by decide +kernel
theorem dX1_writeNumber_11 : decode cX1_writeNumber 11 = .ok (.bipush 48, 2) := by decide +kernel
theorem dX1_writeNumber_13 : decode cX1_writeNumber 13 = .ok (.iload_n 1, 1) := by decide +kernel
theorem dX1_writeNumber_14 : decode cX1_writeNumber 14 = .ok (.sipush 1000, 3) := by decide +kernel
theorem dX1_writeNumber_17 : decode cX1_writeNumber 17 = .ok (.idiv, 1) := by decide +kernel
theorem dX1_writeNumber_18 : decode cX1_writeNumber 18 = .ok (.bipush 10, 2) := by decide +kernel
theorem dX1_writeNumber_20 : decode cX1_writeNumber 20 = .ok (.irem, 1) := by decide +kernel
theorem dX1_writeNumber_21 : decode cX1_writeNumber 21 = .ok (.iadd, 1) := by decide +kernel
theorem dX1_writeNumber_22 : decode cX1_writeNumber 22 = .ok (.invokevirtual 31, 3) := by decide +kernel
theorem dX1_writeNumber_25 : decode cX1_writeNumber 25 = .ok (.iload_n 1, 1) := by decide +kernel
theorem dX1_writeNumber_26 : decode cX1_writeNumber 26 = .ok (.bipush 100, 2) := by decide +kernel
theorem dX1_writeNumber_28 : decode cX1_writeNumber 28 = .ok (.if_icmp .lt 20, 3) := by decide +kernel
theorem dX1_writeNumber_31 : decode cX1_writeNumber 31 = .ok (.aload_n 0, 1) := by decide +kernel
theorem dX1_writeNumber_32 : decode cX1_writeNumber 32 = .ok (.getfield 12, 3) := by decide +kernel
theorem dX1_writeNumber_35 : decode cX1_writeNumber 35 = .ok (.bipush 48, 2) := by decide +kernel
theorem dX1_writeNumber_37 : decode cX1_writeNumber 37 = .ok (.iload_n 1, 1) := by decide +kernel
theorem dX1_writeNumber_38 : decode cX1_writeNumber 38 = .ok (.bipush 100, 2) := by decide +kernel
theorem dX1_writeNumber_40 : decode cX1_writeNumber 40 = .ok (.idiv, 1) := by decide +kernel
theorem dX1_writeNumber_41 : decode cX1_writeNumber 41 = .ok (.bipush 10, 2) := by decide +kernel
theorem dX1_writeNumber_43 : decode cX1_writeNumber 43 = .ok (.irem, 1) := by decide +kernel
theorem dX1_writeNumber_44 : decode cX1_writeNumber 44 = .ok (.iadd, 1) := by decide +kernel
theorem dX1_writeNumber_45 : decode cX1_writeNumber 45 = .ok (.invokevirtual 31, 3) := by decide +kernel
theorem dX1_writeNumber_48 : decode cX1_writeNumber 48 = .ok (.iload_n 1, 1) := by decide +kernel
theorem dX1_writeNumber_49 : decode cX1_writeNumber 49 = .ok (.bipush 10, 2) := by decide +kernel
theorem dX1_writeNumber_51 : decode cX1_writeNumber 51 = .ok (.if_icmp .lt 20, 3) := by decide +kernel
theorem dX1_writeNumber_54 : decode cX1_writeNumber 54 = .ok (.aload_n 0, 1) := by decide +kernel
theorem dX1_writeNumber_55 : decode cX1_writeNumber 55 = .ok (.getfield 12, 3) := by decide +kernel
theorem dX1_writeNumber_58 : decode cX1_writeNumber 58 = .ok (.bipush 48, 2) := by decide +kernel
theorem dX1_writeNumber_60 : decode cX1_writeNumber 60 = .ok (.iload_n 1, 1) := by decide +kernel
theorem dX1_writeNumber_61 : decode cX1_writeNumber 61 = .ok (.bipush 10, 2) := by decide +kernel
theorem dX1_writeNumber_63 : decode cX1_writeNumber 63 = .ok (.idiv, 1) := by decide +kernel
theorem dX1_writeNumber_64 : decode cX1_writeNumber 64 = .ok (.bipush 10, 2) := by decide +kernel
theorem dX1_writeNumber_66 : decode cX1_writeNumber 66 = .ok (.irem, 1) := by decide +kernel
theorem dX1_writeNumber_67 : decode cX1_writeNumber 67 = .ok (.iadd, 1) := by decide +kernel
theorem dX1_writeNumber_68 : decode cX1_writeNumber 68 = .ok (.invokevirtual 31, 3) := by decide +kernel
theorem dX1_writeNumber_71 : decode cX1_writeNumber 71 = .ok (.aload_n 0, 1) := by decide +kernel
theorem dX1_writeNumber_72 : decode cX1_writeNumber 72 = .ok (.getfield 12, 3) := by decide +kernel
theorem dX1_writeNumber_75 : decode cX1_writeNumber 75 = .ok (.bipush 48, 2) := by decide +kernel
theorem dX1_writeNumber_77 : decode cX1_writeNumber 77 = .ok (.iload_n 1, 1) := by decide +kernel
theorem dX1_writeNumber_78 : decode cX1_writeNumber 78 = .ok (.bipush 10, 2) := by decide +kernel
theorem dX1_writeNumber_80 : decode cX1_writeNumber 80 = .ok (.irem, 1) := by decide +kernel
theorem dX1_writeNumber_81 : decode cX1_writeNumber 81 = .ok (.iadd, 1) := by decide +kernel
theorem dX1_writeNumber_82 : decode cX1_writeNumber 82 = .ok (.invokevirtual 31, 3) := by decide +kernel
theorem dX1_writeNumber_85 : decode cX1_writeNumber 85 = .ok (.return_, 1) := by decide +kernel
set_option maxRecDepth 20000 in
theorem ggX2_init_X4_init : GoodIn wsX2_init wsX4_init := goodIn_r _ [12, 13, 2, 3, 8, 14, 15, 16] (by decide +kernel) (by decide +kernel)
set_option maxRecDepth 20000 in
theorem gX2_init_X4_init : GoodIn wsX2_init (wsX4_init) := ggX2_init_X4_init
theorem dX2_init_0 : decode cX2_init 0 = .ok (.aload_n 0, 1) := by decide +kernel
theorem dX2_init_1 : decode cX2_init 1 = .ok (.invokespecial 3, 3) := by decide +kernel
theorem dX2_init_4 : decode cX2_init 4 = .ok (.aload_n 0, 1) := by decide +kernel
theorem dX2_init_5 : decode cX2_init 5 = .ok (.new 9, 3) := by decide +kernel
theorem dX2_init_8 : decode cX2_init 8 = .ok (.dup, 1) := by decide +kernel
theorem dX2_init_9 : decode cX2_init 9 = .ok (.invokespecial 11, 3) := by decide +kernel
theorem dX2_init_12 : decode cX2_init 12 = .ok (.putfield 12, 3) := by decide +kernel
theorem dX2_init_15 : decode cX2_init 15 = .ok (.aload_n 0, 1) := by decide +kernel
theorem dX2_init_16 : decode cX2_init 16 = .ok (.iconst 3, 1) := by decide +kernel
theorem dX2_init_17 : decode cX2_init 17 = .ok (.newarray .int, 2) := by decide +kernel
theorem dX2_init_19 : decode cX2_init 19 = .ok (.putfield 18, 3) := by decide +kernel
theorem dX2_init_22 : decode cX2_init 22 = .ok (.return_, 1) := by decide +kernel
set_option maxRecDepth 20000 in
theorem ggX2_wrongPlace_X4_length : GoodIn wsX2_wrongPlace wsX4_length := goodIn_r _ [10, 11, 62, 63] (by decide +kernel) (by decide +kernel)
set_option maxRecDepth 20000 in
theorem gX2_wrongPlace_X4_length : GoodIn wsX2_wrongPlace (wsV RX2 32 RX4 yX4_length wsX4_length) := goodIn_app (goodIn_of _ (by decide +kernel)) ggX2_wrongPlace_X4_length
set_option maxRecDepth 20000 in
theorem ggX2_wrongPlace_X2_readRow : GoodIn wsX2_wrongPlace wsX2_readRow := goodIn_r _ [16, 5, 1, 2, 4, 17, 18, 19, 9, 20, 11, 21, 22, 23, 15, 24, 25, 26, 27, 28, 29, 30, 31, 3, 32, 33, 34, 35, 36, 37, 38, 39, 40, 41, 42, 43, 44, 45, 46, 47, 48, 49, 50, 51, 52, 53, 54, 55, 56, 57, 58, 59, 60, 61, 62, 63] (by decide +kernel) (by decide +kernel)
set_option maxRecDepth 20000 in
theorem gX2_wrongPlace_X2_readRow : GoodIn wsX2_wrongPlace (wsV RX2 36 RX2 yX2_readRow wsX2_readRow) := goodIn_app (goodIn_of _ (by decide +kernel)) ggX2_wrongPlace_X2_readRow
theorem dX2_wrongPlace_0 : decode cX2_wrongPlace 0 = .ok (.aload_n 0, 1) := by decide +kernel
theorem dX2_wrongPlace_1 : decode cX2_wrongPlace 1 = .ok (.iconst 0, 1) := by decide +kernel
theorem dX2_wrongPlace_2 : decode cX2_wrongPlace 2 = .ok (.putfield 22, 3) := by decide +kernel
theorem dX2_wrongPlace_5 : decode cX2_wrongPlace 5 = .ok (.aload_n 0, 1) := by decide +kernel
theorem dX2_wrongPlace_6 : decode cX2_wrongPlace 6 = .ok (.iconst 0, 1) := by decide +kernel
theorem dX2_wrongPlace_7 : decode cX2_wrongPlace 7 = .ok (.putfield 26, 3) := by decide +kernel
theorem dX2_wrongPlace_10 : decode cX2_wrongPlace 10 = .ok (.aload_n 0, 1) := by decide +kernel
theorem dX2_wrongPlace_11 : decode cX2_wrongPlace 11 = .ok (.iconst (-1), 1) := by decide +kernel
theorem dX2_wrongPlace_12 : decode cX2_wrongPlace 12 = .ok (.putfield 29, 3) := by decide +kernel
theorem dX2_wrongPlace_15 : decode cX2_wrongPlace 15 = .ok (.iconst 0, 1) := by decide +kernel
theorem dX2_wrongPlace_16 : decode cX2_wrongPlace 16 = .ok (.istore_n 1, 1) := by decide +kernel
theorem dX2_wrongPlace_17 : decode cX2_wrongPlace 17 = .ok (.iload_n 1, 1) := by decide +kernel
theorem dX2_wrongPlace_18 : decode cX2_wrongPlace 18 = .ok (.iconst 3, 1) := by decide +kernel
theorem dX2_wrongPlace_19 : decode cX2_wrongPlace 19 = .ok (.if_icmp .ge 16, 3) := by decide +kernel
theorem dX2_wrongPlace_22 : decode cX2_wrongPlace 22 = .ok (.aload_n 0, 1) := by decide +kernel
theorem dX2_wrongPlace_23 : decode cX2_wrongPlace 23 = .ok (.getfield 18, 3) := by decide +kernel
theorem dX2_wrongPlace_26 : decode cX2_wrongPlace 26 = .ok (.iload_n 1, 1) := by decide +kernel
theorem dX2_wrongPlace_27 : decode cX2_wrongPlace 27 = .ok (.iconst 0, 1) := by decide +kernel
theorem dX2_wrongPlace_28 : decode cX2_wrongPlace 28 = .ok (.iastore, 1) := by decide +kernel
theorem dX2_wrongPlace_29 : decode cX2_wrongPlace 29 = .ok (.iinc 1 1, 3) := by decide +kernel
theorem dX2_wrongPlace_32 : decode cX2_wrongPlace 32 = .ok (.goto (-15), 3) := by decide +kernel
theorem dX2_wrongPlace_35 : decode cX2_wrongPlace 35 = .ok (.iconst 1, 1) := by decide +kernel
theorem dX2_wrongPlace_36 : decode cX2_wrongPlace 36 = .ok (.istore_n 1, 1) := by decide +kernel
theorem dX2_wrongPlace_37 : decode cX2_wrongPlace 37 = .ok (.iconst 0, 1) := by decide +kernel
theorem dX2_wrongPlace_38 : decode cX2_wrongPlace 38 = .ok (.istore_n 2, 1) := by decide +kernel
theorem dX2_wrongPlace_39 : decode cX2_wrongPlace 39 = .ok (.iload_n 2, 1) := by decide +kernel
theorem dX2_wrongPlace_40 : decode cX2_wrongPlace 40 = .ok (.sipush 600, 3) := by decide +kernel
theorem dX2_wrongPlace_43 : decode cX2_wrongPlace 43 = .ok (.if_icmp .ge 32, 3) := by decide +kernel
theorem dX2_wrongPlace_46 : decode cX2_wrongPlace 46 = .ok (.iload_n 1, 1) := by decide +kernel
theorem dX2_wrongPlace_47 : decode cX2_wrongPlace 47 = .ok (.ifCond .eq 28, 3) := by decide +kernel
theorem dX2_wrongPlace_50 : decode cX2_wrongPlace 50 = .ok (.aload_n 0, 1) := by decide +kernel
theorem dX2_wrongPlace_51 : decode cX2_wrongPlace 51 = .ok (.getfield 22, 3) := by decide +kernel
theorem dX2_wrongPlace_54 : decode cX2_wrongPlace 54 = .ok (.aload_n 0, 1) := by decide +kernel
theorem dX2_wrongPlace_55 : decode cX2_wrongPlace 55 = .ok (.getfield 12, 3) := by decide +kernel
theorem dX2_wrongPlace_58 : decode cX2_wrongPlace 58 = .ok (.invokevirtual 32, 3) := by decide +kernel
theorem dX2_wrongPlace_61 : decode cX2_wrongPlace 61 = .ok (.if_icmp .ge 14, 3) := by decide +kernel
theorem dX2_wrongPlace_64 : decode cX2_wrongPlace 64 = .ok (.aload_n 0, 1) := by decide +kernel
theorem dX2_wrongPlace_65 : decode cX2_wrongPlace 65 = .ok (.invokevirtual 36, 3) := by decide +kernel
theorem dX2_wrongPlace_68 : decode cX2_wrongPlace 68 = .ok (.istore_n 1, 1) := by decide +kernel
theorem dX2_wrongPlace_69 : decode cX2_wrongPlace 69 = .ok (.iinc 2 1, 3) := by decide +kernel
theorem dX2_wrongPlace_72 : decode cX2_wrongPlace 72 = .ok (.goto (-33), 3) := by decide +kernel
theorem dX2_wrongPlace_75 : decode cX2_wrongPlace 75 = .ok (.aload_n 0, 1) := by decide +kernel
theorem dX2_wrongPlace_76 : decode cX2_wrongPlace 76 = .ok (.getfield 29, 3) := by decide +kernel
theorem dX2_wrongPlace_79 : decode cX2_wrongPlace 79 = .ok (.ireturn, 1) := by decide +kernel
set_option maxRecDepth 20000 in
theorem ggX2_readRow_X4_byteAt : GoodIn wsX2_readRow wsX4_byteAt := goodIn_r _ [9, 10, 11, 54, 55] (by decide +kernel) (by decide +kernel)
set_option maxRecDepth 20000 in
theorem gX2_readRow_X4_byteAt : GoodIn wsX2_readRow (wsV RX2 40 RX4 yX4_byteAt wsX4_byteAt) := goodIn_app (goodIn_of _ (by decide +kernel)) ggX2_readRow_X4_byteAt
set_option maxRecDepth 20000 in
theorem ggX2_readRow_X2_kindOfLetter : GoodIn wsX2_readRow wsX2_kindOfLetter := goodIn_r _ [15] (by decide +kernel) (by decide +kernel)
set_option maxRecDepth 20000 in
theorem gX2_readRow_X2_kindOfLetter : GoodIn wsX2_readRow (va_wsS RX2 44 yX2_kindOfLetter wsX2_kindOfLetter) := goodIn_app (goodIn_of _ (by decide +kernel)) ggX2_readRow_X2_kindOfLetter
set_option maxRecDepth 20000 in
theorem ggX2_readRow_X2_mostRowsOf : GoodIn wsX2_readRow wsX2_mostRowsOf := goodIn_r _ [18] (by decide +kernel) (by decide +kernel)
set_option maxRecDepth 20000 in
theorem gX2_readRow_X2_mostRowsOf : GoodIn wsX2_readRow (va_wsS RX2 47 yX2_mostRowsOf wsX2_mostRowsOf) := goodIn_app (goodIn_of _ (by decide +kernel)) ggX2_readRow_X2_mostRowsOf
set_option maxRecDepth 20000 in
theorem ggX2_readRow_X2_wrongAt : GoodIn wsX2_readRow wsX2_wrongAt := goodIn_r _ [22, 23, 48, 49, 50, 51, 52, 53] (by decide +kernel) (by decide +kernel)
set_option maxRecDepth 20000 in
theorem gX2_readRow_X2_wrongAt : GoodIn wsX2_readRow (wsV RX2 50 RX2 yX2_wrongAt wsX2_wrongAt) := goodIn_app (goodIn_of _ (by decide +kernel)) ggX2_readRow_X2_wrongAt
set_option maxRecDepth 20000 in
theorem ggX2_readRow_X2_readStreet : GoodIn wsX2_readRow wsX2_readStreet := goodIn_r _ [27, 28, 29, 30, 31, 14, 32, 2, 1, 5, 6, 7, 8, 9, 10, 11, 33, 34, 35, 19, 20, 21, 22, 23, 36, 37, 38, 39, 48, 49, 50, 51, 52, 53, 54, 55] (by decide +kernel) (by decide +kernel)
set_option maxRecDepth 20000 in
theorem gX2_readRow_X2_readStreet : GoodIn wsX2_readRow (wsV RX2 54 RX2 yX2_readStreet wsX2_readStreet) := goodIn_app (goodIn_of _ (by decide +kernel)) ggX2_readRow_X2_readStreet
set_option maxRecDepth 20000 in
theorem ggX2_readRow_X2_readByte : GoodIn wsX2_readRow wsX2_readByte := goodIn_r _ [39, 1, 2, 5, 6, 7, 8, 9, 10, 11, 19, 20, 21, 14, 22, 23, 48, 49, 50, 51, 52, 53, 54, 55] (by decide +kernel) (by decide +kernel)
set_option maxRecDepth 20000 in
theorem gX2_readRow_X2_readByte : GoodIn wsX2_readRow (wsV RX2 57 RX2 yX2_readByte wsX2_readByte) := goodIn_app (goodIn_of _ (by decide +kernel)) ggX2_readRow_X2_readByte
set_option maxRecDepth 20000 in
theorem ggX2_readRow_X2_readUnit : GoodIn wsX2_readRow wsX2_readUnit := goodIn_r _ [43, 29, 30, 31, 14, 32, 2, 1, 28, 5, 6, 7, 8, 9, 10, 11, 33, 34, 35, 19, 20, 21, 22, 23, 36, 37, 38, 39, 48, 49, 50, 51, 52, 53, 54, 55] (by decide +kernel) (by decide +kernel)
set_option maxRecDepth 20000 in
theorem gX2_readRow_X2_readUnit : GoodIn wsX2_readRow (wsV RX2 60 RX2 yX2_readUnit wsX2_readUnit) := goodIn_app (goodIn_of _ (by decide +kernel)) ggX2_readRow_X2_readUnit
set_option maxRecDepth 20000 in
theorem ggX2_readRow_X2_readCall : GoodIn wsX2_readRow wsX2_readCall := goodIn_r _ [47, 29, 30, 31, 14, 32, 2, 1, 28, 5, 6, 7, 8, 9, 10, 11, 33, 34, 35, 19, 20, 21, 22, 23, 36, 37, 38, 39, 48, 49, 50, 51, 52, 53, 54, 55] (by decide +kernel) (by decide +kernel)
set_option maxRecDepth 20000 in
theorem gX2_readRow_X2_readCall : GoodIn wsX2_readRow (wsV RX2 63 RX2 yX2_readCall wsX2_readCall) := goodIn_app (goodIn_of _ (by decide +kernel)) ggX2_readRow_X2_readCall
theorem dX2_readRow_0 : decode cX2_readRow 0 = .ok (.aload_n 0, 1) := by decide +kernel
theorem dX2_readRow_1 : decode cX2_readRow 1 = .ok (.getfield 12, 3) := by decide +kernel
theorem dX2_readRow_4 : decode cX2_readRow 4 = .ok (.aload_n 0, 1) := by decide +kernel
theorem dX2_readRow_5 : decode cX2_readRow 5 = .ok (.getfield 22, 3) := by decide +kernel
theorem dX2_readRow_8 : decode cX2_readRow 8 = .ok (.invokevirtual 40, 3) := by decide +kernel
theorem dX2_readRow_11 : decode cX2_readRow 11 = .ok (.invokestatic 44, 3) := by decide +kernel
theorem dX2_readRow_14 : decode cX2_readRow 14 = .ok (.istore_n 1, 1) := by decide +kernel
theorem dX2_readRow_15 : decode cX2_readRow 15 = .ok (.iload_n 1, 1) := by decide +kernel
theorem dX2_readRow_16 : decode cX2_readRow 16 = .ok (.ifCond .lt 29, 3) := by decide +kernel
theorem dX2_readRow_19 : decode cX2_readRow 19 = .ok (.iload_n 1, 1) := by decide +kernel
theorem dX2_readRow_20 : decode cX2_readRow 20 = .ok (.iconst 3, 1) := by decide +kernel
theorem dX2_readRow_21 : decode cX2_readRow 21 = .ok (.if_icmp .ge 24, 3) := by decide +kernel
theorem dX2_readRow_24 : decode cX2_readRow 24 = .ok (.iload_n 1, 1) := by decide +kernel
theorem dX2_readRow_25 : decode cX2_readRow 25 = .ok (.aload_n 0, 1) := by decide +kernel
theorem dX2_readRow_26 : decode cX2_readRow 26 = .ok (.getfield 26, 3) := by decide +kernel
theorem dX2_readRow_29 : decode cX2_readRow 29 = .ok (.if_icmp .lt 16, 3) := by decide +kernel
theorem dX2_readRow_32 : decode cX2_readRow 32 = .ok (.aload_n 0, 1) := by decide +kernel
theorem dX2_readRow_33 : decode cX2_readRow 33 = .ok (.getfield 18, 3) := by decide +kernel
theorem dX2_readRow_36 : decode cX2_readRow 36 = .ok (.iload_n 1, 1) := by decide +kernel
theorem dX2_readRow_37 : decode cX2_readRow 37 = .ok (.iaload, 1) := by decide +kernel
theorem dX2_readRow_38 : decode cX2_readRow 38 = .ok (.iload_n 1, 1) := by decide +kernel
theorem dX2_readRow_39 : decode cX2_readRow 39 = .ok (.invokestatic 47, 3) := by decide +kernel
theorem dX2_readRow_42 : decode cX2_readRow 42 = .ok (.if_icmp .lt 12, 3) := by decide +kernel
theorem dX2_readRow_45 : decode cX2_readRow 45 = .ok (.aload_n 0, 1) := by decide +kernel
theorem dX2_readRow_46 : decode cX2_readRow 46 = .ok (.aload_n 0, 1) := by decide +kernel
theorem dX2_readRow_47 : decode cX2_readRow 47 = .ok (.getfield 22, 3) := by decide +kernel
theorem dX2_readRow_50 : decode cX2_readRow 50 = .ok (.invokevirtual 50, 3) := by decide +kernel
theorem dX2_readRow_53 : decode cX2_readRow 53 = .ok (.ireturn, 1) := by decide +kernel
theorem dX2_readRow_54 : decode cX2_readRow 54 = .ok (.aload_n 0, 1) := by decide +kernel
theorem dX2_readRow_55 : decode cX2_readRow 55 = .ok (.iload_n 1, 1) := by decide +kernel
theorem dX2_readRow_56 : decode cX2_readRow 56 = .ok (.putfield 26, 3) := by decide +kernel
theorem dX2_readRow_59 : decode cX2_readRow 59 = .ok (.aload_n 0, 1) := by decide +kernel
theorem dX2_readRow_60 : decode cX2_readRow 60 = .ok (.getfield 18, 3) := by decide +kernel
theorem dX2_readRow_63 : decode cX2_readRow 63 = .ok (.iload_n 1, 1) := by decide +kernel
theorem dX2_readRow_64 : decode cX2_readRow 64 = .ok (.dup2, 1) := by decide +kernel
theorem dX2_readRow_65 : decode cX2_readRow 65 = .ok (.iaload, 1) := by decide +kernel
theorem dX2_readRow_66 : decode cX2_readRow 66 = .ok (.iconst 1, 1) := by decide +kernel
theorem dX2_readRow_67 : decode cX2_readRow 67 = .ok (.iadd, 1) := by decide +kernel
theorem dX2_readRow_68 : decode cX2_readRow 68 = .ok (.iastore, 1) := by decide +kernel
theorem dX2_readRow_69 : decode cX2_readRow 69 = .ok (.aload_n 0, 1) := by decide +kernel
theorem dX2_readRow_70 : decode cX2_readRow 70 = .ok (.dup, 1) := by decide +kernel
theorem dX2_readRow_71 : decode cX2_readRow 71 = .ok (.getfield 22, 3) := by decide +kernel
theorem dX2_readRow_74 : decode cX2_readRow 74 = .ok (.iconst 1, 1) := by decide +kernel
theorem dX2_readRow_75 : decode cX2_readRow 75 = .ok (.iadd, 1) := by decide +kernel
theorem dX2_readRow_76 : decode cX2_readRow 76 = .ok (.putfield 22, 3) := by decide +kernel
theorem dX2_readRow_79 : decode cX2_readRow 79 = .ok (.iload_n 1, 1) := by decide +kernel
theorem dX2_readRow_80 : decode cX2_readRow 80 = .ok (.ifCond .ne 25, 3) := by decide +kernel
theorem dX2_readRow_83 : decode cX2_readRow 83 = .ok (.aload_n 0, 1) := by decide +kernel
theorem dX2_readRow_84 : decode cX2_readRow 84 = .ok (.invokevirtual 54, 3) := by decide +kernel
theorem dX2_readRow_87 : decode cX2_readRow 87 = .ok (.ifCond .eq 16, 3) := by decide +kernel
theorem dX2_readRow_90 : decode cX2_readRow 90 = .ok (.aload_n 0, 1) := by decide +kernel
theorem dX2_readRow_91 : decode cX2_readRow 91 = .ok (.bipush 59, 2) := by decide +kernel
theorem dX2_readRow_93 : decode cX2_readRow 93 = .ok (.invokevirtual 57, 3) := by decide +kernel
theorem dX2_readRow_96 : decode cX2_readRow 96 = .ok (.ifCond .eq 7, 3) := by decide +kernel
theorem dX2_readRow_99 : decode cX2_readRow 99 = .ok (.iconst 1, 1) := by decide +kernel
theorem dX2_readRow_100 : decode cX2_readRow 100 = .ok (.goto 4, 3) := by decide +kernel
theorem dX2_readRow_103 : decode cX2_readRow 103 = .ok (.iconst 0, 1) := by decide +kernel
theorem dX2_readRow_104 : decode cX2_readRow 104 = .ok (.ireturn, 1) := by decide +kernel
theorem dX2_readRow_105 : decode cX2_readRow 105 = .ok (.iload_n 1, 1) := by decide +kernel
theorem dX2_readRow_106 : decode cX2_readRow 106 = .ok (.iconst 1, 1) := by decide +kernel
theorem dX2_readRow_107 : decode cX2_readRow 107 = .ok (.if_icmp .ne 13, 3) := by decide +kernel
theorem dX2_readRow_110 : decode cX2_readRow 110 = .ok (.aload_n 0, 1) := by decide +kernel
theorem dX2_readRow_111 : decode cX2_readRow 111 = .ok (.invokevirtual 60, 3) := by decide +kernel
theorem dX2_readRow_114 : decode cX2_readRow 114 = .ok (.ifCond .eq 26, 3) := by decide +kernel
theorem dX2_readRow_117 : decode cX2_readRow 117 = .ok (.goto 10, 3) := by decide +kernel
theorem dX2_readRow_120 : decode cX2_readRow 120 = .ok (.aload_n 0, 1) := by decide +kernel
theorem dX2_readRow_121 : decode cX2_readRow 121 = .ok (.invokevirtual 63, 3) := by decide +kernel
theorem dX2_readRow_124 : decode cX2_readRow 124 = .ok (.ifCond .eq 16, 3) := by decide +kernel
theorem dX2_readRow_127 : decode cX2_readRow 127 = .ok (.aload_n 0, 1) := by decide +kernel
theorem dX2_readRow_128 : decode cX2_readRow 128 = .ok (.bipush 59, 2) := by decide +kernel
theorem dX2_readRow_130 : decode cX2_readRow 130 = .ok (.invokevirtual 57, 3) := by decide +kernel
theorem dX2_readRow_133 : decode cX2_readRow 133 = .ok (.ifCond .eq 7, 3) := by decide +kernel
theorem dX2_readRow_136 : decode cX2_readRow 136 = .ok (.iconst 1, 1) := by decide +kernel
theorem dX2_readRow_137 : decode cX2_readRow 137 = .ok (.goto 4, 3) := by decide +kernel
theorem dX2_readRow_140 : decode cX2_readRow 140 = .ok (.iconst 0, 1) := by decide +kernel
theorem dX2_readRow_141 : decode cX2_readRow 141 = .ok (.ireturn, 1) := by decide +kernel
theorem dX2_kindOfLetter_0 : decode cX2_kindOfLetter 0 = .ok (.iload_n 0, 1) := by decide +kernel
theorem dX2_kindOfLetter_1 : decode cX2_kindOfLetter 1 = .ok (.lookupswitch 41 #[(99, 39), (115, 35), (117, 37)], 35) := by decide +kernel
theorem dX2_kindOfLetter_36 : decode cX2_kindOfLetter 36 = .ok (.iconst 0, 1) := by decide +kernel
theorem dX2_kindOfLetter_37 : decode cX2_kindOfLetter 37 = .ok (.ireturn, 1) := by decide +kernel
theorem dX2_kindOfLetter_38 : decode cX2_kindOfLetter 38 = .ok (.iconst 1, 1) := by decide +kernel
theorem dX2_kindOfLetter_39 : decode cX2_kindOfLetter 39 = .ok (.ireturn, 1) := by decide +kernel
theorem dX2_kindOfLetter_40 : decode cX2_kindOfLetter 40 = .ok (.iconst 2, 1) := by decide +kernel
theorem dX2_kindOfLetter_41 : decode cX2_kindOfLetter 41 = .ok (.ireturn, 1) := by decide +kernel
theorem dX2_kindOfLetter_42 : decode cX2_kindOfLetter 42 = .ok (.iconst (-1), 1) := by decide +kernel
theorem dX2_kindOfLetter_43 : decode cX2_kindOfLetter 43 = .ok (.ireturn, 1) := by decide +kernel
theorem dX2_mostRowsOf_0 : decode cX2_mostRowsOf 0 = .ok (.iload_n 0, 1) := by decide +kernel
theorem dX2_mostRowsOf_1 : decode cX2_mostRowsOf 1 = .ok (.ifCond .ne 6, 3) := by decide +kernel
theorem dX2_mostRowsOf_4 : decode cX2_mostRowsOf 4 = .ok (.bipush 30, 2) := by decide +kernel
theorem dX2_mostRowsOf_6 : decode cX2_mostRowsOf 6 = .ok (.ireturn, 1) := by decide +kernel
theorem dX2_mostRowsOf_7 : decode cX2_mostRowsOf 7 = .ok (.iload_n 0, 1) := by decide +kernel
theorem dX2_mostRowsOf_8 : decode cX2_mostRowsOf 8 = .ok (.iconst 1, 1) := by decide +kernel
theorem dX2_mostRowsOf_9 : decode cX2_mostRowsOf 9 = .ok (.if_icmp .ne 8, 3) := by decide +kernel
theorem dX2_mostRowsOf_12 : decode cX2_mostRowsOf 12 = .ok (.bipush 11, 2) := by decide +kernel
theorem dX2_mostRowsOf_14 : decode cX2_mostRowsOf 14 = .ok (.goto 5, 3) := by decide +kernel
theorem dX2_mostRowsOf_17 : decode cX2_mostRowsOf 17 = .ok (.bipush 21, 2) := by decide +kernel
theorem dX2_mostRowsOf_19 : decode cX2_mostRowsOf 19 = .ok (.ireturn, 1) := by decide +kernel
set_option maxRecDepth 20000 in
theorem ggX2_readStreet_X2_readNumber : GoodIn wsX2_readStreet wsX2_readNumber := goodIn_r _ [6, 7, 8, 1, 9, 10, 11, 12, 13, 14, 15, 16, 17, 5, 18, 19, 20, 21, 22, 23, 28, 29, 30, 31, 32, 33, 34, 35] (by decide +kernel) (by decide +kernel)
set_option maxRecDepth 20000 in
theorem gX2_readStreet_X2_readNumber : GoodIn wsX2_readStreet (wsV RX2 66 RX2 yX2_readNumber wsX2_readNumber) := goodIn_app (goodIn_of _ (by decide +kernel)) ggX2_readStreet_X2_readNumber
set_option maxRecDepth 20000 in
theorem ggX2_readStreet_X2_readByte : GoodIn wsX2_readStreet wsX2_readByte := goodIn_r _ [27, 8, 7, 9, 10, 11, 12, 13, 14, 15, 19, 20, 21, 5, 22, 23, 28, 29, 30, 31, 32, 33, 34, 35] (by decide +kernel) (by decide +kernel)
set_option maxRecDepth 20000 in
theorem gX2_readStreet_X2_readByte : GoodIn wsX2_readStreet (wsV RX2 57 RX2 yX2_readByte wsX2_readByte) := goodIn_app (goodIn_of _ (by decide +kernel)) ggX2_readStreet_X2_readByte
theorem dX2_readStreet_0 : decode cX2_readStreet 0 = .ok (.aload_n 0, 1) := by decide +kernel
theorem dX2_readStreet_1 : decode cX2_readStreet 1 = .ok (.iconst 0, 1) := by decide +kernel
theorem dX2_readStreet_2 : decode cX2_readStreet 2 = .ok (.bipush 20, 2) := by decide +kernel
theorem dX2_readStreet_4 : decode cX2_readStreet 4 = .ok (.invokevirtual 66, 3) := by decide +kernel
theorem dX2_readStreet_7 : decode cX2_readStreet 7 = .ok (.ifCond .eq 50, 3) := by decide +kernel
theorem dX2_readStreet_10 : decode cX2_readStreet 10 = .ok (.aload_n 0, 1) := by decide +kernel
theorem dX2_readStreet_11 : decode cX2_readStreet 11 = .ok (.bipush 45, 2) := by decide +kernel
theorem dX2_readStreet_13 : decode cX2_readStreet 13 = .ok (.invokevirtual 57, 3) := by decide +kernel
theorem dX2_readStreet_16 : decode cX2_readStreet 16 = .ok (.ifCond .eq 41, 3) := by decide +kernel
theorem dX2_readStreet_19 : decode cX2_readStreet 19 = .ok (.aload_n 0, 1) := by decide +kernel
theorem dX2_readStreet_20 : decode cX2_readStreet 20 = .ok (.aload_n 0, 1) := by decide +kernel
theorem dX2_readStreet_21 : decode cX2_readStreet 21 = .ok (.getfield 70, 3) := by decide +kernel
theorem dX2_readStreet_24 : decode cX2_readStreet 24 = .ok (.iconst 1, 1) := by decide +kernel
theorem dX2_readStreet_25 : decode cX2_readStreet 25 = .ok (.iadd, 1) := by decide +kernel
theorem dX2_readStreet_26 : decode cX2_readStreet 26 = .ok (.bipush 20, 2) := by decide +kernel
theorem dX2_readStreet_28 : decode cX2_readStreet 28 = .ok (.invokevirtual 66, 3) := by decide +kernel
theorem dX2_readStreet_31 : decode cX2_readStreet 31 = .ok (.ifCond .eq 26, 3) := by decide +kernel
theorem dX2_readStreet_34 : decode cX2_readStreet 34 = .ok (.aload_n 0, 1) := by decide +kernel
theorem dX2_readStreet_35 : decode cX2_readStreet 35 = .ok (.bipush 58, 2) := by decide +kernel
theorem dX2_readStreet_37 : decode cX2_readStreet 37 = .ok (.invokevirtual 57, 3) := by decide +kernel
theorem dX2_readStreet_40 : decode cX2_readStreet 40 = .ok (.ifCond .eq 17, 3) := by decide +kernel
theorem dX2_readStreet_43 : decode cX2_readStreet 43 = .ok (.aload_n 0, 1) := by decide +kernel
theorem dX2_readStreet_44 : decode cX2_readStreet 44 = .ok (.iconst 1, 1) := by decide +kernel
theorem dX2_readStreet_45 : decode cX2_readStreet 45 = .ok (.bipush 99, 2) := by decide +kernel
theorem dX2_readStreet_47 : decode cX2_readStreet 47 = .ok (.invokevirtual 66, 3) := by decide +kernel
theorem dX2_readStreet_50 : decode cX2_readStreet 50 = .ok (.ifCond .eq 7, 3) := by decide +kernel
theorem dX2_readStreet_53 : decode cX2_readStreet 53 = .ok (.iconst 1, 1) := by decide +kernel
theorem dX2_readStreet_54 : decode cX2_readStreet 54 = .ok (.goto 4, 3) := by decide +kernel
theorem dX2_readStreet_57 : decode cX2_readStreet 57 = .ok (.iconst 0, 1) := by decide +kernel
theorem dX2_readStreet_58 : decode cX2_readStreet 58 = .ok (.ireturn, 1) := by decide +kernel
set_option maxRecDepth 20000 in
theorem ggX2_readUnit_X2_readNumber : GoodIn wsX2_readUnit wsX2_readNumber := goodIn_r _ [5, 6, 7, 8, 9, 10, 11, 12, 13, 14, 15, 16, 17, 4, 18, 19, 20, 21, 22, 23, 28, 29, 30, 31, 32, 33, 34, 35] (by decide +kernel) (by decide +kernel)
set_option maxRecDepth 20000 in
theorem gX2_readUnit_X2_readNumber : GoodIn wsX2_readUnit (wsV RX2 66 RX2 yX2_readNumber wsX2_readNumber) := goodIn_app (goodIn_of _ (by decide +kernel)) ggX2_readUnit_X2_readNumber
set_option maxRecDepth 20000 in
theorem ggX2_readUnit_X2_readByte : GoodIn wsX2_readUnit wsX2_readByte := goodIn_r _ [27, 7, 6, 9, 10, 11, 12, 13, 14, 15, 19, 20, 21, 4, 22, 23, 28, 29, 30, 31, 32, 33, 34, 35] (by decide +kernel) (by decide +kernel)
set_option maxRecDepth 20000 in
theorem gX2_readUnit_X2_readByte : GoodIn wsX2_readUnit (wsV RX2 57 RX2 yX2_readByte wsX2_readByte) := goodIn_app (goodIn_of _ (by decide +kernel)) ggX2_readUnit_X2_readByte
theorem dX2_readUnit_0 : decode cX2_readUnit 0 = .ok (.aload_n 0, 1) := by decide +kernel
theorem dX2_readUnit_1 : decode cX2_readUnit 1 = .ok (.iconst 0, 1) := by decide +kernel
theorem dX2_readUnit_2 : decode cX2_readUnit 2 = .ok (.bipush 20, 2) := by decide +kernel
theorem dX2_readUnit_4 : decode cX2_readUnit 4 = .ok (.invokevirtual 66, 3) := by decide +kernel
theorem dX2_readUnit_7 : decode cX2_readUnit 7 = .ok (.ifCond .eq 26, 3) := by decide +kernel
theorem dX2_readUnit_10 : decode cX2_readUnit 10 = .ok (.aload_n 0, 1) := by decide +kernel
theorem dX2_readUnit_11 : decode cX2_readUnit 11 = .ok (.bipush 58, 2) := by decide +kernel
theorem dX2_readUnit_13 : decode cX2_readUnit 13 = .ok (.invokevirtual 57, 3) := by decide +kernel
theorem dX2_readUnit_16 : decode cX2_readUnit 16 = .ok (.ifCond .eq 17, 3) := by decide +kernel
theorem dX2_readUnit_19 : decode cX2_readUnit 19 = .ok (.aload_n 0, 1) := by decide +kernel
theorem dX2_readUnit_20 : decode cX2_readUnit 20 = .ok (.iconst 1, 1) := by decide +kernel
theorem dX2_readUnit_21 : decode cX2_readUnit 21 = .ok (.bipush 7, 2) := by decide +kernel
theorem dX2_readUnit_23 : decode cX2_readUnit 23 = .ok (.invokevirtual 66, 3) := by decide +kernel
theorem dX2_readUnit_26 : decode cX2_readUnit 26 = .ok (.ifCond .eq 7, 3) := by decide +kernel
theorem dX2_readUnit_29 : decode cX2_readUnit 29 = .ok (.iconst 1, 1) := by decide +kernel
theorem dX2_readUnit_30 : decode cX2_readUnit 30 = .ok (.goto 4, 3) := by decide +kernel
theorem dX2_readUnit_33 : decode cX2_readUnit 33 = .ok (.iconst 0, 1) := by decide +kernel
theorem dX2_readUnit_34 : decode cX2_readUnit 34 = .ok (.ireturn, 1) := by decide +kernel
set_option maxRecDepth 20000 in
theorem ggX2_readCall_X2_readNumber : GoodIn wsX2_readCall wsX2_readNumber := goodIn_r _ [5, 6, 7, 8, 9, 10, 11, 12, 13, 14, 15, 16, 17, 4, 18, 19, 20, 21, 22, 23, 28, 29, 30, 31, 32, 33, 34, 35] (by decide +kernel) (by decide +kernel)
set_option maxRecDepth 20000 in
theorem gX2_readCall_X2_readNumber : GoodIn wsX2_readCall (wsV RX2 66 RX2 yX2_readNumber wsX2_readNumber) := goodIn_app (goodIn_of _ (by decide +kernel)) ggX2_readCall_X2_readNumber
set_option maxRecDepth 20000 in
theorem ggX2_readCall_X2_readByte : GoodIn wsX2_readCall wsX2_readByte := goodIn_r _ [27, 7, 6, 9, 10, 11, 12, 13, 14, 15, 19, 20, 21, 4, 22, 23, 28, 29, 30, 31, 32, 33, 34, 35] (by decide +kernel) (by decide +kernel)
set_option maxRecDepth 20000 in
theorem gX2_readCall_X2_readByte : GoodIn wsX2_readCall (wsV RX2 57 RX2 yX2_readByte wsX2_readByte) := goodIn_app (goodIn_of _ (by decide +kernel)) ggX2_readCall_X2_readByte
theorem dX2_readCall_0 : decode cX2_readCall 0 = .ok (.aload_n 0, 1) := by decide +kernel
theorem dX2_readCall_1 : decode cX2_readCall 1 = .ok (.iconst 0, 1) := by decide +kernel
theorem dX2_readCall_2 : decode cX2_readCall 2 = .ok (.bipush 20, 2) := by decide +kernel
theorem dX2_readCall_4 : decode cX2_readCall 4 = .ok (.invokevirtual 66, 3) := by decide +kernel
theorem dX2_readCall_7 : decode cX2_readCall 7 = .ok (.ifCond .eq 45, 3) := by decide +kernel
theorem dX2_readCall_10 : decode cX2_readCall 10 = .ok (.aload_n 0, 1) := by decide +kernel
theorem dX2_readCall_11 : decode cX2_readCall 11 = .ok (.bipush 58, 2) := by decide +kernel
theorem dX2_readCall_13 : decode cX2_readCall 13 = .ok (.invokevirtual 57, 3) := by decide +kernel
theorem dX2_readCall_16 : decode cX2_readCall 16 = .ok (.ifCond .eq 36, 3) := by decide +kernel
theorem dX2_readCall_19 : decode cX2_readCall 19 = .ok (.aload_n 0, 1) := by decide +kernel
theorem dX2_readCall_20 : decode cX2_readCall 20 = .ok (.iconst 0, 1) := by decide +kernel
theorem dX2_readCall_21 : decode cX2_readCall 21 = .ok (.iconst 2, 1) := by decide +kernel
theorem dX2_readCall_22 : decode cX2_readCall 22 = .ok (.invokevirtual 66, 3) := by decide +kernel
theorem dX2_readCall_25 : decode cX2_readCall 25 = .ok (.ifCond .eq 27, 3) := by decide +kernel
theorem dX2_readCall_28 : decode cX2_readCall 28 = .ok (.aload_n 0, 1) := by decide +kernel
theorem dX2_readCall_29 : decode cX2_readCall 29 = .ok (.bipush 64, 2) := by decide +kernel
theorem dX2_readCall_31 : decode cX2_readCall 31 = .ok (.invokevirtual 57, 3) := by decide +kernel
theorem dX2_readCall_34 : decode cX2_readCall 34 = .ok (.ifCond .eq 18, 3) := by decide +kernel
theorem dX2_readCall_37 : decode cX2_readCall 37 = .ok (.aload_n 0, 1) := by decide +kernel
theorem dX2_readCall_38 : decode cX2_readCall 38 = .ok (.iconst 0, 1) := by decide +kernel
theorem dX2_readCall_39 : decode cX2_readCall 39 = .ok (.sipush 1439, 3) := by decide +kernel
theorem dX2_readCall_42 : decode cX2_readCall 42 = .ok (.invokevirtual 66, 3) := by decide +kernel
theorem dX2_readCall_45 : decode cX2_readCall 45 = .ok (.ifCond .eq 7, 3) := by decide +kernel
theorem dX2_readCall_48 : decode cX2_readCall 48 = .ok (.iconst 1, 1) := by decide +kernel
theorem dX2_readCall_49 : decode cX2_readCall 49 = .ok (.goto 4, 3) := by decide +kernel
theorem dX2_readCall_52 : decode cX2_readCall 52 = .ok (.iconst 0, 1) := by decide +kernel
theorem dX2_readCall_53 : decode cX2_readCall 53 = .ok (.ireturn, 1) := by decide +kernel
set_option maxRecDepth 20000 in
theorem ggX2_readByte_X4_byteAt : GoodIn wsX2_readByte wsX4_byteAt := goodIn_r _ [7, 8, 9, 22, 23] (by decide +kernel) (by decide +kernel)
set_option maxRecDepth 20000 in
theorem gX2_readByte_X4_byteAt : GoodIn wsX2_readByte (wsV RX2 40 RX4 yX4_byteAt wsX4_byteAt) := goodIn_app (goodIn_of _ (by decide +kernel)) ggX2_readByte_X4_byteAt
set_option maxRecDepth 20000 in
theorem ggX2_readByte_X2_wrongAt : GoodIn wsX2_readByte wsX2_wrongAt := goodIn_r _ [14, 15, 16, 17, 18, 19, 20, 21] (by decide +kernel) (by decide +kernel)
set_option maxRecDepth 20000 in
theorem gX2_readByte_X2_wrongAt : GoodIn wsX2_readByte (wsV RX2 50 RX2 yX2_wrongAt wsX2_wrongAt) := goodIn_app (goodIn_of _ (by decide +kernel)) ggX2_readByte_X2_wrongAt
theorem dX2_readByte_0 : decode cX2_readByte 0 = .ok (.aload_n 0, 1) := by decide +kernel
theorem dX2_readByte_1 : decode cX2_readByte 1 = .ok (.getfield 12, 3) := by decide +kernel
theorem dX2_readByte_4 : decode cX2_readByte 4 = .ok (.aload_n 0, 1) := by decide +kernel
theorem dX2_readByte_5 : decode cX2_readByte 5 = .ok (.getfield 22, 3) := by decide +kernel
theorem dX2_readByte_8 : decode cX2_readByte 8 = .ok (.invokevirtual 40, 3) := by decide +kernel
theorem dX2_readByte_11 : decode cX2_readByte 11 = .ok (.iload_n 1, 1) := by decide +kernel
theorem dX2_readByte_12 : decode cX2_readByte 12 = .ok (.if_icmp .eq 12, 3) := by decide +kernel
theorem dX2_readByte_15 : decode cX2_readByte 15 = .ok (.aload_n 0, 1) := by decide +kernel
theorem dX2_readByte_16 : decode cX2_readByte 16 = .ok (.aload_n 0, 1) := by decide +kernel
theorem dX2_readByte_17 : decode cX2_readByte 17 = .ok (.getfield 22, 3) := by decide +kernel
