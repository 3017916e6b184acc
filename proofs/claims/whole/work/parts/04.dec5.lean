theorem dX5_init_0 : decode cX5_init 0 = .ok (.aload_n 0, 1) := by decide +kernel
theorem dX5_init_1 : decode cX5_init 1 = .ok (.invokespecial 1, 3) := by decide +kernel
theorem dX5_init_4 : decode cX5_init 4 = .ok (.aload_n 0, 1) := by decide +kernel
theorem dX5_init_5 : decode cX5_init 5 = .ok (.bipush 16, 2) := by decide +kernel
theorem dX5_init_7 : decode cX5_init 7 = .ok (.newarray .int, 2) := by decide +kernel
theorem dX5_init_9 : decode cX5_init 9 = .ok (.putfield 7, 3) := by decide +kernel
theorem dX5_init_12 : decode cX5_init 12 = .ok (.aload_n 0, 1) := by decide +kernel
theorem dX5_init_13 : decode cX5_init 13 = .ok (.bipush 16, 2) := by decide +kernel
theorem dX5_init_15 : decode cX5_init 15 = .ok (.newarray .int, 2) := by decide +kernel
theorem dX5_init_17 : decode cX5_init 17 = .ok (.putfield 13, 3) := by decide +kernel
theorem dX5_init_20 : decode cX5_init 20 = .ok (.aload_n 0, 1) := by decide +kernel
theorem dX5_init_21 : decode cX5_init 21 = .ok (.bipush 16, 2) := by decide +kernel
theorem dX5_init_23 : decode cX5_init 23 = .ok (.newarray .int, 2) := by decide +kernel
theorem dX5_init_25 : decode cX5_init 25 = .ok (.putfield 16, 3) := by decide +kernel
theorem dX5_init_28 : decode cX5_init 28 = .ok (.aload_n 0, 1) := by decide +kernel
theorem dX5_init_29 : decode cX5_init 29 = .ok (.bipush 17, 2) := by decide +kernel
theorem dX5_init_31 : decode cX5_init 31 = .ok (.newarray .int, 2) := by decide +kernel
theorem dX5_init_33 : decode cX5_init 33 = .ok (.putfield 19, 3) := by decide +kernel
theorem dX5_init_36 : decode cX5_init 36 = .ok (.aload_n 0, 1) := by decide +kernel
theorem dX5_init_37 : decode cX5_init 37 = .ok (.bipush 17, 2) := by decide +kernel
theorem dX5_init_39 : decode cX5_init 39 = .ok (.newarray .int, 2) := by decide +kernel
theorem dX5_init_41 : decode cX5_init 41 = .ok (.putfield 22, 3) := by decide +kernel
theorem dX5_init_44 : decode cX5_init 44 = .ok (.aload_n 0, 1) := by decide +kernel
theorem dX5_init_45 : decode cX5_init 45 = .ok (.bipush 16, 2) := by decide +kernel
theorem dX5_init_47 : decode cX5_init 47 = .ok (.newarray .int, 2) := by decide +kernel
theorem dX5_init_49 : decode cX5_init 49 = .ok (.putfield 25, 3) := by decide +kernel
theorem dX5_init_52 : decode cX5_init 52 = .ok (.aload_n 0, 1) := by decide +kernel
theorem dX5_init_53 : decode cX5_init 53 = .ok (.bipush 8, 2) := by decide +kernel
theorem dX5_init_55 : decode cX5_init 55 = .ok (.newarray .int, 2) := by decide +kernel
theorem dX5_init_57 : decode cX5_init 57 = .ok (.putfield 28, 3) := by decide +kernel
theorem dX5_init_60 : decode cX5_init 60 = .ok (.aload_n 0, 1) := by decide +kernel
theorem dX5_init_61 : decode cX5_init 61 = .ok (.bipush 8, 2) := by decide +kernel
theorem dX5_init_63 : decode cX5_init 63 = .ok (.newarray .int, 2) := by decide +kernel
theorem dX5_init_65 : decode cX5_init 65 = .ok (.putfield 31, 3) := by decide +kernel
theorem dX5_init_68 : decode cX5_init 68 = .ok (.aload_n 0, 1) := by decide +kernel
theorem dX5_init_69 : decode cX5_init 69 = .ok (.bipush 8, 2) := by decide +kernel
theorem dX5_init_71 : decode cX5_init 71 = .ok (.newarray .int, 2) := by decide +kernel
theorem dX5_init_73 : decode cX5_init 73 = .ok (.putfield 34, 3) := by decide +kernel
theorem dX5_init_76 : decode cX5_init 76 = .ok (.aload_n 0, 1) := by decide +kernel
theorem dX5_init_77 : decode cX5_init 77 = .ok (.bipush 17, 2) := by decide +kernel
theorem dX5_init_79 : decode cX5_init 79 = .ok (.newarray .long, 2) := by decide +kernel
theorem dX5_init_81 : decode cX5_init 81 = .ok (.putfield 37, 3) := by decide +kernel
theorem dX5_init_84 : decode cX5_init 84 = .ok (.aload_n 0, 1) := by decide +kernel
theorem dX5_init_85 : decode cX5_init 85 = .ok (.iconst 4, 1) := by decide +kernel
theorem dX5_init_86 : decode cX5_init 86 = .ok (.newarray .int, 2) := by decide +kernel
theorem dX5_init_88 : decode cX5_init 88 = .ok (.putfield 41, 3) := by decide +kernel
theorem dX5_init_91 : decode cX5_init 91 = .ok (.aload_n 0, 1) := by decide +kernel
theorem dX5_init_92 : decode cX5_init 92 = .ok (.iconst 4, 1) := by decide +kernel
theorem dX5_init_93 : decode cX5_init 93 = .ok (.newarray .int, 2) := by decide +kernel
theorem dX5_init_95 : decode cX5_init 95 = .ok (.putfield 44, 3) := by decide +kernel
theorem dX5_init_98 : decode cX5_init 98 = .ok (.aload_n 0, 1) := by decide +kernel
theorem dX5_init_99 : decode cX5_init 99 = .ok (.sipush 240, 3) := by decide +kernel
theorem dX5_init_102 : decode cX5_init 102 = .ok (.newarray .int, 2) := by decide +kernel
theorem dX5_init_104 : decode cX5_init 104 = .ok (.putfield 47, 3) := by decide +kernel
theorem dX5_init_107 : decode cX5_init 107 = .ok (.aload_n 0, 1) := by decide +kernel
theorem dX5_init_108 : decode cX5_init 108 = .ok (.bipush 60, 2) := by decide +kernel
theorem dX5_init_110 : decode cX5_init 110 = .ok (.newarray .int, 2) := by decide +kernel
theorem dX5_init_112 : decode cX5_init 112 = .ok (.putfield 50, 3) := by decide +kernel
theorem dX5_init_115 : decode cX5_init 115 = .ok (.iconst 0, 1) := by decide +kernel
theorem dX5_init_116 : decode cX5_init 116 = .ok (.istore_n 1, 1) := by decide +kernel
theorem dX5_init_117 : decode cX5_init 117 = .ok (.iload_n 1, 1) := by decide +kernel
theorem dX5_init_118 : decode cX5_init 118 = .ok (.iconst 4, 1) := by decide +kernel
theorem dX5_init_119 : decode cX5_init 119 = .ok (.if_icmp .ge 16, 3) := by decide +kernel
theorem dX5_init_122 : decode cX5_init 122 = .ok (.aload_n 0, 1) := by decide +kernel
theorem dX5_init_123 : decode cX5_init 123 = .ok (.getfield 41, 3) := by decide +kernel
theorem dX5_init_126 : decode cX5_init 126 = .ok (.iload_n 1, 1) := by decide +kernel
theorem dX5_init_127 : decode cX5_init 127 = .ok (.iconst (-1), 1) := by decide +kernel
theorem dX5_init_128 : decode cX5_init 128 = .ok (.iastore, 1) := by decide +kernel
theorem dX5_init_129 : decode cX5_init 129 = .ok (.iinc 1 1, 3) := by decide +kernel
theorem dX5_init_132 : decode cX5_init 132 = .ok (.goto (-15), 3) := by decide +kernel
theorem dX5_init_135 : decode cX5_init 135 = .ok (.return_, 1) := by decide +kernel
theorem dX5_in_0 : decode cX5_in 0 = .ok (.lload_n 0, 1) := by decide +kernel
theorem dX5_in_1 : decode cX5_in 1 = .ok (.lload_n 2, 1) := by decide +kernel
theorem dX5_in_2 : decode cX5_in 2 = .ok (.lcmp, 1) := by decide +kernel
theorem dX5_in_3 : decode cX5_in 3 = .ok (.ifCond .lt 14, 3) := by decide +kernel
theorem dX5_in_6 : decode cX5_in 6 = .ok (.lload_n 0, 1) := by decide +kernel
theorem dX5_in_7 : decode cX5_in 7 = .ok (.lload 4, 2) := by decide +kernel
theorem dX5_in_9 : decode cX5_in 9 = .ok (.lcmp, 1) := by decide +kernel
theorem dX5_in_10 : decode cX5_in 10 = .ok (.ifCond .gt 7, 3) := by decide +kernel
theorem dX5_in_13 : decode cX5_in 13 = .ok (.iconst 1, 1) := by decide +kernel
theorem dX5_in_14 : decode cX5_in 14 = .ok (.goto 4, 3) := by decide +kernel
theorem dX5_in_17 : decode cX5_in 17 = .ok (.iconst 0, 1) := by decide +kernel
theorem dX5_in_18 : decode cX5_in 18 = .ok (.ireturn, 1) := by decide +kernel
theorem dX5_lost_0 : decode cX5_lost 0 = .ok (.ldc2_w 53, 3) := by decide +kernel
theorem dX5_lost_3 : decode cX5_lost 3 = .ok (.lreturn, 1) := by decide +kernel
theorem dX5_isIn_0 : decode cX5_isIn 0 = .ok (.iload_n 0, 1) := by decide +kernel
theorem dX5_isIn_1 : decode cX5_isIn 1 = .ok (.iload_n 1, 1) := by decide +kernel
theorem dX5_isIn_2 : decode cX5_isIn 2 = .ok (.ishr, 1) := by decide +kernel
theorem dX5_isIn_3 : decode cX5_isIn 3 = .ok (.iconst 1, 1) := by decide +kernel
theorem dX5_isIn_4 : decode cX5_isIn 4 = .ok (.iand, 1) := by decide +kernel
theorem dX5_isIn_5 : decode cX5_isIn 5 = .ok (.iconst 1, 1) := by decide +kernel
theorem dX5_isIn_6 : decode cX5_isIn 6 = .ok (.if_icmp .ne 7, 3) := by decide +kernel
theorem dX5_isIn_9 : decode cX5_isIn 9 = .ok (.iconst 1, 1) := by decide +kernel
theorem dX5_isIn_10 : decode cX5_isIn 10 = .ok (.goto 4, 3) := by decide +kernel
theorem dX5_isIn_13 : decode cX5_isIn 13 = .ok (.iconst 0, 1) := by decide +kernel
theorem dX5_isIn_14 : decode cX5_isIn 14 = .ok (.ireturn, 1) := by decide +kernel
theorem dX5_bits_0 : decode cX5_bits 0 = .ok (.iconst 0, 1) := by decide +kernel
theorem dX5_bits_1 : decode cX5_bits 1 = .ok (.istore_n 1, 1) := by decide +kernel
theorem dX5_bits_2 : decode cX5_bits 2 = .ok (.iload_n 0, 1) := by decide +kernel
theorem dX5_bits_3 : decode cX5_bits 3 = .ok (.istore_n 2, 1) := by decide +kernel
theorem dX5_bits_4 : decode cX5_bits 4 = .ok (.iload_n 2, 1) := by decide +kernel
theorem dX5_bits_5 : decode cX5_bits 5 = .ok (.ifCond .le 16, 3) := by decide +kernel
theorem dX5_bits_8 : decode cX5_bits 8 = .ok (.iload_n 1, 1) := by decide +kernel
theorem dX5_bits_9 : decode cX5_bits 9 = .ok (.iload_n 2, 1) := by decide +kernel
theorem dX5_bits_10 : decode cX5_bits 10 = .ok (.iconst 1, 1) := by decide +kernel
theorem dX5_bits_11 : decode cX5_bits 11 = .ok (.iand, 1) := by decide +kernel
theorem dX5_bits_12 : decode cX5_bits 12 = .ok (.iadd, 1) := by decide +kernel
theorem dX5_bits_13 : decode cX5_bits 13 = .ok (.istore_n 1, 1) := by decide +kernel
theorem dX5_bits_14 : decode cX5_bits 14 = .ok (.iload_n 2, 1) := by decide +kernel
theorem dX5_bits_15 : decode cX5_bits 15 = .ok (.iconst 1, 1) := by decide +kernel
theorem dX5_bits_16 : decode cX5_bits 16 = .ok (.ishr, 1) := by decide +kernel
theorem dX5_bits_17 : decode cX5_bits 17 = .ok (.istore_n 2, 1) := by decide +kernel
theorem dX5_bits_18 : decode cX5_bits 18 = .ok (.goto (-14), 3) := by decide +kernel
theorem dX5_bits_21 : decode cX5_bits 21 = .ok (.iload_n 1, 1) := by decide +kernel
theorem dX5_bits_22 : decode cX5_bits 22 = .ok (.ireturn, 1) := by decide +kernel
theorem dX5_share_0 : decode cX5_share 0 = .ok (.lload_n 0, 1) := by decide +kernel
theorem dX5_share_1 : decode cX5_share 1 = .ok (.lstore 5, 2) := by decide +kernel
theorem dX5_share_3 : decode cX5_share 3 = .ok (.lload_n 2, 1) := by decide +kernel
theorem dX5_share_4 : decode cX5_share 4 = .ok (.lstore 7, 2) := by decide +kernel
theorem dX5_share_6 : decode cX5_share 6 = .ok (.lload 7, 2) := by decide +kernel
theorem dX5_share_8 : decode cX5_share 8 = .ok (.lconst 0, 1) := by decide +kernel
theorem dX5_share_9 : decode cX5_share 9 = .ok (.lcmp, 1) := by decide +kernel
theorem dX5_share_10 : decode cX5_share 10 = .ok (.ifCond .eq 21, 3) := by decide +kernel
theorem dX5_share_13 : decode cX5_share 13 = .ok (.lload 5, 2) := by decide +kernel
theorem dX5_share_15 : decode cX5_share 15 = .ok (.lload 7, 2) := by decide +kernel
theorem dX5_share_17 : decode cX5_share 17 = .ok (.lrem, 1) := by decide +kernel
theorem dX5_share_18 : decode cX5_share 18 = .ok (.lstore 9, 2) := by decide +kernel
theorem dX5_share_20 : decode cX5_share 20 = .ok (.lload 7, 2) := by decide +kernel
theorem dX5_share_22 : decode cX5_share 22 = .ok (.lstore 5, 2) := by decide +kernel
theorem dX5_share_24 : decode cX5_share 24 = .ok (.lload 9, 2) := by decide +kernel
theorem dX5_share_26 : decode cX5_share 26 = .ok (.lstore 7, 2) := by decide +kernel
theorem dX5_share_28 : decode cX5_share 28 = .ok (.goto (-22), 3) := by decide +kernel
theorem dX5_share_31 : decode cX5_share 31 = .ok (.iload 4, 2) := by decide +kernel
theorem dX5_share_33 : decode cX5_share 33 = .ok (.ifCond .ne 7, 3) := by decide +kernel
theorem dX5_share_36 : decode cX5_share 36 = .ok (.lload_n 0, 1) := by decide +kernel
theorem dX5_share_37 : decode cX5_share 37 = .ok (.goto 4, 3) := by decide +kernel
theorem dX5_share_40 : decode cX5_share 40 = .ok (.lload_n 2, 1) := by decide +kernel
theorem dX5_share_41 : decode cX5_share 41 = .ok (.lload 5, 2) := by decide +kernel
theorem dX5_share_43 : decode cX5_share 43 = .ok (.ldiv, 1) := by decide +kernel
theorem dX5_share_44 : decode cX5_share 44 = .ok (.lreturn, 1) := by decide +kernel
theorem dX5_refused_0 : decode cX5_refused 0 = .ok (.aload_n 0, 1) := by decide +kernel
theorem dX5_refused_1 : decode cX5_refused 1 = .ok (.iconst 0, 1) := by decide +kernel
theorem dX5_refused_2 : decode cX5_refused 2 = .ok (.putfield 55, 3) := by decide +kernel
theorem dX5_refused_5 : decode cX5_refused 5 = .ok (.iload_n 1, 1) := by decide +kernel
theorem dX5_refused_6 : decode cX5_refused 6 = .ok (.ireturn, 1) := by decide +kernel
theorem dX5_failed_0 : decode cX5_failed 0 = .ok (.aload_n 0, 1) := by decide +kernel
theorem dX5_failed_1 : decode cX5_failed 1 = .ok (.iload_n 1, 1) := by decide +kernel
theorem dX5_failed_2 : decode cX5_failed 2 = .ok (.putfield 55, 3) := by decide +kernel
theorem dX5_failed_5 : decode cX5_failed 5 = .ok (.bipush (-10), 2) := by decide +kernel
theorem dX5_failed_7 : decode cX5_failed 7 = .ok (.iload_n 1, 1) := by decide +kernel
theorem dX5_failed_8 : decode cX5_failed 8 = .ok (.isub, 1) := by decide +kernel
theorem dX5_failed_9 : decode cX5_failed 9 = .ok (.ireturn, 1) := by decide +kernel
set_option maxRecDepth 20000 in
theorem ggX5_failedLong_X5_lost : GoodIn wsX5_failedLong wsX5_lost := goodIn_r _ [5, 6] (by decide +kernel) (by decide +kernel)
set_option maxRecDepth 20000 in
theorem gX5_failedLong_X5_lost : GoodIn wsX5_failedLong (va_wsS RX5 59 yX5_lost wsX5_lost) := goodIn_app (goodIn_of _ (by decide +kernel)) ggX5_failedLong_X5_lost
theorem dX5_failedLong_0 : decode cX5_failedLong 0 = .ok (.aload_n 0, 1) := by decide +kernel
theorem dX5_failedLong_1 : decode cX5_failedLong 1 = .ok (.iload_n 1, 1) := by decide +kernel
theorem dX5_failedLong_2 : decode cX5_failedLong 2 = .ok (.putfield 55, 3) := by decide +kernel
theorem dX5_failedLong_5 : decode cX5_failedLong 5 = .ok (.invokestatic 59, 3) := by decide +kernel
theorem dX5_failedLong_8 : decode cX5_failedLong 8 = .ok (.lreturn, 1) := by decide +kernel
theorem dX5_cells_0 : decode cX5_cells 0 = .ok (.aload_n 0, 1) := by decide +kernel
theorem dX5_cells_1 : decode cX5_cells 1 = .ok (.getfield 63, 3) := by decide +kernel
theorem dX5_cells_4 : decode cX5_cells 4 = .ok (.aload_n 0, 1) := by decide +kernel
theorem dX5_cells_5 : decode cX5_cells 5 = .ok (.getfield 66, 3) := by decide +kernel
theorem dX5_cells_8 : decode cX5_cells 8 = .ok (.imul, 1) := by decide +kernel
theorem dX5_cells_9 : decode cX5_cells 9 = .ok (.ireturn, 1) := by decide +kernel
set_option maxRecDepth 20000 in
theorem ggX5_noPlace_X5_cells : GoodIn wsX5_noPlace wsX5_cells := goodIn_r _ [5, 6, 7, 11, 12, 13, 14, 15, 16, 17, 18, 19, 20, 21, 22, 23, 24, 25, 26, 27, 28, 29, 30, 31, 32, 33, 34, 35, 36, 37, 38, 39, 40] (by decide +kernel) (by decide +kernel)
set_option maxRecDepth 20000 in
theorem gX5_noPlace_X5_cells : GoodIn wsX5_noPlace (wsV RX5 69 RX5 yX5_cells wsX5_cells) := goodIn_app (goodIn_of _ (by decide +kernel)) ggX5_noPlace_X5_cells
set_option maxRecDepth 20000 in
theorem ggX5_noPlace_X5_in : GoodIn wsX5_noPlace wsX5_in := goodIn_r _ [10] (by decide +kernel) (by decide +kernel)
set_option maxRecDepth 20000 in
theorem gX5_noPlace_X5_in : GoodIn wsX5_noPlace (va_wsS RX5 73 yX5_in wsX5_in) := goodIn_app (goodIn_of _ (by decide +kernel)) ggX5_noPlace_X5_in
theorem dX5_noPlace_0 : decode cX5_noPlace 0 = .ok (.iload_n 1, 1) := by decide +kernel
theorem dX5_noPlace_1 : decode cX5_noPlace 1 = .ok (.i2l, 1) := by decide +kernel
theorem dX5_noPlace_2 : decode cX5_noPlace 2 = .ok (.lconst 0, 1) := by decide +kernel
theorem dX5_noPlace_3 : decode cX5_noPlace 3 = .ok (.aload_n 0, 1) := by decide +kernel
theorem dX5_noPlace_4 : decode cX5_noPlace 4 = .ok (.invokevirtual 69, 3) := by decide +kernel
theorem dX5_noPlace_7 : decode cX5_noPlace 7 = .ok (.i2l, 1) := by decide +kernel
theorem dX5_noPlace_8 : decode cX5_noPlace 8 = .ok (.lconst 1, 1) := by decide +kernel
theorem dX5_noPlace_9 : decode cX5_noPlace 9 = .ok (.lsub, 1) := by decide +kernel
theorem dX5_noPlace_10 : decode cX5_noPlace 10 = .ok (.invokestatic 73, 3) := by decide +kernel
theorem dX5_noPlace_13 : decode cX5_noPlace 13 = .ok (.ifCond .ne 7, 3) := by decide +kernel
theorem dX5_noPlace_16 : decode cX5_noPlace 16 = .ok (.iconst 1, 1) := by decide +kernel
theorem dX5_noPlace_17 : decode cX5_noPlace 17 = .ok (.goto 4, 3) := by decide +kernel
theorem dX5_noPlace_20 : decode cX5_noPlace 20 = .ok (.iconst 0, 1) := by decide +kernel
theorem dX5_noPlace_21 : decode cX5_noPlace 21 = .ok (.ireturn, 1) := by decide +kernel
set_option maxRecDepth 20000 in
theorem ggX5_noGrass_X5_noPlace : GoodIn wsX5_noGrass wsX5_noPlace := goodIn_r _ [6, 7, 8, 9, 5, 10, 11, 12, 13, 14, 15, 16, 17, 18, 19, 20, 21, 22, 23, 24, 25, 26, 27, 28, 29, 30, 31, 32, 33, 34, 35, 36, 37, 38, 39, 40, 41, 42, 43, 44, 45] (by decide +kernel) (by decide +kernel)
set_option maxRecDepth 20000 in
theorem gX5_noGrass_X5_noPlace : GoodIn wsX5_noGrass (wsV RX5 77 RX5 yX5_noPlace wsX5_noPlace) := goodIn_app (goodIn_of _ (by decide +kernel)) ggX5_noGrass_X5_noPlace
theorem dX5_noGrass_0 : decode cX5_noGrass 0 = .ok (.aload_n 0, 1) := by decide +kernel
theorem dX5_noGrass_1 : decode cX5_noGrass 1 = .ok (.iload_n 1, 1) := by decide +kernel
theorem dX5_noGrass_2 : decode cX5_noGrass 2 = .ok (.invokevirtual 77, 3) := by decide +kernel
theorem dX5_noGrass_5 : decode cX5_noGrass 5 = .ok (.ifCond .ne 13, 3) := by decide +kernel
theorem dX5_noGrass_8 : decode cX5_noGrass 8 = .ok (.aload_n 0, 1) := by decide +kernel
theorem dX5_noGrass_9 : decode cX5_noGrass 9 = .ok (.getfield 7, 3) := by decide +kernel
theorem dX5_noGrass_12 : decode cX5_noGrass 12 = .ok (.iload_n 1, 1) := by decide +kernel
theorem dX5_noGrass_13 : decode cX5_noGrass 13 = .ok (.iaload, 1) := by decide +kernel
theorem dX5_noGrass_14 : decode cX5_noGrass 14 = .ok (.iconst 3, 1) := by decide +kernel
theorem dX5_noGrass_15 : decode cX5_noGrass 15 = .ok (.if_icmp .ne 7, 3) := by decide +kernel
theorem dX5_noGrass_18 : decode cX5_noGrass 18 = .ok (.iconst 1, 1) := by decide +kernel
theorem dX5_noGrass_19 : decode cX5_noGrass 19 = .ok (.goto 4, 3) := by decide +kernel
theorem dX5_noGrass_22 : decode cX5_noGrass 22 = .ok (.iconst 0, 1) := by decide +kernel
theorem dX5_noGrass_23 : decode cX5_noGrass 23 = .ok (.ireturn, 1) := by decide +kernel
theorem dX5_codeAt_0 : decode cX5_codeAt 0 = .ok (.aload_n 0, 1) := by decide +kernel
theorem dX5_codeAt_1 : decode cX5_codeAt 1 = .ok (.getfield 81, 3) := by decide +kernel
theorem dX5_codeAt_4 : decode cX5_codeAt 4 = .ok (.iload_n 2, 1) := by decide +kernel
theorem dX5_codeAt_5 : decode cX5_codeAt 5 = .ok (.if_icmp .ge 17, 3) := by decide +kernel
theorem dX5_codeAt_8 : decode cX5_codeAt 8 = .ok (.aload_n 0, 1) := by decide +kernel
theorem dX5_codeAt_9 : decode cX5_codeAt 9 = .ok (.getfield 47, 3) := by decide +kernel
theorem dX5_codeAt_12 : decode cX5_codeAt 12 = .ok (.iload_n 1, 1) := by decide +kernel
theorem dX5_codeAt_13 : decode cX5_codeAt 13 = .ok (.aload_n 0, 1) := by decide +kernel
theorem dX5_codeAt_14 : decode cX5_codeAt 14 = .ok (.getfield 81, 3) := by decide +kernel
theorem dX5_codeAt_17 : decode cX5_codeAt 17 = .ok (.iadd, 1) := by decide +kernel
theorem dX5_codeAt_18 : decode cX5_codeAt 18 = .ok (.iaload, 1) := by decide +kernel
theorem dX5_codeAt_19 : decode cX5_codeAt 19 = .ok (.goto 5, 3) := by decide +kernel
theorem dX5_codeAt_22 : decode cX5_codeAt 22 = .ok (.bipush (-9), 2) := by decide +kernel
theorem dX5_codeAt_24 : decode cX5_codeAt 24 = .ok (.ireturn, 1) := by decide +kernel
set_option maxRecDepth 20000 in
theorem ggX5_figure_X5_codeAt : GoodIn wsX5_figure wsX5_codeAt := goodIn_r _ [6, 1, 7, 11, 12, 13, 14, 15, 16, 17, 18, 19, 20, 21, 22, 23, 24, 25, 26, 27, 28, 29, 30, 31, 32, 33, 34, 35, 36, 37, 38, 39, 40] (by decide +kernel) (by decide +kernel)
set_option maxRecDepth 20000 in
theorem gX5_figure_X5_codeAt : GoodIn wsX5_figure (wsV RX5 84 RX5 yX5_codeAt wsX5_codeAt) := goodIn_app (goodIn_of _ (by decide +kernel)) ggX5_figure_X5_codeAt
set_option maxRecDepth 20000 in
theorem ggX5_figure_X5_in : GoodIn wsX5_figure wsX5_in := goodIn_r _ [10] (by decide +kernel) (by decide +kernel)
set_option maxRecDepth 20000 in
theorem gX5_figure_X5_in : GoodIn wsX5_figure (va_wsS RX5 73 yX5_in wsX5_in) := goodIn_app (goodIn_of _ (by decide +kernel)) ggX5_figure_X5_in
theorem dX5_figure_0 : decode cX5_figure 0 = .ok (.aload_n 0, 1) := by decide +kernel
theorem dX5_figure_1 : decode cX5_figure 1 = .ok (.iload_n 1, 1) := by decide +kernel
theorem dX5_figure_2 : decode cX5_figure 2 = .ok (.iload_n 2, 1) := by decide +kernel
theorem dX5_figure_3 : decode cX5_figure 3 = .ok (.invokevirtual 84, 3) := by decide +kernel
theorem dX5_figure_6 : decode cX5_figure 6 = .ok (.bipush 48, 2) := by decide +kernel
theorem dX5_figure_8 : decode cX5_figure 8 = .ok (.isub, 1) := by decide +kernel
theorem dX5_figure_9 : decode cX5_figure 9 = .ok (.istore 5, 2) := by decide +kernel
theorem dX5_figure_11 : decode cX5_figure 11 = .ok (.iload 5, 2) := by decide +kernel
theorem dX5_figure_13 : decode cX5_figure 13 = .ok (.i2l, 1) := by decide +kernel
theorem dX5_figure_14 : decode cX5_figure 14 = .ok (.iload_n 3, 1) := by decide +kernel
theorem dX5_figure_15 : decode cX5_figure 15 = .ok (.i2l, 1) := by decide +kernel
theorem dX5_figure_16 : decode cX5_figure 16 = .ok (.iload 4, 2) := by decide +kernel
theorem dX5_figure_18 : decode cX5_figure 18 = .ok (.i2l, 1) := by decide +kernel
theorem dX5_figure_19 : decode cX5_figure 19 = .ok (.invokestatic 73, 3) := by decide +kernel
theorem dX5_figure_22 : decode cX5_figure 22 = .ok (.istore 6, 2) := by decide +kernel
theorem dX5_figure_24 : decode cX5_figure 24 = .ok (.aload_n 0, 1) := by decide +kernel
theorem dX5_figure_25 : decode cX5_figure 25 = .ok (.dup, 1) := by decide +kernel
theorem dX5_figure_26 : decode cX5_figure 26 = .ok (.getfield 81, 3) := by decide +kernel
theorem dX5_figure_29 : decode cX5_figure 29 = .ok (.iload 6, 2) := by decide +kernel
theorem dX5_figure_31 : decode cX5_figure 31 = .ok (.ifCond .eq 7, 3) := by decide +kernel
theorem dX5_figure_34 : decode cX5_figure 34 = .ok (.iconst 1, 1) := by decide +kernel
theorem dX5_figure_35 : decode cX5_figure 35 = .ok (.goto 4, 3) := by decide +kernel
theorem dX5_figure_38 : decode cX5_figure 38 = .ok (.iconst 0, 1) := by decide +kernel
theorem dX5_figure_39 : decode cX5_figure 39 = .ok (.iadd, 1) := by decide +kernel
theorem dX5_figure_40 : decode cX5_figure 40 = .ok (.putfield 81, 3) := by decide +kernel
theorem dX5_figure_43 : decode cX5_figure 43 = .ok (.iload 6, 2) := by decide +kernel
theorem dX5_figure_45 : decode cX5_figure 45 = .ok (.ifCond .eq 8, 3) := by decide +kernel
theorem dX5_figure_48 : decode cX5_figure 48 = .ok (.iload 5, 2) := by decide +kernel
theorem dX5_figure_50 : decode cX5_figure 50 = .ok (.goto 5, 3) := by decide +kernel
theorem dX5_figure_53 : decode cX5_figure 53 = .ok (.bipush (-9), 2) := by decide +kernel
theorem dX5_figure_55 : decode cX5_figure 55 = .ok (.ireturn, 1) := by decide +kernel
set_option maxRecDepth 20000 in
theorem ggX5_readsPlace_X5_codeAt : GoodIn wsX5_readsPlace wsX5_codeAt := goodIn_r _ [8, 2, 9, 10, 11, 12, 13, 14, 15, 16, 17, 18, 19, 20, 21, 22, 23, 24, 25, 26, 27, 28, 29, 30, 31, 32, 33, 34, 35, 36, 37, 38, 39] (by decide +kernel) (by decide +kernel)
set_option maxRecDepth 20000 in
theorem gX5_readsPlace_X5_codeAt : GoodIn wsX5_readsPlace (wsV RX5 84 RX5 yX5_codeAt wsX5_codeAt) := goodIn_app (goodIn_of _ (by decide +kernel)) ggX5_readsPlace_X5_codeAt
theorem dX5_readsPlace_0 : decode cX5_readsPlace 0 = .ok (.iload_n 3, 1) := by decide +kernel
theorem dX5_readsPlace_1 : decode cX5_readsPlace 1 = .ok (.aload_n 0, 1) := by decide +kernel
theorem dX5_readsPlace_2 : decode cX5_readsPlace 2 = .ok (.getfield 88, 3) := by decide +kernel
theorem dX5_readsPlace_5 : decode cX5_readsPlace 5 = .ok (.irem, 1) := by decide +kernel
theorem dX5_readsPlace_6 : decode cX5_readsPlace 6 = .ok (.ifCond .ne 26, 3) := by decide +kernel
theorem dX5_readsPlace_9 : decode cX5_readsPlace 9 = .ok (.aload_n 0, 1) := by decide +kernel
theorem dX5_readsPlace_10 : decode cX5_readsPlace 10 = .ok (.iload_n 1, 1) := by decide +kernel
theorem dX5_readsPlace_11 : decode cX5_readsPlace 11 = .ok (.iload_n 2, 1) := by decide +kernel
theorem dX5_readsPlace_12 : decode cX5_readsPlace 12 = .ok (.invokevirtual 84, 3) := by decide +kernel
theorem dX5_readsPlace_15 : decode cX5_readsPlace 15 = .ok (.bipush 59, 2) := by decide +kernel
theorem dX5_readsPlace_17 : decode cX5_readsPlace 17 = .ok (.if_icmp .eq 5, 3) := by decide +kernel
theorem dX5_readsPlace_20 : decode cX5_readsPlace 20 = .ok (.iconst 0, 1) := by decide +kernel
theorem dX5_readsPlace_21 : decode cX5_readsPlace 21 = .ok (.ireturn, 1) := by decide +kernel
theorem dX5_readsPlace_22 : decode cX5_readsPlace 22 = .ok (.aload_n 0, 1) := by decide +kernel
theorem dX5_readsPlace_23 : decode cX5_readsPlace 23 = .ok (.dup, 1) := by decide +kernel
theorem dX5_readsPlace_24 : decode cX5_readsPlace 24 = .ok (.getfield 81, 3) := by decide +kernel
theorem dX5_readsPlace_27 : decode cX5_readsPlace 27 = .ok (.iconst 1, 1) := by decide +kernel
theorem dX5_readsPlace_28 : decode cX5_readsPlace 28 = .ok (.iadd, 1) := by decide +kernel
theorem dX5_readsPlace_29 : decode cX5_readsPlace 29 = .ok (.putfield 81, 3) := by decide +kernel
theorem dX5_readsPlace_32 : decode cX5_readsPlace 32 = .ok (.aload_n 0, 1) := by decide +kernel
theorem dX5_readsPlace_33 : decode cX5_readsPlace 33 = .ok (.iload_n 1, 1) := by decide +kernel
theorem dX5_readsPlace_34 : decode cX5_readsPlace 34 = .ok (.iload_n 2, 1) := by decide +kernel
theorem dX5_readsPlace_35 : decode cX5_readsPlace 35 = .ok (.invokevirtual 84, 3) := by decide +kernel
theorem dX5_readsPlace_38 : decode cX5_readsPlace 38 = .ok (.istore 4, 2) := by decide +kernel
theorem dX5_readsPlace_40 : decode cX5_readsPlace 40 = .ok (.iload 4, 2) := by decide +kernel
theorem dX5_readsPlace_42 : decode cX5_readsPlace 42 = .ok (.bipush 103, 2) := by decide +kernel
theorem dX5_readsPlace_44 : decode cX5_readsPlace 44 = .ok (.if_icmp .eq 26, 3) := by decide +kernel
theorem dX5_readsPlace_47 : decode cX5_readsPlace 47 = .ok (.iload 4, 2) := by decide +kernel
theorem dX5_readsPlace_49 : decode cX5_readsPlace 49 = .ok (.bipush 115, 2) := by decide +kernel
theorem dX5_readsPlace_51 : decode cX5_readsPlace 51 = .ok (.if_icmp .eq 19, 3) := by decide +kernel
theorem dX5_readsPlace_54 : decode cX5_readsPlace 54 = .ok (.iload 4, 2) := by decide +kernel
theorem dX5_readsPlace_56 : decode cX5_readsPlace 56 = .ok (.bipush 111, 2) := by decide +kernel
theorem dX5_readsPlace_58 : decode cX5_readsPlace 58 = .ok (.if_icmp .eq 12, 3) := by decide +kernel
theorem dX5_readsPlace_61 : decode cX5_readsPlace 61 = .ok (.iload 4, 2) := by decide +kernel
theorem dX5_readsPlace_63 : decode cX5_readsPlace 63 = .ok (.bipush 35, 2) := by decide +kernel
theorem dX5_readsPlace_65 : decode cX5_readsPlace 65 = .ok (.if_icmp .eq 5, 3) := by decide +kernel
theorem dX5_readsPlace_68 : decode cX5_readsPlace 68 = .ok (.iconst 0, 1) := by decide +kernel
theorem dX5_readsPlace_69 : decode cX5_readsPlace 69 = .ok (.ireturn, 1) := by decide +kernel
theorem dX5_readsPlace_70 : decode cX5_readsPlace 70 = .ok (.aload_n 0, 1) := by decide +kernel
theorem dX5_readsPlace_71 : decode cX5_readsPlace 71 = .ok (.dup, 1) := by decide +kernel
theorem dX5_readsPlace_72 : decode cX5_readsPlace 72 = .ok (.getfield 81, 3) := by decide +kernel
theorem dX5_readsPlace_75 : decode cX5_readsPlace 75 = .ok (.iconst 1, 1) := by decide +kernel
theorem dX5_readsPlace_76 : decode cX5_readsPlace 76 = .ok (.iadd, 1) := by decide +kernel
theorem dX5_readsPlace_77 : decode cX5_readsPlace 77 = .ok (.putfield 81, 3) := by decide +kernel
theorem dX5_readsPlace_80 : decode cX5_readsPlace 80 = .ok (.aload_n 0, 1) := by decide +kernel
theorem dX5_readsPlace_81 : decode cX5_readsPlace 81 = .ok (.getfield 16, 3) := by decide +kernel
theorem dX5_readsPlace_84 : decode cX5_readsPlace 84 = .ok (.iload_n 3, 1) := by decide +kernel
theorem dX5_readsPlace_85 : decode cX5_readsPlace 85 = .ok (.iload 4, 2) := by decide +kernel
theorem dX5_readsPlace_87 : decode cX5_readsPlace 87 = .ok (.bipush 103, 2) := by decide +kernel
theorem dX5_readsPlace_89 : decode cX5_readsPlace 89 = .ok (.if_icmp .ne 7, 3) := by decide +kernel
theorem dX5_readsPlace_92 : decode cX5_readsPlace 92 = .ok (.iconst 0, 1) := by decide +kernel
theorem dX5_readsPlace_93 : decode cX5_readsPlace 93 = .ok (.goto 26, 3) := by decide +kernel
theorem dX5_readsPlace_96 : decode cX5_readsPlace 96 = .ok (.iload 4, 2) := by decide +kernel
theorem dX5_readsPlace_98 : decode cX5_readsPlace 98 = .ok (.bipush 115, 2) := by decide +kernel
theorem dX5_readsPlace_100 : decode cX5_readsPlace 100 = .ok (.if_icmp .ne 7, 3) := by decide +kernel
theorem dX5_readsPlace_103 : decode cX5_readsPlace 103 = .ok (.iconst 1, 1) := by decide +kernel
theorem dX5_readsPlace_104 : decode cX5_readsPlace 104 = .ok (.goto 15, 3) := by decide +kernel
theorem dX5_readsPlace_107 : decode cX5_readsPlace 107 = .ok (.iload 4, 2) := by decide +kernel
theorem dX5_readsPlace_109 : decode cX5_readsPlace 109 = .ok (.bipush 111, 2) := by decide +kernel
theorem dX5_readsPlace_111 : decode cX5_readsPlace 111 = .ok (.if_icmp .ne 7, 3) := by decide +kernel
theorem dX5_readsPlace_114 : decode cX5_readsPlace 114 = .ok (.iconst 2, 1) := by decide +kernel
theorem dX5_readsPlace_115 : decode cX5_readsPlace 115 = .ok (.goto 4, 3) := by decide +kernel
theorem dX5_readsPlace_118 : decode cX5_readsPlace 118 = .ok (.iconst 3, 1) := by decide +kernel
theorem dX5_readsPlace_119 : decode cX5_readsPlace 119 = .ok (.iastore, 1) := by decide +kernel
theorem dX5_readsPlace_120 : decode cX5_readsPlace 120 = .ok (.iconst 1, 1) := by decide +kernel
theorem dX5_readsPlace_121 : decode cX5_readsPlace 121 = .ok (.ireturn, 1) := by decide +kernel
set_option maxRecDepth 20000 in
theorem ggX5_readsHill_X5_codeAt : GoodIn wsX5_readsHill wsX5_codeAt := goodIn_r _ [10, 1, 11, 24, 25, 26, 27, 28, 29, 30, 31, 32, 33, 34, 35, 36, 37, 38, 39, 40, 41, 42, 43, 44, 45, 46, 47, 48, 49, 50, 51, 52, 53] (by decide +kernel) (by decide +kernel)
set_option maxRecDepth 20000 in
theorem gX5_readsHill_X5_codeAt : GoodIn wsX5_readsHill (wsV RX5 84 RX5 yX5_codeAt wsX5_codeAt) := goodIn_app (goodIn_of _ (by decide +kernel)) ggX5_readsHill_X5_codeAt
set_option maxRecDepth 20000 in
theorem ggX5_readsHill_X5_figure : GoodIn wsX5_readsHill wsX5_figure := goodIn_r _ [15, 1, 6, 7, 8, 9, 10, 11, 16, 17, 18, 24, 25, 26, 27, 28, 29, 30, 31, 32, 33, 34, 35, 36, 37, 38, 39, 40, 41, 42, 43, 44, 45, 46, 47, 48, 49, 50, 51, 52, 53] (by decide +kernel) (by decide +kernel)
set_option maxRecDepth 20000 in
theorem gX5_readsHill_X5_figure : GoodIn wsX5_readsHill (wsV RX5 91 RX5 yX5_figure wsX5_figure) := goodIn_app (goodIn_of _ (by decide +kernel)) ggX5_readsHill_X5_figure
set_option maxRecDepth 20000 in
theorem ggX5_readsHill_X5_readsPlace : GoodIn wsX5_readsHill wsX5_readsPlace := goodIn_r _ [22, 3, 1, 23, 6, 7, 8, 9, 10, 11, 24, 25, 26, 27, 28, 29, 30, 31, 32, 33, 34, 35, 36, 37, 38, 39, 40, 41, 42, 43, 44, 45, 46, 47, 48, 49, 50, 51, 52, 53] (by decide +kernel) (by decide +kernel)
set_option maxRecDepth 20000 in
theorem gX5_readsHill_X5_readsPlace : GoodIn wsX5_readsHill (wsV RX5 104 RX5 yX5_readsPlace wsX5_readsPlace) := goodIn_app (goodIn_of _ (by decide +kernel)) ggX5_readsHill_X5_readsPlace
theorem dX5_readsHill_0 : decode cX5_readsHill 0 = .ok (.aload_n 0, 1) := by decide +kernel
theorem dX5_readsHill_1 : decode cX5_readsHill 1 = .ok (.iconst 0, 1) := by decide +kernel
theorem dX5_readsHill_2 : decode cX5_readsHill 2 = .ok (.putfield 81, 3) := by decide +kernel
theorem dX5_readsHill_5 : decode cX5_readsHill 5 = .ok (.aload_n 0, 1) := by decide +kernel
theorem dX5_readsHill_6 : decode cX5_readsHill 6 = .ok (.iload_n 1, 1) := by decide +kernel
theorem dX5_readsHill_7 : decode cX5_readsHill 7 = .ok (.iload_n 2, 1) := by decide +kernel
theorem dX5_readsHill_8 : decode cX5_readsHill 8 = .ok (.invokevirtual 84, 3) := by decide +kernel
theorem dX5_readsHill_11 : decode cX5_readsHill 11 = .ok (.bipush 104, 2) := by decide +kernel
theorem dX5_readsHill_13 : decode cX5_readsHill 13 = .ok (.if_icmp .ne 7, 3) := by decide +kernel
theorem dX5_readsHill_16 : decode cX5_readsHill 16 = .ok (.iconst 1, 1) := by decide +kernel
theorem dX5_readsHill_17 : decode cX5_readsHill 17 = .ok (.goto 4, 3) := by decide +kernel
theorem dX5_readsHill_20 : decode cX5_readsHill 20 = .ok (.iconst 0, 1) := by decide +kernel
theorem dX5_readsHill_21 : decode cX5_readsHill 21 = .ok (.istore_n 3, 1) := by decide +kernel
theorem dX5_readsHill_22 : decode cX5_readsHill 22 = .ok (.aload_n 0, 1) := by decide +kernel
theorem dX5_readsHill_23 : decode cX5_readsHill 23 = .ok (.dup, 1) := by decide +kernel
theorem dX5_readsHill_24 : decode cX5_readsHill 24 = .ok (.getfield 81, 3) := by decide +kernel
theorem dX5_readsHill_27 : decode cX5_readsHill 27 = .ok (.iload_n 3, 1) := by decide +kernel
theorem dX5_readsHill_28 : decode cX5_readsHill 28 = .ok (.ifCond .eq 7, 3) := by decide +kernel
theorem dX5_readsHill_31 : decode cX5_readsHill 31 = .ok (.iconst 1, 1) := by decide +kernel
theorem dX5_readsHill_32 : decode cX5_readsHill 32 = .ok (.goto 4, 3) := by decide +kernel
theorem dX5_readsHill_35 : decode cX5_readsHill 35 = .ok (.iconst 0, 1) := by decide +kernel
theorem dX5_readsHill_36 : decode cX5_readsHill 36 = .ok (.iadd, 1) := by decide +kernel
theorem dX5_readsHill_37 : decode cX5_readsHill 37 = .ok (.putfield 81, 3) := by decide +kernel
theorem dX5_readsHill_40 : decode cX5_readsHill 40 = .ok (.aload_n 0, 1) := by decide +kernel
theorem dX5_readsHill_41 : decode cX5_readsHill 41 = .ok (.iload_n 3, 1) := by decide +kernel
theorem dX5_readsHill_42 : decode cX5_readsHill 42 = .ok (.ifCond .eq 14, 3) := by decide +kernel
theorem dX5_readsHill_45 : decode cX5_readsHill 45 = .ok (.aload_n 0, 1) := by decide +kernel
theorem dX5_readsHill_46 : decode cX5_readsHill 46 = .ok (.iload_n 1, 1) := by decide +kernel
theorem dX5_readsHill_47 : decode cX5_readsHill 47 = .ok (.iload_n 2, 1) := by decide +kernel
theorem dX5_readsHill_48 : decode cX5_readsHill 48 = .ok (.iconst 1, 1) := by decide +kernel
theorem dX5_readsHill_49 : decode cX5_readsHill 49 = .ok (.iconst 4, 1) := by decide +kernel
theorem dX5_readsHill_50 : decode cX5_readsHill 50 = .ok (.invokevirtual 91, 3) := by decide +kernel
theorem dX5_readsHill_53 : decode cX5_readsHill 53 = .ok (.goto 5, 3) := by decide +kernel
theorem dX5_readsHill_56 : decode cX5_readsHill 56 = .ok (.bipush (-9), 2) := by decide +kernel
theorem dX5_readsHill_58 : decode cX5_readsHill 58 = .ok (.putfield 95, 3) := by decide +kernel
theorem dX5_readsHill_61 : decode cX5_readsHill 61 = .ok (.aload_n 0, 1) := by decide +kernel
theorem dX5_readsHill_62 : decode cX5_readsHill 62 = .ok (.aload_n 0, 1) := by decide +kernel
theorem dX5_readsHill_63 : decode cX5_readsHill 63 = .ok (.getfield 95, 3) := by decide +kernel
theorem dX5_readsHill_66 : decode cX5_readsHill 66 = .ok (.ifCond .le 14, 3) := by decide +kernel
theorem dX5_readsHill_69 : decode cX5_readsHill 69 = .ok (.aload_n 0, 1) := by decide +kernel
theorem dX5_readsHill_70 : decode cX5_readsHill 70 = .ok (.iload_n 1, 1) := by decide +kernel
theorem dX5_readsHill_71 : decode cX5_readsHill 71 = .ok (.iload_n 2, 1) := by decide +kernel
theorem dX5_readsHill_72 : decode cX5_readsHill 72 = .ok (.iconst 2, 1) := by decide +kernel
theorem dX5_readsHill_73 : decode cX5_readsHill 73 = .ok (.iconst 4, 1) := by decide +kernel
theorem dX5_readsHill_74 : decode cX5_readsHill 74 = .ok (.invokevirtual 91, 3) := by decide +kernel
theorem dX5_readsHill_77 : decode cX5_readsHill 77 = .ok (.goto 5, 3) := by decide +kernel
theorem dX5_readsHill_80 : decode cX5_readsHill 80 = .ok (.bipush (-9), 2) := by decide +kernel
theorem dX5_readsHill_82 : decode cX5_readsHill 82 = .ok (.putfield 88, 3) := by decide +kernel
theorem dX5_readsHill_85 : decode cX5_readsHill 85 = .ok (.aload_n 0, 1) := by decide +kernel
theorem dX5_readsHill_86 : decode cX5_readsHill 86 = .ok (.aload_n 0, 1) := by decide +kernel
theorem dX5_readsHill_87 : decode cX5_readsHill 87 = .ok (.getfield 88, 3) := by decide +kernel
theorem dX5_readsHill_90 : decode cX5_readsHill 90 = .ok (.ifCond .le 14, 3) := by decide +kernel
theorem dX5_readsHill_93 : decode cX5_readsHill 93 = .ok (.aload_n 0, 1) := by decide +kernel
theorem dX5_readsHill_94 : decode cX5_readsHill 94 = .ok (.iload_n 1, 1) := by decide +kernel
theorem dX5_readsHill_95 : decode cX5_readsHill 95 = .ok (.iload_n 2, 1) := by decide +kernel
theorem dX5_readsHill_96 : decode cX5_readsHill 96 = .ok (.iconst 1, 1) := by decide +kernel
theorem dX5_readsHill_97 : decode cX5_readsHill 97 = .ok (.iconst 3, 1) := by decide +kernel
theorem dX5_readsHill_98 : decode cX5_readsHill 98 = .ok (.invokevirtual 91, 3) := by decide +kernel
theorem dX5_readsHill_101 : decode cX5_readsHill 101 = .ok (.goto 5, 3) := by decide +kernel
theorem dX5_readsHill_104 : decode cX5_readsHill 104 = .ok (.bipush (-9), 2) := by decide +kernel
theorem dX5_readsHill_106 : decode cX5_readsHill 106 = .ok (.putfield 98, 3) := by decide +kernel
theorem dX5_readsHill_109 : decode cX5_readsHill 109 = .ok (.aload_n 0, 1) := by decide +kernel
theorem dX5_readsHill_110 : decode cX5_readsHill 110 = .ok (.aload_n 0, 1) := by decide +kernel
theorem dX5_readsHill_111 : decode cX5_readsHill 111 = .ok (.getfield 98, 3) := by decide +kernel
theorem dX5_readsHill_114 : decode cX5_readsHill 114 = .ok (.ifCond .le 15, 3) := by decide +kernel
theorem dX5_readsHill_117 : decode cX5_readsHill 117 = .ok (.aload_n 0, 1) := by decide +kernel
theorem dX5_readsHill_118 : decode cX5_readsHill 118 = .ok (.iload_n 1, 1) := by decide +kernel
theorem dX5_readsHill_119 : decode cX5_readsHill 119 = .ok (.iload_n 2, 1) := by decide +kernel
theorem dX5_readsHill_120 : decode cX5_readsHill 120 = .ok (.iconst 1, 1) := by decide +kernel
theorem dX5_readsHill_121 : decode cX5_readsHill 121 = .ok (.bipush 9, 2) := by decide +kernel
theorem dX5_readsHill_123 : decode cX5_readsHill 123 = .ok (.invokevirtual 91, 3) := by decide +kernel
theorem dX5_readsHill_126 : decode cX5_readsHill 126 = .ok (.goto 5, 3) := by decide +kernel
theorem dX5_readsHill_129 : decode cX5_readsHill 129 = .ok (.bipush (-9), 2) := by decide +kernel
theorem dX5_readsHill_131 : decode cX5_readsHill 131 = .ok (.putfield 101, 3) := by decide +kernel
theorem dX5_readsHill_134 : decode cX5_readsHill 134 = .ok (.aload_n 0, 1) := by decide +kernel
theorem dX5_readsHill_135 : decode cX5_readsHill 135 = .ok (.getfield 101, 3) := by decide +kernel
theorem dX5_readsHill_138 : decode cX5_readsHill 138 = .ok (.ifCond .le 7, 3) := by decide +kernel
theorem dX5_readsHill_141 : decode cX5_readsHill 141 = .ok (.iconst 1, 1) := by decide +kernel
theorem dX5_readsHill_142 : decode cX5_readsHill 142 = .ok (.goto 4, 3) := by decide +kernel
theorem dX5_readsHill_145 : decode cX5_readsHill 145 = .ok (.iconst 0, 1) := by decide +kernel
theorem dX5_readsHill_146 : decode cX5_readsHill 146 = .ok (.istore_n 3, 1) := by decide +kernel
theorem dX5_readsHill_147 : decode cX5_readsHill 147 = .ok (.iconst 0, 1) := by decide +kernel
theorem dX5_readsHill_148 : decode cX5_readsHill 148 = .ok (.istore 4, 2) := by decide +kernel
theorem dX5_readsHill_150 : decode cX5_readsHill 150 = .ok (.iload_n 3, 1) := by decide +kernel
theorem dX5_readsHill_151 : decode cX5_readsHill 151 = .ok (.ifCond .eq 32, 3) := by decide +kernel
theorem dX5_readsHill_154 : decode cX5_readsHill 154 = .ok (.iload 4, 2) := by decide +kernel
theorem dX5_readsHill_156 : decode cX5_readsHill 156 = .ok (.aload_n 0, 1) := by decide +kernel
theorem dX5_readsHill_157 : decode cX5_readsHill 157 = .ok (.getfield 95, 3) := by decide +kernel
theorem dX5_readsHill_160 : decode cX5_readsHill 160 = .ok (.aload_n 0, 1) := by decide +kernel
theorem dX5_readsHill_161 : decode cX5_readsHill 161 = .ok (.getfield 88, 3) := by decide +kernel
theorem dX5_readsHill_164 : decode cX5_readsHill 164 = .ok (.imul, 1) := by decide +kernel
theorem dX5_readsHill_165 : decode cX5_readsHill 165 = .ok (.if_icmp .ge 18, 3) := by decide +kernel
theorem dX5_readsHill_168 : decode cX5_readsHill 168 = .ok (.aload_n 0, 1) := by decide +kernel
theorem dX5_readsHill_169 : decode cX5_readsHill 169 = .ok (.iload_n 1, 1) := by decide +kernel
theorem dX5_readsHill_170 : decode cX5_readsHill 170 = .ok (.iload_n 2, 1) := by decide +kernel
theorem dX5_readsHill_171 : decode cX5_readsHill 171 = .ok (.iload 4, 2) := by decide +kernel
theorem dX5_readsHill_173 : decode cX5_readsHill 173 = .ok (.invokevirtual 104, 3) := by decide +kernel
theorem dX5_readsHill_176 : decode cX5_readsHill 176 = .ok (.istore_n 3, 1) := by decide +kernel
theorem dX5_readsHill_177 : decode cX5_readsHill 177 = .ok (.iinc 4 1, 3) := by decide +kernel
theorem dX5_readsHill_180 : decode cX5_readsHill 180 = .ok (.goto (-30), 3) := by decide +kernel
theorem dX5_readsHill_183 : decode cX5_readsHill 183 = .ok (.iload_n 3, 1) := by decide +kernel
theorem dX5_readsHill_184 : decode cX5_readsHill 184 = .ok (.ifCond .eq 15, 3) := by decide +kernel
theorem dX5_readsHill_187 : decode cX5_readsHill 187 = .ok (.aload_n 0, 1) := by decide +kernel
theorem dX5_readsHill_188 : decode cX5_readsHill 188 = .ok (.getfield 81, 3) := by decide +kernel
theorem dX5_readsHill_191 : decode cX5_readsHill 191 = .ok (.iload_n 2, 1) := by decide +kernel
theorem dX5_readsHill_192 : decode cX5_readsHill 192 = .ok (.if_icmp .ne 7, 3) := by decide +kernel
theorem dX5_readsHill_195 : decode cX5_readsHill 195 = .ok (.iconst 1, 1) := by decide +kernel
theorem dX5_readsHill_196 : decode cX5_readsHill 196 = .ok (.goto 4, 3) := by decide +kernel
theorem dX5_readsHill_199 : decode cX5_readsHill 199 = .ok (.iconst 0, 1) := by decide +kernel
theorem dX5_readsHill_200 : decode cX5_readsHill 200 = .ok (.ireturn, 1) := by decide +kernel
set_option maxRecDepth 20000 in
theorem ggX5_cellsBarred_X5_failed : GoodIn wsX5_cellsBarred wsX5_failed := goodIn_r _ [7, 8, 12, 13, 14, 15, 16, 17, 18, 19, 20, 21, 22, 23, 24, 25, 26, 27, 28, 29, 30, 31, 32, 33, 34, 35, 36, 37, 38, 39, 40, 41] (by decide +kernel) (by decide +kernel)
set_option maxRecDepth 20000 in
theorem gX5_cellsBarred_X5_failed : GoodIn wsX5_cellsBarred (wsV RX5 108 RX5 yX5_failed wsX5_failed) := goodIn_app (goodIn_of _ (by decide +kernel)) ggX5_cellsBarred_X5_failed
set_option maxRecDepth 20000 in
theorem ggX5_cellsBarred_X5_isBeyond : GoodIn wsX5_cellsBarred wsX5_isBeyond := goodIn_r _ [11] (by decide +kernel) (by decide +kernel)
set_option maxRecDepth 20000 in
theorem gX5_cellsBarred_X5_isBeyond : GoodIn wsX5_cellsBarred (va_wsS RX5 112 yX5_isBeyond wsX5_isBeyond) := goodIn_app (goodIn_of _ (by decide +kernel)) ggX5_cellsBarred_X5_isBeyond
theorem dX5_cellsBarred_0 : decode cX5_cellsBarred 0 = .ok (.aload_n 0, 1) := by decide +kernel
theorem dX5_cellsBarred_1 : decode cX5_cellsBarred 1 = .ok (.getfield 41, 3) := by decide +kernel
theorem dX5_cellsBarred_4 : decode cX5_cellsBarred 4 = .ok (.iload_n 1, 1) := by decide +kernel
theorem dX5_cellsBarred_5 : decode cX5_cellsBarred 5 = .ok (.iaload, 1) := by decide +kernel
theorem dX5_cellsBarred_6 : decode cX5_cellsBarred 6 = .ok (.ifCond .lt 19, 3) := by decide +kernel
theorem dX5_cellsBarred_9 : decode cX5_cellsBarred 9 = .ok (.aload_n 0, 1) := by decide +kernel
theorem dX5_cellsBarred_10 : decode cX5_cellsBarred 10 = .ok (.getfield 44, 3) := by decide +kernel
theorem dX5_cellsBarred_13 : decode cX5_cellsBarred 13 = .ok (.iload_n 1, 1) := by decide +kernel
theorem dX5_cellsBarred_14 : decode cX5_cellsBarred 14 = .ok (.iaload, 1) := by decide +kernel
theorem dX5_cellsBarred_15 : decode cX5_cellsBarred 15 = .ok (.iload_n 2, 1) := by decide +kernel
theorem dX5_cellsBarred_16 : decode cX5_cellsBarred 16 = .ok (.if_icmp .eq 9, 3) := by decide +kernel
theorem dX5_cellsBarred_19 : decode cX5_cellsBarred 19 = .ok (.aload_n 0, 1) := by decide +kernel
theorem dX5_cellsBarred_20 : decode cX5_cellsBarred 20 = .ok (.iconst 2, 1) := by decide +kernel
theorem dX5_cellsBarred_21 : decode cX5_cellsBarred 21 = .ok (.invokevirtual 108, 3) := by decide +kernel
theorem dX5_cellsBarred_24 : decode cX5_cellsBarred 24 = .ok (.ireturn, 1) := by decide +kernel
theorem dX5_cellsBarred_25 : decode cX5_cellsBarred 25 = .ok (.aload_n 0, 1) := by decide +kernel
theorem dX5_cellsBarred_26 : decode cX5_cellsBarred 26 = .ok (.getfield 41, 3) := by decide +kernel
theorem dX5_cellsBarred_29 : decode cX5_cellsBarred 29 = .ok (.iload_n 1, 1) := by decide +kernel
theorem dX5_cellsBarred_30 : decode cX5_cellsBarred 30 = .ok (.iaload, 1) := by decide +kernel
theorem dX5_cellsBarred_31 : decode cX5_cellsBarred 31 = .ok (.ifCond .ge 9, 3) := by decide +kernel
theorem dX5_cellsBarred_34 : decode cX5_cellsBarred 34 = .ok (.aload_n 0, 1) := by decide +kernel
theorem dX5_cellsBarred_35 : decode cX5_cellsBarred 35 = .ok (.iconst 1, 1) := by decide +kernel
theorem dX5_cellsBarred_36 : decode cX5_cellsBarred 36 = .ok (.invokevirtual 108, 3) := by decide +kernel
theorem dX5_cellsBarred_39 : decode cX5_cellsBarred 39 = .ok (.ireturn, 1) := by decide +kernel
theorem dX5_cellsBarred_40 : decode cX5_cellsBarred 40 = .ok (.lload 4, 2) := by decide +kernel
theorem dX5_cellsBarred_42 : decode cX5_cellsBarred 42 = .ok (.lconst 0, 1) := by decide +kernel
theorem dX5_cellsBarred_43 : decode cX5_cellsBarred 43 = .ok (.lcmp, 1) := by decide +kernel
theorem dX5_cellsBarred_44 : decode cX5_cellsBarred 44 = .ok (.ifCond .ge 9, 3) := by decide +kernel
theorem dX5_cellsBarred_47 : decode cX5_cellsBarred 47 = .ok (.aload_n 0, 1) := by decide +kernel
theorem dX5_cellsBarred_48 : decode cX5_cellsBarred 48 = .ok (.iconst 4, 1) := by decide +kernel
theorem dX5_cellsBarred_49 : decode cX5_cellsBarred 49 = .ok (.invokevirtual 108, 3) := by decide +kernel
theorem dX5_cellsBarred_52 : decode cX5_cellsBarred 52 = .ok (.ireturn, 1) := by decide +kernel
theorem dX5_cellsBarred_53 : decode cX5_cellsBarred 53 = .ok (.iload_n 3, 1) := by decide +kernel
theorem dX5_cellsBarred_54 : decode cX5_cellsBarred 54 = .ok (.lload 4, 2) := by decide +kernel
theorem dX5_cellsBarred_56 : decode cX5_cellsBarred 56 = .ok (.aload_n 0, 1) := by decide +kernel
theorem dX5_cellsBarred_57 : decode cX5_cellsBarred 57 = .ok (.getfield 41, 3) := by decide +kernel
theorem dX5_cellsBarred_60 : decode cX5_cellsBarred 60 = .ok (.iload_n 1, 1) := by decide +kernel
theorem dX5_cellsBarred_61 : decode cX5_cellsBarred 61 = .ok (.iaload, 1) := by decide +kernel
theorem dX5_cellsBarred_62 : decode cX5_cellsBarred 62 = .ok (.invokestatic 112, 3) := by decide +kernel
theorem dX5_cellsBarred_65 : decode cX5_cellsBarred 65 = .ok (.ifCond .eq 11, 3) := by decide +kernel
theorem dX5_cellsBarred_68 : decode cX5_cellsBarred 68 = .ok (.aload_n 0, 1) := by decide +kernel
theorem dX5_cellsBarred_69 : decode cX5_cellsBarred 69 = .ok (.iconst 3, 1) := by decide +kernel
theorem dX5_cellsBarred_70 : decode cX5_cellsBarred 70 = .ok (.invokevirtual 108, 3) := by decide +kernel
theorem dX5_cellsBarred_73 : decode cX5_cellsBarred 73 = .ok (.goto 4, 3) := by decide +kernel
theorem dX5_cellsBarred_76 : decode cX5_cellsBarred 76 = .ok (.iconst 0, 1) := by decide +kernel
theorem dX5_cellsBarred_77 : decode cX5_cellsBarred 77 = .ok (.ireturn, 1) := by decide +kernel
set_option maxRecDepth 20000 in
theorem ggX5_hill_X5_noSheet : GoodIn wsX5_hill wsX5_noSheet := goodIn_r _ [18, 19, 20, 21, 17, 22] (by decide +kernel) (by decide +kernel)
set_option maxRecDepth 20000 in
theorem gX5_hill_X5_noSheet : GoodIn wsX5_hill (va_wsS RX5 116 yX5_noSheet wsX5_noSheet) := goodIn_app (goodIn_of _ (by decide +kernel)) ggX5_hill_X5_noSheet
set_option maxRecDepth 20000 in
theorem ggX5_hill_X5_refused : GoodIn wsX5_hill wsX5_refused := goodIn_r _ [26, 27, 66, 67, 68, 69, 70, 71, 72, 73, 74, 75, 76, 77, 78, 79, 80, 81, 82, 83, 84, 85, 86, 87, 88, 89, 90, 91, 92, 93, 94, 95] (by decide +kernel) (by decide +kernel)
set_option maxRecDepth 20000 in
theorem gX5_hill_X5_refused : GoodIn wsX5_hill (wsV RX5 119 RX5 yX5_refused wsX5_refused) := goodIn_app (goodIn_of _ (by decide +kernel)) ggX5_hill_X5_refused
set_option maxRecDepth 20000 in
theorem ggX5_hill_X5_in : GoodIn wsX5_hill wsX5_in := goodIn_r _ [22] (by decide +kernel) (by decide +kernel)
set_option maxRecDepth 20000 in
theorem gX5_hill_X5_in : GoodIn wsX5_hill (va_wsS RX5 73 yX5_in wsX5_in) := goodIn_app (goodIn_of _ (by decide +kernel)) ggX5_hill_X5_in
set_option maxRecDepth 20000 in
theorem ggX5_hill_X5_cellsBarred : GoodIn wsX5_hill wsX5_cellsBarred := goodIn_r _ [31, 32, 33, 34, 35, 36, 17, 37, 27, 38, 39, 40, 66, 67, 68, 69, 70, 71, 72, 73, 74, 75, 76, 77, 78, 79, 80, 81, 82, 83, 84, 85, 86, 87, 88, 89, 90, 91, 92, 93, 94, 95] (by decide +kernel) (by decide +kernel)
set_option maxRecDepth 20000 in
theorem gX5_hill_X5_cellsBarred : GoodIn wsX5_hill (wsV RX5 124 RX5 yX5_cellsBarred wsX5_cellsBarred) := goodIn_app (goodIn_of _ (by decide +kernel)) ggX5_hill_X5_cellsBarred
set_option maxRecDepth 20000 in
theorem ggX5_hill_X5_readsHill : GoodIn wsX5_hill wsX5_readsHill := goodIn_r _ [44, 2, 3, 5, 7, 9, 45, 46, 47, 17, 48, 49, 50, 51, 52, 53, 20, 21, 22, 54, 55, 56, 57, 12, 66, 67, 68, 69, 70, 71, 72, 73, 74, 75, 76, 77, 78, 79, 80, 81, 82, 83, 84, 85, 86, 87, 88, 89, 90, 91, 92, 93, 94, 95] (by decide +kernel) (by decide +kernel)
set_option maxRecDepth 20000 in
theorem gX5_hill_X5_readsHill : GoodIn wsX5_hill (wsV RX5 128 RX5 yX5_readsHill wsX5_readsHill) := goodIn_app (goodIn_of _ (by decide +kernel)) ggX5_hill_X5_readsHill
set_option maxRecDepth 20000 in
theorem ggX5_hill_X5_cells : GoodIn wsX5_hill wsX5_cells := goodIn_r _ [61, 4, 6, 66, 67, 68, 69, 70, 71, 72, 73, 74, 75, 76, 77, 78, 79, 80, 81, 82, 83, 84, 85, 86, 87, 88, 89, 90, 91, 92, 93, 94, 95] (by decide +kernel) (by decide +kernel)
set_option maxRecDepth 20000 in
theorem gX5_hill_X5_cells : GoodIn wsX5_hill (wsV RX5 69 RX5 yX5_cells wsX5_cells) := goodIn_app (goodIn_of _ (by decide +kernel)) ggX5_hill_X5_cells
set_option maxRecDepth 20000 in
theorem ggX5_hill_X5_thornsNow : GoodIn wsX5_hill wsX5_thornsNow := goodIn_r _ [65, 11, 58, 59, 60, 17, 61, 4, 6, 66, 67, 68, 69, 70, 71, 72, 73, 74, 75, 76, 77, 78, 79, 80, 81, 82, 83, 84, 85, 86, 87, 88, 89, 90, 91, 92, 93, 94, 95] (by decide +kernel) (by decide +kernel)
set_option maxRecDepth 20000 in
theorem gX5_hill_X5_thornsNow : GoodIn wsX5_hill (wsV RX5 141 RX5 yX5_thornsNow wsX5_thornsNow) := goodIn_app (goodIn_of _ (by decide +kernel)) ggX5_hill_X5_thornsNow
theorem dX5_hill_0 : decode cX5_hill 0 = .ok (.iload_n 1, 1) := by decide +kernel
theorem dX5_hill_1 : decode cX5_hill 1 = .ok (.invokestatic 116, 3) := by decide +kernel
theorem dX5_hill_4 : decode cX5_hill 4 = .ok (.ifCond .eq 9, 3) := by decide +kernel
theorem dX5_hill_7 : decode cX5_hill 7 = .ok (.aload_n 0, 1) := by decide +kernel
theorem dX5_hill_8 : decode cX5_hill 8 = .ok (.iconst (-1), 1) := by decide +kernel
theorem dX5_hill_9 : decode cX5_hill 9 = .ok (.invokevirtual 119, 3) := by decide +kernel
theorem dX5_hill_12 : decode cX5_hill 12 = .ok (.ireturn, 1) := by decide +kernel
theorem dX5_hill_13 : decode cX5_hill 13 = .ok (.iload_n 2, 1) := by decide +kernel
theorem dX5_hill_14 : decode cX5_hill 14 = .ok (.i2l, 1) := by decide +kernel
theorem dX5_hill_15 : decode cX5_hill 15 = .ok (.lconst 0, 1) := by decide +kernel
theorem dX5_hill_16 : decode cX5_hill 16 = .ok (.ldc2_w 122, 3) := by decide +kernel
theorem dX5_hill_19 : decode cX5_hill 19 = .ok (.invokestatic 73, 3) := by decide +kernel
theorem dX5_hill_22 : decode cX5_hill 22 = .ok (.ifCond .ne 10, 3) := by decide +kernel
theorem dX5_hill_25 : decode cX5_hill 25 = .ok (.aload_n 0, 1) := by decide +kernel
theorem dX5_hill_26 : decode cX5_hill 26 = .ok (.bipush (-2), 2) := by decide +kernel
theorem dX5_hill_28 : decode cX5_hill 28 = .ok (.invokevirtual 119, 3) := by decide +kernel
theorem dX5_hill_31 : decode cX5_hill 31 = .ok (.ireturn, 1) := by decide +kernel
theorem dX5_hill_32 : decode cX5_hill 32 = .ok (.aload_n 0, 1) := by decide +kernel
theorem dX5_hill_33 : decode cX5_hill 33 = .ok (.iload_n 1, 1) := by decide +kernel
theorem dX5_hill_34 : decode cX5_hill 34 = .ok (.iload_n 2, 1) := by decide +kernel
theorem dX5_hill_35 : decode cX5_hill 35 = .ok (.iload_n 3, 1) := by decide +kernel
theorem dX5_hill_36 : decode cX5_hill 36 = .ok (.iload 4, 2) := by decide +kernel
theorem dX5_hill_38 : decode cX5_hill 38 = .ok (.i2l, 1) := by decide +kernel
theorem dX5_hill_39 : decode cX5_hill 39 = .ok (.invokevirtual 124, 3) := by decide +kernel
theorem dX5_hill_42 : decode cX5_hill 42 = .ok (.istore 5, 2) := by decide +kernel
theorem dX5_hill_44 : decode cX5_hill 44 = .ok (.iload 5, 2) := by decide +kernel
theorem dX5_hill_46 : decode cX5_hill 46 = .ok (.ifCond .ge 6, 3) := by decide +kernel
theorem dX5_hill_49 : decode cX5_hill 49 = .ok (.iload 5, 2) := by decide +kernel
theorem dX5_hill_51 : decode cX5_hill 51 = .ok (.ireturn, 1) := by decide +kernel
theorem dX5_hill_52 : decode cX5_hill 52 = .ok (.aload_n 0, 1) := by decide +kernel
theorem dX5_hill_53 : decode cX5_hill 53 = .ok (.bipush 60, 2) := by decide +kernel
theorem dX5_hill_55 : decode cX5_hill 55 = .ok (.iload_n 1, 1) := by decide +kernel
theorem dX5_hill_56 : decode cX5_hill 56 = .ok (.imul, 1) := by decide +kernel
theorem dX5_hill_57 : decode cX5_hill 57 = .ok (.iload_n 3, 1) := by decide +kernel
theorem dX5_hill_58 : decode cX5_hill 58 = .ok (.iadd, 1) := by decide +kernel
theorem dX5_hill_59 : decode cX5_hill 59 = .ok (.iload 4, 2) := by decide +kernel
theorem dX5_hill_61 : decode cX5_hill 61 = .ok (.invokevirtual 128, 3) := by decide +kernel
theorem dX5_hill_64 : decode cX5_hill 64 = .ok (.ifCond .ne 15, 3) := by decide +kernel
theorem dX5_hill_67 : decode cX5_hill 67 = .ok (.aload_n 0, 1) := by decide +kernel
theorem dX5_hill_68 : decode cX5_hill 68 = .ok (.bipush (-100), 2) := by decide +kernel
theorem dX5_hill_70 : decode cX5_hill 70 = .ok (.aload_n 0, 1) := by decide +kernel
theorem dX5_hill_71 : decode cX5_hill 71 = .ok (.getfield 81, 3) := by decide +kernel
theorem dX5_hill_74 : decode cX5_hill 74 = .ok (.isub, 1) := by decide +kernel
theorem dX5_hill_75 : decode cX5_hill 75 = .ok (.invokevirtual 119, 3) := by decide +kernel
theorem dX5_hill_78 : decode cX5_hill 78 = .ok (.ireturn, 1) := by decide +kernel
theorem dX5_hill_79 : decode cX5_hill 79 = .ok (.aload_n 0, 1) := by decide +kernel
theorem dX5_hill_80 : decode cX5_hill 80 = .ok (.aload_n 0, 1) := by decide +kernel
theorem dX5_hill_81 : decode cX5_hill 81 = .ok (.getfield 95, 3) := by decide +kernel
theorem dX5_hill_84 : decode cX5_hill 84 = .ok (.putfield 63, 3) := by decide +kernel
theorem dX5_hill_87 : decode cX5_hill 87 = .ok (.aload_n 0, 1) := by decide +kernel
theorem dX5_hill_88 : decode cX5_hill 88 = .ok (.aload_n 0, 1) := by decide +kernel
theorem dX5_hill_89 : decode cX5_hill 89 = .ok (.getfield 88, 3) := by decide +kernel
theorem dX5_hill_92 : decode cX5_hill 92 = .ok (.putfield 66, 3) := by decide +kernel
theorem dX5_hill_95 : decode cX5_hill 95 = .ok (.aload_n 0, 1) := by decide +kernel
theorem dX5_hill_96 : decode cX5_hill 96 = .ok (.aload_n 0, 1) := by decide +kernel
theorem dX5_hill_97 : decode cX5_hill 97 = .ok (.getfield 98, 3) := by decide +kernel
theorem dX5_hill_100 : decode cX5_hill 100 = .ok (.putfield 132, 3) := by decide +kernel
theorem dX5_hill_103 : decode cX5_hill 103 = .ok (.aload_n 0, 1) := by decide +kernel
theorem dX5_hill_104 : decode cX5_hill 104 = .ok (.aload_n 0, 1) := by decide +kernel
theorem dX5_hill_105 : decode cX5_hill 105 = .ok (.getfield 101, 3) := by decide +kernel
theorem dX5_hill_108 : decode cX5_hill 108 = .ok (.putfield 135, 3) := by decide +kernel
theorem dX5_hill_111 : decode cX5_hill 111 = .ok (.iconst 0, 1) := by decide +kernel
theorem dX5_hill_112 : decode cX5_hill 112 = .ok (.istore 6, 2) := by decide +kernel
theorem dX5_hill_114 : decode cX5_hill 114 = .ok (.iload 6, 2) := by decide +kernel
theorem dX5_hill_116 : decode cX5_hill 116 = .ok (.aload_n 0, 1) := by decide +kernel
theorem dX5_hill_117 : decode cX5_hill 117 = .ok (.invokevirtual 69, 3) := by decide +kernel
theorem dX5_hill_120 : decode cX5_hill 120 = .ok (.if_icmp .ge 31, 3) := by decide +kernel
theorem dX5_hill_123 : decode cX5_hill 123 = .ok (.aload_n 0, 1) := by decide +kernel
theorem dX5_hill_124 : decode cX5_hill 124 = .ok (.getfield 7, 3) := by decide +kernel
theorem dX5_hill_127 : decode cX5_hill 127 = .ok (.iload 6, 2) := by decide +kernel
theorem dX5_hill_129 : decode cX5_hill 129 = .ok (.aload_n 0, 1) := by decide +kernel
theorem dX5_hill_130 : decode cX5_hill 130 = .ok (.getfield 16, 3) := by decide +kernel
theorem dX5_hill_133 : decode cX5_hill 133 = .ok (.iload 6, 2) := by decide +kernel
theorem dX5_hill_135 : decode cX5_hill 135 = .ok (.iaload, 1) := by decide +kernel
theorem dX5_hill_136 : decode cX5_hill 136 = .ok (.iastore, 1) := by decide +kernel
theorem dX5_hill_137 : decode cX5_hill 137 = .ok (.aload_n 0, 1) := by decide +kernel
theorem dX5_hill_138 : decode cX5_hill 138 = .ok (.getfield 13, 3) := by decide +kernel
theorem dX5_hill_141 : decode cX5_hill 141 = .ok (.iload 6, 2) := by decide +kernel
theorem dX5_hill_143 : decode cX5_hill 143 = .ok (.iconst 0, 1) := by decide +kernel
theorem dX5_hill_144 : decode cX5_hill 144 = .ok (.iastore, 1) := by decide +kernel
theorem dX5_hill_145 : decode cX5_hill 145 = .ok (.iinc 6 1, 3) := by decide +kernel
theorem dX5_hill_148 : decode cX5_hill 148 = .ok (.goto (-34), 3) := by decide +kernel
theorem dX5_hill_151 : decode cX5_hill 151 = .ok (.aload_n 0, 1) := by decide +kernel
theorem dX5_hill_152 : decode cX5_hill 152 = .ok (.iconst 0, 1) := by decide +kernel
theorem dX5_hill_153 : decode cX5_hill 153 = .ok (.putfield 138, 3) := by decide +kernel
theorem dX5_hill_156 : decode cX5_hill 156 = .ok (.aload_n 0, 1) := by decide +kernel
theorem dX5_hill_157 : decode cX5_hill 157 = .ok (.aload_n 0, 1) := by decide +kernel
theorem dX5_hill_158 : decode cX5_hill 158 = .ok (.invokevirtual 69, 3) := by decide +kernel
theorem dX5_hill_161 : decode cX5_hill 161 = .ok (.aload_n 0, 1) := by decide +kernel
theorem dX5_hill_162 : decode cX5_hill 162 = .ok (.invokevirtual 141, 3) := by decide +kernel
theorem dX5_hill_165 : decode cX5_hill 165 = .ok (.isub, 1) := by decide +kernel
theorem dX5_hill_166 : decode cX5_hill 166 = .ok (.invokevirtual 119, 3) := by decide +kernel
theorem dX5_hill_169 : decode cX5_hill 169 = .ok (.ireturn, 1) := by decide +kernel
set_option maxRecDepth 20000 in
theorem ggX5_thornsNow_X5_cells : GoodIn wsX5_thornsNow wsX5_cells := goodIn_r _ [6, 7, 8, 9, 10, 11, 12, 13, 14, 15, 16, 17, 18, 19, 20, 21, 22, 23, 24, 25, 26, 27, 28, 29, 30, 31, 32, 33, 34, 35, 36, 37, 38] (by decide +kernel) (by decide +kernel)
set_option maxRecDepth 20000 in
theorem gX5_thornsNow_X5_cells : GoodIn wsX5_thornsNow (wsV RX5 69 RX5 yX5_cells wsX5_cells) := goodIn_app (goodIn_of _ (by decide +kernel)) ggX5_thornsNow_X5_cells
theorem dX5_thornsNow_0 : decode cX5_thornsNow 0 = .ok (.iconst 0, 1) := by decide +kernel
theorem dX5_thornsNow_1 : decode cX5_thornsNow 1 = .ok (.istore_n 1, 1) := by decide +kernel
theorem dX5_thornsNow_2 : decode cX5_thornsNow 2 = .ok (.iconst 0, 1) := by decide +kernel
theorem dX5_thornsNow_3 : decode cX5_thornsNow 3 = .ok (.istore_n 2, 1) := by decide +kernel
theorem dX5_thornsNow_4 : decode cX5_thornsNow 4 = .ok (.iload_n 2, 1) := by decide +kernel
theorem dX5_thornsNow_5 : decode cX5_thornsNow 5 = .ok (.aload_n 0, 1) := by decide +kernel
theorem dX5_thornsNow_6 : decode cX5_thornsNow 6 = .ok (.invokevirtual 69, 3) := by decide +kernel
theorem dX5_thornsNow_9 : decode cX5_thornsNow 9 = .ok (.if_icmp .ge 27, 3) := by decide +kernel
theorem dX5_thornsNow_12 : decode cX5_thornsNow 12 = .ok (.iload_n 1, 1) := by decide +kernel
theorem dX5_thornsNow_13 : decode cX5_thornsNow 13 = .ok (.aload_n 0, 1) := by decide +kernel
theorem dX5_thornsNow_14 : decode cX5_thornsNow 14 = .ok (.getfield 7, 3) := by decide +kernel
theorem dX5_thornsNow_17 : decode cX5_thornsNow 17 = .ok (.iload_n 2, 1) := by decide +kernel
theorem dX5_thornsNow_18 : decode cX5_thornsNow 18 = .ok (.iaload, 1) := by decide +kernel
theorem dX5_thornsNow_19 : decode cX5_thornsNow 19 = .ok (.iconst 3, 1) := by decide +kernel
theorem dX5_thornsNow_20 : decode cX5_thornsNow 20 = .ok (.if_icmp .ne 7, 3) := by decide +kernel
theorem dX5_thornsNow_23 : decode cX5_thornsNow 23 = .ok (.iconst 1, 1) := by decide +kernel
theorem dX5_thornsNow_24 : decode cX5_thornsNow 24 = .ok (.goto 4, 3) := by decide +kernel
theorem dX5_thornsNow_27 : decode cX5_thornsNow 27 = .ok (.iconst 0, 1) := by decide +kernel
theorem dX5_thornsNow_28 : decode cX5_thornsNow 28 = .ok (.iadd, 1) := by decide +kernel
theorem dX5_thornsNow_29 : decode cX5_thornsNow 29 = .ok (.istore_n 1, 1) := by decide +kernel
theorem dX5_thornsNow_30 : decode cX5_thornsNow 30 = .ok (.iinc 2 1, 3) := by decide +kernel
theorem dX5_thornsNow_33 : decode cX5_thornsNow 33 = .ok (.goto (-29), 3) := by decide +kernel
theorem dX5_thornsNow_36 : decode cX5_thornsNow 36 = .ok (.iload_n 1, 1) := by decide +kernel
theorem dX5_thornsNow_37 : decode cX5_thornsNow 37 = .ok (.ireturn, 1) := by decide +kernel
theorem dX5_growsOf_0 : decode cX5_growsOf 0 = .ok (.aload_n 0, 1) := by decide +kernel
theorem dX5_growsOf_1 : decode cX5_growsOf 1 = .ok (.getfield 7, 3) := by decide +kernel
theorem dX5_growsOf_4 : decode cX5_growsOf 4 = .ok (.iload_n 1, 1) := by decide +kernel
theorem dX5_growsOf_5 : decode cX5_growsOf 5 = .ok (.iaload, 1) := by decide +kernel
theorem dX5_growsOf_6 : decode cX5_growsOf 6 = .ok (.istore_n 2, 1) := by decide +kernel
theorem dX5_growsOf_7 : decode cX5_growsOf 7 = .ok (.iload_n 2, 1) := by decide +kernel
theorem dX5_growsOf_8 : decode cX5_growsOf 8 = .ok (.iconst 3, 1) := by decide +kernel
theorem dX5_growsOf_9 : decode cX5_growsOf 9 = .ok (.if_icmp .ne 7, 3) := by decide +kernel
theorem dX5_growsOf_12 : decode cX5_growsOf 12 = .ok (.iconst 0, 1) := by decide +kernel
theorem dX5_growsOf_13 : decode cX5_growsOf 13 = .ok (.goto 36, 3) := by decide +kernel
theorem dX5_growsOf_16 : decode cX5_growsOf 16 = .ok (.iload_n 2, 1) := by decide +kernel
theorem dX5_growsOf_17 : decode cX5_growsOf 17 = .ok (.ifCond .ne 10, 3) := by decide +kernel
theorem dX5_growsOf_20 : decode cX5_growsOf 20 = .ok (.aload_n 0, 1) := by decide +kernel
theorem dX5_growsOf_21 : decode cX5_growsOf 21 = .ok (.getfield 132, 3) := by decide +kernel
theorem dX5_growsOf_24 : decode cX5_growsOf 24 = .ok (.goto 25, 3) := by decide +kernel
theorem dX5_growsOf_27 : decode cX5_growsOf 27 = .ok (.iload_n 2, 1) := by decide +kernel
theorem dX5_growsOf_28 : decode cX5_growsOf 28 = .ok (.iconst 1, 1) := by decide +kernel
theorem dX5_growsOf_29 : decode cX5_growsOf 29 = .ok (.if_icmp .ne 12, 3) := by decide +kernel
theorem dX5_growsOf_32 : decode cX5_growsOf 32 = .ok (.aload_n 0, 1) := by decide +kernel
theorem dX5_growsOf_33 : decode cX5_growsOf 33 = .ok (.getfield 132, 3) := by decide +kernel
theorem dX5_growsOf_36 : decode cX5_growsOf 36 = .ok (.iconst 1, 1) := by decide +kernel
theorem dX5_growsOf_37 : decode cX5_growsOf 37 = .ok (.iadd, 1) := by decide +kernel
theorem dX5_growsOf_38 : decode cX5_growsOf 38 = .ok (.goto 11, 3) := by decide +kernel
theorem dX5_growsOf_41 : decode cX5_growsOf 41 = .ok (.iconst 2, 1) := by decide +kernel
theorem dX5_growsOf_42 : decode cX5_growsOf 42 = .ok (.aload_n 0, 1) := by decide +kernel
theorem dX5_growsOf_43 : decode cX5_growsOf 43 = .ok (.getfield 132, 3) := by decide +kernel
theorem dX5_growsOf_46 : decode cX5_growsOf 46 = .ok (.iconst 1, 1) := by decide +kernel
theorem dX5_growsOf_47 : decode cX5_growsOf 47 = .ok (.iadd, 1) := by decide +kernel
theorem dX5_growsOf_48 : decode cX5_growsOf 48 = .ok (.imul, 1) := by decide +kernel
theorem dX5_growsOf_49 : decode cX5_growsOf 49 = .ok (.ireturn, 1) := by decide +kernel
set_option maxRecDepth 20000 in
theorem ggX5_coatOf_X5_growsOf : GoodIn wsX5_coatOf wsX5_growsOf := goodIn_r _ [7, 2, 8, 9, 10, 11, 12, 13, 14, 15, 16, 17, 18, 19, 20, 21, 22, 23, 24, 25, 26, 27, 28, 29, 30, 31, 32, 33, 34, 35, 36, 37, 38] (by decide +kernel) (by decide +kernel)
set_option maxRecDepth 20000 in
theorem gX5_coatOf_X5_growsOf : GoodIn wsX5_coatOf (wsV RX5 144 RX5 yX5_growsOf wsX5_growsOf) := goodIn_app (goodIn_of _ (by decide +kernel)) ggX5_coatOf_X5_growsOf
theorem dX5_coatOf_0 : decode cX5_coatOf 0 = .ok (.aload_n 0, 1) := by decide +kernel
theorem dX5_coatOf_1 : decode cX5_coatOf 1 = .ok (.iload_n 1, 1) := by decide +kernel
theorem dX5_coatOf_2 : decode cX5_coatOf 2 = .ok (.invokevirtual 144, 3) := by decide +kernel
theorem dX5_coatOf_5 : decode cX5_coatOf 5 = .ok (.iload_n 2, 1) := by decide +kernel
theorem dX5_coatOf_6 : decode cX5_coatOf 6 = .ok (.imul, 1) := by decide +kernel
theorem dX5_coatOf_7 : decode cX5_coatOf 7 = .ok (.aload_n 0, 1) := by decide +kernel
theorem dX5_coatOf_8 : decode cX5_coatOf 8 = .ok (.getfield 13, 3) := by decide +kernel
theorem dX5_coatOf_11 : decode cX5_coatOf 11 = .ok (.iload_n 1, 1) := by decide +kernel
theorem dX5_coatOf_12 : decode cX5_coatOf 12 = .ok (.iaload, 1) := by decide +kernel
theorem dX5_coatOf_13 : decode cX5_coatOf 13 = .ok (.isub, 1) := by decide +kernel
theorem dX5_coatOf_14 : decode cX5_coatOf 14 = .ok (.istore_n 3, 1) := by decide +kernel
theorem dX5_coatOf_15 : decode cX5_coatOf 15 = .ok (.aload_n 0, 1) := by decide +kernel
theorem dX5_coatOf_16 : decode cX5_coatOf 16 = .ok (.getfield 7, 3) := by decide +kernel
theorem dX5_coatOf_19 : decode cX5_coatOf 19 = .ok (.iload_n 1, 1) := by decide +kernel
theorem dX5_coatOf_20 : decode cX5_coatOf 20 = .ok (.iaload, 1) := by decide +kernel
theorem dX5_coatOf_21 : decode cX5_coatOf 21 = .ok (.iconst 3, 1) := by decide +kernel
theorem dX5_coatOf_22 : decode cX5_coatOf 22 = .ok (.if_icmp .eq 7, 3) := by decide +kernel
theorem dX5_coatOf_25 : decode cX5_coatOf 25 = .ok (.iload_n 3, 1) := by decide +kernel
theorem dX5_coatOf_26 : decode cX5_coatOf 26 = .ok (.ifCond .ge 7, 3) := by decide +kernel
theorem dX5_coatOf_29 : decode cX5_coatOf 29 = .ok (.iconst 0, 1) := by decide +kernel
theorem dX5_coatOf_30 : decode cX5_coatOf 30 = .ok (.goto 15, 3) := by decide +kernel
theorem dX5_coatOf_33 : decode cX5_coatOf 33 = .ok (.iload_n 3, 1) := by decide +kernel
theorem dX5_coatOf_34 : decode cX5_coatOf 34 = .ok (.bipush 9, 2) := by decide +kernel
theorem dX5_coatOf_36 : decode cX5_coatOf 36 = .ok (.if_icmp .le 8, 3) := by decide +kernel
theorem dX5_coatOf_39 : decode cX5_coatOf 39 = .ok (.bipush 9, 2) := by decide +kernel
theorem dX5_coatOf_41 : decode cX5_coatOf 41 = .ok (.goto 4, 3) := by decide +kernel
theorem dX5_coatOf_44 : decode cX5_coatOf 44 = .ok (.iload_n 3, 1) := by decide +kernel
theorem dX5_coatOf_45 : decode cX5_coatOf 45 = .ok (.ireturn, 1) := by decide +kernel
set_option maxRecDepth 20000 in
theorem ggX5_ripeBy_X5_cells : GoodIn wsX5_ripeBy wsX5_cells := goodIn_r _ [6, 7, 8, 20, 21, 22, 23, 24, 25, 26, 27, 28, 29, 30, 31, 32, 33, 34, 35, 36, 37, 38, 39, 40, 41, 42, 43, 44, 45, 46, 47, 48, 49] (by decide +kernel) (by decide +kernel)
set_option maxRecDepth 20000 in
theorem gX5_ripeBy_X5_cells : GoodIn wsX5_ripeBy (wsV RX5 69 RX5 yX5_cells wsX5_cells) := goodIn_app (goodIn_of _ (by decide +kernel)) ggX5_ripeBy_X5_cells
set_option maxRecDepth 20000 in
theorem ggX5_ripeBy_X5_coatOf : GoodIn wsX5_ripeBy wsX5_coatOf := goodIn_r _ [12, 13, 14, 15, 16, 17, 5, 18, 19, 20, 21, 22, 23, 24, 25, 26, 27, 28, 29, 30, 31, 32, 33, 34, 35, 36, 37, 38, 39, 40, 41, 42, 43, 44, 45, 46, 47, 48, 49] (by decide +kernel) (by decide +kernel)
set_option maxRecDepth 20000 in
theorem gX5_ripeBy_X5_coatOf : GoodIn wsX5_ripeBy (wsV RX5 147 RX5 yX5_coatOf wsX5_coatOf) := goodIn_app (goodIn_of _ (by decide +kernel)) ggX5_ripeBy_X5_coatOf
theorem dX5_ripeBy_0 : decode cX5_ripeBy 0 = .ok (.iconst 0, 1) := by decide +kernel
theorem dX5_ripeBy_1 : decode cX5_ripeBy 1 = .ok (.istore_n 2, 1) := by decide +kernel
theorem dX5_ripeBy_2 : decode cX5_ripeBy 2 = .ok (.iconst 0, 1) := by decide +kernel
theorem dX5_ripeBy_3 : decode cX5_ripeBy 3 = .ok (.istore_n 3, 1) := by decide +kernel
theorem dX5_ripeBy_4 : decode cX5_ripeBy 4 = .ok (.iload_n 3, 1) := by decide +kernel
theorem dX5_ripeBy_5 : decode cX5_ripeBy 5 = .ok (.aload_n 0, 1) := by decide +kernel
theorem dX5_ripeBy_6 : decode cX5_ripeBy 6 = .ok (.invokevirtual 69, 3) := by decide +kernel
theorem dX5_ripeBy_9 : decode cX5_ripeBy 9 = .ok (.if_icmp .ge 32, 3) := by decide +kernel
theorem dX5_ripeBy_12 : decode cX5_ripeBy 12 = .ok (.iload_n 2, 1) := by decide +kernel
theorem dX5_ripeBy_13 : decode cX5_ripeBy 13 = .ok (.aload_n 0, 1) := by decide +kernel
theorem dX5_ripeBy_14 : decode cX5_ripeBy 14 = .ok (.iload_n 3, 1) := by decide +kernel
theorem dX5_ripeBy_15 : decode cX5_ripeBy 15 = .ok (.iload_n 1, 1) := by decide +kernel
theorem dX5_ripeBy_16 : decode cX5_ripeBy 16 = .ok (.invokevirtual 147, 3) := by decide +kernel
theorem dX5_ripeBy_19 : decode cX5_ripeBy 19 = .ok (.aload_n 0, 1) := by decide +kernel
theorem dX5_ripeBy_20 : decode cX5_ripeBy 20 = .ok (.getfield 135, 3) := by decide +kernel
theorem dX5_ripeBy_23 : decode cX5_ripeBy 23 = .ok (.if_icmp .lt 9, 3) := by decide +kernel
theorem dX5_ripeBy_26 : decode cX5_ripeBy 26 = .ok (.iconst 1, 1) := by decide +kernel
theorem dX5_ripeBy_27 : decode cX5_ripeBy 27 = .ok (.iload_n 3, 1) := by decide +kernel
theorem dX5_ripeBy_28 : decode cX5_ripeBy 28 = .ok (.ishl, 1) := by decide +kernel
theorem dX5_ripeBy_29 : decode cX5_ripeBy 29 = .ok (.goto 4, 3) := by decide +kernel
theorem dX5_ripeBy_32 : decode cX5_ripeBy 32 = .ok (.iconst 0, 1) := by decide +kernel
theorem dX5_ripeBy_33 : decode cX5_ripeBy 33 = .ok (.ior, 1) := by decide +kernel
theorem dX5_ripeBy_34 : decode cX5_ripeBy 34 = .ok (.istore_n 2, 1) := by decide +kernel
theorem dX5_ripeBy_35 : decode cX5_ripeBy 35 = .ok (.iinc 3 1, 3) := by decide +kernel
theorem dX5_ripeBy_38 : decode cX5_ripeBy 38 = .ok (.goto (-34), 3) := by decide +kernel
theorem dX5_ripeBy_41 : decode cX5_ripeBy 41 = .ok (.iload_n 2, 1) := by decide +kernel
theorem dX5_ripeBy_42 : decode cX5_ripeBy 42 = .ok (.ireturn, 1) := by decide +kernel
set_option maxRecDepth 20000 in
theorem ggX5_noWeeks_X5_in : GoodIn wsX5_noWeeks wsX5_in := goodIn_r _ [5] (by decide +kernel) (by decide +kernel)
set_option maxRecDepth 20000 in
theorem gX5_noWeeks_X5_in : GoodIn wsX5_noWeeks (va_wsS RX5 73 yX5_in wsX5_in) := goodIn_app (goodIn_of _ (by decide +kernel)) ggX5_noWeeks_X5_in
theorem dX5_noWeeks_0 : decode cX5_noWeeks 0 = .ok (.iload_n 0, 1) := by decide +kernel
theorem dX5_noWeeks_1 : decode cX5_noWeeks 1 = .ok (.i2l, 1) := by decide +kernel
theorem dX5_noWeeks_2 : decode cX5_noWeeks 2 = .ok (.lconst 0, 1) := by decide +kernel
theorem dX5_noWeeks_3 : decode cX5_noWeeks 3 = .ok (.ldc2_w 150, 3) := by decide +kernel
theorem dX5_noWeeks_6 : decode cX5_noWeeks 6 = .ok (.invokestatic 73, 3) := by decide +kernel
theorem dX5_noWeeks_9 : decode cX5_noWeeks 9 = .ok (.ifCond .ne 7, 3) := by decide +kernel
theorem dX5_noWeeks_12 : decode cX5_noWeeks 12 = .ok (.iconst 1, 1) := by decide +kernel
theorem dX5_noWeeks_13 : decode cX5_noWeeks 13 = .ok (.goto 4, 3) := by decide +kernel
theorem dX5_noWeeks_16 : decode cX5_noWeeks 16 = .ok (.iconst 0, 1) := by decide +kernel
theorem dX5_noWeeks_17 : decode cX5_noWeeks 17 = .ok (.ireturn, 1) := by decide +kernel
set_option maxRecDepth 20000 in
theorem ggX5_ofCell_X5_noPlace : GoodIn wsX5_ofCell wsX5_noPlace := goodIn_r _ [7, 8, 9, 10, 6, 11, 12, 13, 14, 15, 16, 22, 23, 24, 25, 26, 27, 28, 29, 30, 31, 32, 33, 34, 35, 36, 37, 38, 39, 40, 41, 42, 43, 44, 45, 46, 47, 48, 49, 50, 51] (by decide +kernel) (by decide +kernel)
set_option maxRecDepth 20000 in
theorem gX5_ofCell_X5_noPlace : GoodIn wsX5_ofCell (wsV RX5 77 RX5 yX5_noPlace wsX5_noPlace) := goodIn_app (goodIn_of _ (by decide +kernel)) ggX5_ofCell_X5_noPlace
set_option maxRecDepth 20000 in
theorem ggX5_ofCell_X5_growsOf : GoodIn wsX5_ofCell wsX5_growsOf := goodIn_r _ [20, 1, 21, 22, 23, 24, 25, 26, 27, 28, 29, 30, 31, 32, 33, 34, 35, 36, 37, 38, 39, 40, 41, 42, 43, 44, 45, 46, 47, 48, 49, 50, 51] (by decide +kernel) (by decide +kernel)
set_option maxRecDepth 20000 in
theorem gX5_ofCell_X5_growsOf : GoodIn wsX5_ofCell (wsV RX5 144 RX5 yX5_growsOf wsX5_growsOf) := goodIn_app (goodIn_of _ (by decide +kernel)) ggX5_ofCell_X5_growsOf
theorem dX5_ofCell_0 : decode cX5_ofCell 0 = .ok (.aload_n 0, 1) := by decide +kernel
theorem dX5_ofCell_1 : decode cX5_ofCell 1 = .ok (.iload_n 1, 1) := by decide +kernel
theorem dX5_ofCell_2 : decode cX5_ofCell 2 = .ok (.invokevirtual 77, 3) := by decide +kernel
theorem dX5_ofCell_5 : decode cX5_ofCell 5 = .ok (.ifCond .eq 5, 3) := by decide +kernel
theorem dX5_ofCell_8 : decode cX5_ofCell 8 = .ok (.iconst (-1), 1) := by decide +kernel
theorem dX5_ofCell_9 : decode cX5_ofCell 9 = .ok (.ireturn, 1) := by decide +kernel
theorem dX5_ofCell_10 : decode cX5_ofCell 10 = .ok (.iload_n 2, 1) := by decide +kernel
theorem dX5_ofCell_11 : decode cX5_ofCell 11 = .ok (.tableswitch 45 0 2 #[25, 32, 38], 25) := by decide +kernel
theorem dX5_ofCell_36 : decode cX5_ofCell 36 = .ok (.aload_n 0, 1) := by decide +kernel
theorem dX5_ofCell_37 : decode cX5_ofCell 37 = .ok (.getfield 7, 3) := by decide +kernel
theorem dX5_ofCell_40 : decode cX5_ofCell 40 = .ok (.iload_n 1, 1) := by decide +kernel
theorem dX5_ofCell_41 : decode cX5_ofCell 41 = .ok (.iaload, 1) := by decide +kernel
theorem dX5_ofCell_42 : decode cX5_ofCell 42 = .ok (.ireturn, 1) := by decide +kernel
theorem dX5_ofCell_43 : decode cX5_ofCell 43 = .ok (.aload_n 0, 1) := by decide +kernel
theorem dX5_ofCell_44 : decode cX5_ofCell 44 = .ok (.iload_n 1, 1) := by decide +kernel
theorem dX5_ofCell_45 : decode cX5_ofCell 45 = .ok (.invokevirtual 144, 3) := by decide +kernel
theorem dX5_ofCell_48 : decode cX5_ofCell 48 = .ok (.ireturn, 1) := by decide +kernel
theorem dX5_ofCell_49 : decode cX5_ofCell 49 = .ok (.aload_n 0, 1) := by decide +kernel
theorem dX5_ofCell_50 : decode cX5_ofCell 50 = .ok (.getfield 13, 3) := by decide +kernel
theorem dX5_ofCell_53 : decode cX5_ofCell 53 = .ok (.iload_n 1, 1) := by decide +kernel
theorem dX5_ofCell_54 : decode cX5_ofCell 54 = .ok (.iaload, 1) := by decide +kernel
theorem dX5_ofCell_55 : decode cX5_ofCell 55 = .ok (.ireturn, 1) := by decide +kernel
theorem dX5_ofCell_56 : decode cX5_ofCell 56 = .ok (.bipush (-2), 2) := by decide +kernel
theorem dX5_ofCell_58 : decode cX5_ofCell 58 = .ok (.ireturn, 1) := by decide +kernel
set_option maxRecDepth 20000 in
theorem ggX5_goats_X5_noGrass : GoodIn wsX5_goats wsX5_noGrass := goodIn_r _ [7, 8, 9, 10, 11, 6, 12, 13, 14, 15, 16, 17, 18, 19, 20, 21, 22, 23, 24, 25, 26, 27, 28, 29, 30, 31, 32, 33, 34, 35, 36, 37, 38, 39, 40, 41, 42, 43, 44, 45, 46, 47, 48, 49, 50, 51] (by decide +kernel) (by decide +kernel)
set_option maxRecDepth 20000 in
theorem gX5_goats_X5_noGrass : GoodIn wsX5_goats (wsV RX5 152 RX5 yX5_noGrass wsX5_noGrass) := goodIn_app (goodIn_of _ (by decide +kernel)) ggX5_goats_X5_noGrass
set_option maxRecDepth 20000 in
theorem ggX5_goats_X5_in : GoodIn wsX5_goats wsX5_in := goodIn_r _ [21] (by decide +kernel) (by decide +kernel)
set_option maxRecDepth 20000 in
theorem gX5_goats_X5_in : GoodIn wsX5_goats (va_wsS RX5 73 yX5_in wsX5_in) := goodIn_app (goodIn_of _ (by decide +kernel)) ggX5_goats_X5_in
theorem dX5_goats_0 : decode cX5_goats 0 = .ok (.aload_n 0, 1) := by decide +kernel
theorem dX5_goats_1 : decode cX5_goats 1 = .ok (.iload_n 1, 1) := by decide +kernel
theorem dX5_goats_2 : decode cX5_goats 2 = .ok (.invokevirtual 152, 3) := by decide +kernel
theorem dX5_goats_5 : decode cX5_goats 5 = .ok (.ifCond .eq 5, 3) := by decide +kernel
theorem dX5_goats_8 : decode cX5_goats 8 = .ok (.iconst (-1), 1) := by decide +kernel
theorem dX5_goats_9 : decode cX5_goats 9 = .ok (.ireturn, 1) := by decide +kernel
theorem dX5_goats_10 : decode cX5_goats 10 = .ok (.iload_n 2, 1) := by decide +kernel
theorem dX5_goats_11 : decode cX5_goats 11 = .ok (.i2l, 1) := by decide +kernel
theorem dX5_goats_12 : decode cX5_goats 12 = .ok (.lconst 0, 1) := by decide +kernel
theorem dX5_goats_13 : decode cX5_goats 13 = .ok (.ldc2_w 150, 3) := by decide +kernel
theorem dX5_goats_16 : decode cX5_goats 16 = .ok (.invokestatic 73, 3) := by decide +kernel
theorem dX5_goats_19 : decode cX5_goats 19 = .ok (.ifCond .ne 6, 3) := by decide +kernel
theorem dX5_goats_22 : decode cX5_goats 22 = .ok (.bipush (-2), 2) := by decide +kernel
theorem dX5_goats_24 : decode cX5_goats 24 = .ok (.ireturn, 1) := by decide +kernel
theorem dX5_goats_25 : decode cX5_goats 25 = .ok (.aload_n 0, 1) := by decide +kernel
theorem dX5_goats_26 : decode cX5_goats 26 = .ok (.getfield 13, 3) := by decide +kernel
theorem dX5_goats_29 : decode cX5_goats 29 = .ok (.iload_n 1, 1) := by decide +kernel
theorem dX5_goats_30 : decode cX5_goats 30 = .ok (.iaload, 1) := by decide +kernel
theorem dX5_goats_31 : decode cX5_goats 31 = .ok (.istore_n 3, 1) := by decide +kernel
theorem dX5_goats_32 : decode cX5_goats 32 = .ok (.aload_n 0, 1) := by decide +kernel
theorem dX5_goats_33 : decode cX5_goats 33 = .ok (.getfield 13, 3) := by decide +kernel
theorem dX5_goats_36 : decode cX5_goats 36 = .ok (.iload_n 1, 1) := by decide +kernel
theorem dX5_goats_37 : decode cX5_goats 37 = .ok (.iload_n 2, 1) := by decide +kernel
theorem dX5_goats_38 : decode cX5_goats 38 = .ok (.iastore, 1) := by decide +kernel
theorem dX5_goats_39 : decode cX5_goats 39 = .ok (.iload_n 3, 1) := by decide +kernel
theorem dX5_goats_40 : decode cX5_goats 40 = .ok (.ireturn, 1) := by decide +kernel
set_option maxRecDepth 20000 in
theorem ggX5_pace_X5_in : GoodIn wsX5_pace wsX5_in := goodIn_r _ [7] (by decide +kernel) (by decide +kernel)
set_option maxRecDepth 20000 in
theorem gX5_pace_X5_in : GoodIn wsX5_pace (va_wsS RX5 73 yX5_in wsX5_in) := goodIn_app (goodIn_of _ (by decide +kernel)) ggX5_pace_X5_in
theorem dX5_pace_0 : decode cX5_pace 0 = .ok (.iload_n 1, 1) := by decide +kernel
theorem dX5_pace_1 : decode cX5_pace 1 = .ok (.i2l, 1) := by decide +kernel
theorem dX5_pace_2 : decode cX5_pace 2 = .ok (.lconst 1, 1) := by decide +kernel
theorem dX5_pace_3 : decode cX5_pace 3 = .ok (.ldc2_w 155, 3) := by decide +kernel
theorem dX5_pace_6 : decode cX5_pace 6 = .ok (.invokestatic 73, 3) := by decide +kernel
theorem dX5_pace_9 : decode cX5_pace 9 = .ok (.ifCond .ne 6, 3) := by decide +kernel
theorem dX5_pace_12 : decode cX5_pace 12 = .ok (.bipush (-2), 2) := by decide +kernel
theorem dX5_pace_14 : decode cX5_pace 14 = .ok (.ireturn, 1) := by decide +kernel
theorem dX5_pace_15 : decode cX5_pace 15 = .ok (.aload_n 0, 1) := by decide +kernel
theorem dX5_pace_16 : decode cX5_pace 16 = .ok (.getfield 63, 3) := by decide +kernel
theorem dX5_pace_19 : decode cX5_pace 19 = .ok (.ifCond .ne 6, 3) := by decide +kernel
theorem dX5_pace_22 : decode cX5_pace 22 = .ok (.bipush (-3), 2) := by decide +kernel
theorem dX5_pace_24 : decode cX5_pace 24 = .ok (.ireturn, 1) := by decide +kernel
theorem dX5_pace_25 : decode cX5_pace 25 = .ok (.aload_n 0, 1) := by decide +kernel
theorem dX5_pace_26 : decode cX5_pace 26 = .ok (.getfield 132, 3) := by decide +kernel
theorem dX5_pace_29 : decode cX5_pace 29 = .ok (.istore_n 2, 1) := by decide +kernel
theorem dX5_pace_30 : decode cX5_pace 30 = .ok (.aload_n 0, 1) := by decide +kernel
theorem dX5_pace_31 : decode cX5_pace 31 = .ok (.iload_n 1, 1) := by decide +kernel
theorem dX5_pace_32 : decode cX5_pace 32 = .ok (.putfield 132, 3) := by decide +kernel
theorem dX5_pace_35 : decode cX5_pace 35 = .ok (.iload_n 2, 1) := by decide +kernel
theorem dX5_pace_36 : decode cX5_pace 36 = .ok (.ireturn, 1) := by decide +kernel
set_option maxRecDepth 20000 in
theorem ggX5_breadth_X5_in : GoodIn wsX5_breadth wsX5_in := goodIn_r _ [7] (by decide +kernel) (by decide +kernel)
set_option maxRecDepth 20000 in
theorem gX5_breadth_X5_in : GoodIn wsX5_breadth (va_wsS RX5 73 yX5_in wsX5_in) := goodIn_app (goodIn_of _ (by decide +kernel)) ggX5_breadth_X5_in
theorem dX5_breadth_0 : decode cX5_breadth 0 = .ok (.iload_n 1, 1) := by decide +kernel
theorem dX5_breadth_1 : decode cX5_breadth 1 = .ok (.i2l, 1) := by decide +kernel
theorem dX5_breadth_2 : decode cX5_breadth 2 = .ok (.lconst 1, 1) := by decide +kernel
theorem dX5_breadth_3 : decode cX5_breadth 3 = .ok (.ldc2_w 150, 3) := by decide +kernel
theorem dX5_breadth_6 : decode cX5_breadth 6 = .ok (.invokestatic 73, 3) := by decide +kernel
theorem dX5_breadth_9 : decode cX5_breadth 9 = .ok (.ifCond .ne 6, 3) := by decide +kernel
theorem dX5_breadth_12 : decode cX5_breadth 12 = .ok (.bipush (-2), 2) := by decide +kernel
theorem dX5_breadth_14 : decode cX5_breadth 14 = .ok (.ireturn, 1) := by decide +kernel
theorem dX5_breadth_15 : decode cX5_breadth 15 = .ok (.aload_n 0, 1) := by decide +kernel
theorem dX5_breadth_16 : decode cX5_breadth 16 = .ok (.getfield 63, 3) := by decide +kernel
theorem dX5_breadth_19 : decode cX5_breadth 19 = .ok (.ifCond .ne 6, 3) := by decide +kernel
theorem dX5_breadth_22 : decode cX5_breadth 22 = .ok (.bipush (-3), 2) := by decide +kernel
theorem dX5_breadth_24 : decode cX5_breadth 24 = .ok (.ireturn, 1) := by decide +kernel
theorem dX5_breadth_25 : decode cX5_breadth 25 = .ok (.aload_n 0, 1) := by decide +kernel
theorem dX5_breadth_26 : decode cX5_breadth 26 = .ok (.getfield 135, 3) := by decide +kernel
theorem dX5_breadth_29 : decode cX5_breadth 29 = .ok (.istore_n 2, 1) := by decide +kernel
theorem dX5_breadth_30 : decode cX5_breadth 30 = .ok (.aload_n 0, 1) := by decide +kernel
theorem dX5_breadth_31 : decode cX5_breadth 31 = .ok (.iload_n 1, 1) := by decide +kernel
theorem dX5_breadth_32 : decode cX5_breadth 32 = .ok (.putfield 135, 3) := by decide +kernel
theorem dX5_breadth_35 : decode cX5_breadth 35 = .ok (.iload_n 2, 1) := by decide +kernel
theorem dX5_breadth_36 : decode cX5_breadth 36 = .ok (.ireturn, 1) := by decide +kernel
set_option maxRecDepth 20000 in
theorem ggX5_coat_X5_noPlace : GoodIn wsX5_coat wsX5_noPlace := goodIn_r _ [5, 6, 7, 8, 4, 9, 10, 11, 12, 13, 14, 30, 31, 32, 33, 34, 35, 36, 37, 38, 39, 40, 41, 42, 43, 44, 45, 46, 47, 48, 49, 50, 51, 52, 53, 54, 55, 56, 57, 58, 59] (by decide +kernel) (by decide +kernel)
set_option maxRecDepth 20000 in
theorem gX5_coat_X5_noPlace : GoodIn wsX5_coat (wsV RX5 77 RX5 yX5_noPlace wsX5_noPlace) := goodIn_app (goodIn_of _ (by decide +kernel)) ggX5_coat_X5_noPlace
set_option maxRecDepth 20000 in
theorem ggX5_coat_X5_noWeeks : GoodIn wsX5_coat wsX5_noWeeks := goodIn_r _ [17, 18, 12, 13, 4, 14] (by decide +kernel) (by decide +kernel)
set_option maxRecDepth 20000 in
theorem gX5_coat_X5_noWeeks : GoodIn wsX5_coat (va_wsS RX5 157 yX5_noWeeks wsX5_noWeeks) := goodIn_app (goodIn_of _ (by decide +kernel)) ggX5_coat_X5_noWeeks
set_option maxRecDepth 20000 in
theorem ggX5_coat_X5_coatOf : GoodIn wsX5_coat wsX5_coatOf := goodIn_r _ [22, 23, 24, 25, 26, 27, 4, 28, 29, 30, 31, 32, 33, 34, 35, 36, 37, 38, 39, 40, 41, 42, 43, 44, 45, 46, 47, 48, 49, 50, 51, 52, 53, 54, 55, 56, 57, 58, 59] (by decide +kernel) (by decide +kernel)
set_option maxRecDepth 20000 in
theorem gX5_coat_X5_coatOf : GoodIn wsX5_coat (wsV RX5 147 RX5 yX5_coatOf wsX5_coatOf) := goodIn_app (goodIn_of _ (by decide +kernel)) ggX5_coat_X5_coatOf
theorem dX5_coat_0 : decode cX5_coat 0 = .ok (.aload_n 0, 1) := by decide +kernel
theorem dX5_coat_1 : decode cX5_coat 1 = .ok (.iload_n 1, 1) := by decide +kernel
theorem dX5_coat_2 : decode cX5_coat 2 = .ok (.invokevirtual 77, 3) := by decide +kernel
theorem dX5_coat_5 : decode cX5_coat 5 = .ok (.ifCond .eq 5, 3) := by decide +kernel
theorem dX5_coat_8 : decode cX5_coat 8 = .ok (.iconst (-1), 1) := by decide +kernel
theorem dX5_coat_9 : decode cX5_coat 9 = .ok (.ireturn, 1) := by decide +kernel
theorem dX5_coat_10 : decode cX5_coat 10 = .ok (.iload_n 2, 1) := by decide +kernel
theorem dX5_coat_11 : decode cX5_coat 11 = .ok (.invokestatic 157, 3) := by decide +kernel
theorem dX5_coat_14 : decode cX5_coat 14 = .ok (.ifCond .eq 8, 3) := by decide +kernel
theorem dX5_coat_17 : decode cX5_coat 17 = .ok (.bipush (-2), 2) := by decide +kernel
theorem dX5_coat_19 : decode cX5_coat 19 = .ok (.goto 9, 3) := by decide +kernel
theorem dX5_coat_22 : decode cX5_coat 22 = .ok (.aload_n 0, 1) := by decide +kernel
theorem dX5_coat_23 : decode cX5_coat 23 = .ok (.iload_n 1, 1) := by decide +kernel
theorem dX5_coat_24 : decode cX5_coat 24 = .ok (.iload_n 2, 1) := by decide +kernel
theorem dX5_coat_25 : decode cX5_coat 25 = .ok (.invokevirtual 147, 3) := by decide +kernel
theorem dX5_coat_28 : decode cX5_coat 28 = .ok (.ireturn, 1) := by decide +kernel
set_option maxRecDepth 20000 in
theorem ggX5_ripe_X5_noWeeks : GoodIn wsX5_ripe wsX5_noWeeks := goodIn_r _ [5, 6, 7, 8, 4, 9] (by decide +kernel) (by decide +kernel)
set_option maxRecDepth 20000 in
theorem gX5_ripe_X5_noWeeks : GoodIn wsX5_ripe (va_wsS RX5 157 yX5_noWeeks wsX5_noWeeks) := goodIn_app (goodIn_of _ (by decide +kernel)) ggX5_ripe_X5_noWeeks
set_option maxRecDepth 20000 in
theorem ggX5_ripe_X5_ripeBy : GoodIn wsX5_ripe wsX5_ripeBy := goodIn_r _ [13, 14, 15, 16, 17, 4, 18, 1, 19, 20, 21, 22, 23, 24, 25, 26, 27, 28, 29, 30, 31, 32, 33, 34, 35, 36, 37, 38, 39, 40, 41, 42, 43, 44, 45, 46, 47, 48, 49, 50, 51, 52, 53, 54, 55, 56, 57, 58, 59, 60] (by decide +kernel) (by decide +kernel)
set_option maxRecDepth 20000 in
theorem gX5_ripe_X5_ripeBy : GoodIn wsX5_ripe (wsV RX5 160 RX5 yX5_ripeBy wsX5_ripeBy) := goodIn_app (goodIn_of _ (by decide +kernel)) ggX5_ripe_X5_ripeBy
theorem dX5_ripe_0 : decode cX5_ripe 0 = .ok (.aload_n 0, 1) := by decide +kernel
theorem dX5_ripe_1 : decode cX5_ripe 1 = .ok (.getfield 63, 3) := by decide +kernel
theorem dX5_ripe_4 : decode cX5_ripe 4 = .ok (.ifCond .ne 6, 3) := by decide +kernel
theorem dX5_ripe_7 : decode cX5_ripe 7 = .ok (.bipush (-3), 2) := by decide +kernel
theorem dX5_ripe_9 : decode cX5_ripe 9 = .ok (.ireturn, 1) := by decide +kernel
theorem dX5_ripe_10 : decode cX5_ripe 10 = .ok (.iload_n 1, 1) := by decide +kernel
theorem dX5_ripe_11 : decode cX5_ripe 11 = .ok (.invokestatic 157, 3) := by decide +kernel
theorem dX5_ripe_14 : decode cX5_ripe 14 = .ok (.ifCond .eq 8, 3) := by decide +kernel
theorem dX5_ripe_17 : decode cX5_ripe 17 = .ok (.bipush (-2), 2) := by decide +kernel
theorem dX5_ripe_19 : decode cX5_ripe 19 = .ok (.goto 8, 3) := by decide +kernel
theorem dX5_ripe_22 : decode cX5_ripe 22 = .ok (.aload_n 0, 1) := by decide +kernel
theorem dX5_ripe_23 : decode cX5_ripe 23 = .ok (.iload_n 1, 1) := by decide +kernel
theorem dX5_ripe_24 : decode cX5_ripe 24 = .ok (.invokevirtual 160, 3) := by decide +kernel
theorem dX5_ripe_27 : decode cX5_ripe 27 = .ok (.ireturn, 1) := by decide +kernel
set_option maxRecDepth 20000 in
theorem ggX5_beside_X5_in : GoodIn wsX5_beside wsX5_in := goodIn_r _ [6] (by decide +kernel) (by decide +kernel)
set_option maxRecDepth 20000 in
theorem gX5_beside_X5_in : GoodIn wsX5_beside (va_wsS RX5 73 yX5_in wsX5_in) := goodIn_app (goodIn_of _ (by decide +kernel)) ggX5_beside_X5_in
theorem dX5_beside_0 : decode cX5_beside 0 = .ok (.iload_n 1, 1) := by decide +kernel
theorem dX5_beside_1 : decode cX5_beside 1 = .ok (.aload_n 0, 1) := by decide +kernel
theorem dX5_beside_2 : decode cX5_beside 2 = .ok (.getfield 66, 3) := by decide +kernel
theorem dX5_beside_5 : decode cX5_beside 5 = .ok (.idiv, 1) := by decide +kernel
theorem dX5_beside_6 : decode cX5_beside 6 = .ok (.iload_n 2, 1) := by decide +kernel
theorem dX5_beside_7 : decode cX5_beside 7 = .ok (.ifCond .ne 7, 3) := by decide +kernel
theorem dX5_beside_10 : decode cX5_beside 10 = .ok (.iconst (-1), 1) := by decide +kernel
theorem dX5_beside_11 : decode cX5_beside 11 = .ok (.goto 13, 3) := by decide +kernel
theorem dX5_beside_14 : decode cX5_beside 14 = .ok (.iload_n 2, 1) := by decide +kernel
theorem dX5_beside_15 : decode cX5_beside 15 = .ok (.iconst 2, 1) := by decide +kernel
theorem dX5_beside_16 : decode cX5_beside 16 = .ok (.if_icmp .ne 7, 3) := by decide +kernel
theorem dX5_beside_19 : decode cX5_beside 19 = .ok (.iconst 1, 1) := by decide +kernel
theorem dX5_beside_20 : decode cX5_beside 20 = .ok (.goto 4, 3) := by decide +kernel
theorem dX5_beside_23 : decode cX5_beside 23 = .ok (.iconst 0, 1) := by decide +kernel
theorem dX5_beside_24 : decode cX5_beside 24 = .ok (.iadd, 1) := by decide +kernel
theorem dX5_beside_25 : decode cX5_beside 25 = .ok (.istore_n 3, 1) := by decide +kernel
theorem dX5_beside_26 : decode cX5_beside 26 = .ok (.iload_n 1, 1) := by decide +kernel
theorem dX5_beside_27 : decode cX5_beside 27 = .ok (.aload_n 0, 1) := by decide +kernel
theorem dX5_beside_28 : decode cX5_beside 28 = .ok (.getfield 66, 3) := by decide +kernel
theorem dX5_beside_31 : decode cX5_beside 31 = .ok (.irem, 1) := by decide +kernel
theorem dX5_beside_32 : decode cX5_beside 32 = .ok (.iload_n 2, 1) := by decide +kernel
theorem dX5_beside_33 : decode cX5_beside 33 = .ok (.iconst 3, 1) := by decide +kernel
theorem dX5_beside_34 : decode cX5_beside 34 = .ok (.if_icmp .ne 7, 3) := by decide +kernel
theorem dX5_beside_37 : decode cX5_beside 37 = .ok (.iconst (-1), 1) := by decide +kernel
theorem dX5_beside_38 : decode cX5_beside 38 = .ok (.goto 13, 3) := by decide +kernel
theorem dX5_beside_41 : decode cX5_beside 41 = .ok (.iload_n 2, 1) := by decide +kernel
theorem dX5_beside_42 : decode cX5_beside 42 = .ok (.iconst 1, 1) := by decide +kernel
theorem dX5_beside_43 : decode cX5_beside 43 = .ok (.if_icmp .ne 7, 3) := by decide +kernel
theorem dX5_beside_46 : decode cX5_beside 46 = .ok (.iconst 1, 1) := by decide +kernel
theorem dX5_beside_47 : decode cX5_beside 47 = .ok (.goto 4, 3) := by decide +kernel
theorem dX5_beside_50 : decode cX5_beside 50 = .ok (.iconst 0, 1) := by decide +kernel
theorem dX5_beside_51 : decode cX5_beside 51 = .ok (.iadd, 1) := by decide +kernel
theorem dX5_beside_52 : decode cX5_beside 52 = .ok (.istore 4, 2) := by decide +kernel
theorem dX5_beside_54 : decode cX5_beside 54 = .ok (.iload_n 3, 1) := by decide +kernel
theorem dX5_beside_55 : decode cX5_beside 55 = .ok (.i2l, 1) := by decide +kernel
theorem dX5_beside_56 : decode cX5_beside 56 = .ok (.lconst 0, 1) := by decide +kernel
theorem dX5_beside_57 : decode cX5_beside 57 = .ok (.aload_n 0, 1) := by decide +kernel
theorem dX5_beside_58 : decode cX5_beside 58 = .ok (.getfield 63, 3) := by decide +kernel
theorem dX5_beside_61 : decode cX5_beside 61 = .ok (.i2l, 1) := by decide +kernel
theorem dX5_beside_62 : decode cX5_beside 62 = .ok (.lconst 1, 1) := by decide +kernel
theorem dX5_beside_63 : decode cX5_beside 63 = .ok (.lsub, 1) := by decide +kernel
theorem dX5_beside_64 : decode cX5_beside 64 = .ok (.invokestatic 73, 3) := by decide +kernel
theorem dX5_beside_67 : decode cX5_beside 67 = .ok (.ifCond .eq 32, 3) := by decide +kernel
theorem dX5_beside_70 : decode cX5_beside 70 = .ok (.iload 4, 2) := by decide +kernel
theorem dX5_beside_72 : decode cX5_beside 72 = .ok (.i2l, 1) := by decide +kernel
theorem dX5_beside_73 : decode cX5_beside 73 = .ok (.lconst 0, 1) := by decide +kernel
theorem dX5_beside_74 : decode cX5_beside 74 = .ok (.aload_n 0, 1) := by decide +kernel
theorem dX5_beside_75 : decode cX5_beside 75 = .ok (.getfield 66, 3) := by decide +kernel
theorem dX5_beside_78 : decode cX5_beside 78 = .ok (.i2l, 1) := by decide +kernel
theorem dX5_beside_79 : decode cX5_beside 79 = .ok (.lconst 1, 1) := by decide +kernel
theorem dX5_beside_80 : decode cX5_beside 80 = .ok (.lsub, 1) := by decide +kernel
theorem dX5_beside_81 : decode cX5_beside 81 = .ok (.invokestatic 73, 3) := by decide +kernel
theorem dX5_beside_84 : decode cX5_beside 84 = .ok (.ifCond .eq 15, 3) := by decide +kernel
theorem dX5_beside_87 : decode cX5_beside 87 = .ok (.iload_n 3, 1) := by decide +kernel
theorem dX5_beside_88 : decode cX5_beside 88 = .ok (.aload_n 0, 1) := by decide +kernel
theorem dX5_beside_89 : decode cX5_beside 89 = .ok (.getfield 66, 3) := by decide +kernel
theorem dX5_beside_92 : decode cX5_beside 92 = .ok (.imul, 1) := by decide +kernel
theorem dX5_beside_93 : decode cX5_beside 93 = .ok (.iload 4, 2) := by decide +kernel
theorem dX5_beside_95 : decode cX5_beside 95 = .ok (.iadd, 1) := by decide +kernel
theorem dX5_beside_96 : decode cX5_beside 96 = .ok (.goto 5, 3) := by decide +kernel
theorem dX5_beside_99 : decode cX5_beside 99 = .ok (.bipush (-9), 2) := by decide +kernel
theorem dX5_beside_101 : decode cX5_beside 101 = .ok (.ireturn, 1) := by decide +kernel
set_option maxRecDepth 20000 in
theorem ggX5_goPath_X5_beside : GoodIn wsX5_goPath wsX5_beside := goodIn_r _ [9, 10, 11, 12, 13, 8, 14, 18, 19, 20, 21, 22, 23, 24, 25, 26, 27, 28, 29, 30, 31, 32, 33, 34, 35, 36, 37, 38, 39, 40, 41, 42, 43, 44, 45, 46, 47] (by decide +kernel) (by decide +kernel)
set_option maxRecDepth 20000 in
theorem gX5_goPath_X5_beside : GoodIn wsX5_goPath (wsV RX5 172 RX5 yX5_beside wsX5_beside) := goodIn_app (goodIn_of _ (by decide +kernel)) ggX5_goPath_X5_beside
set_option maxRecDepth 20000 in
theorem ggX5_goPath_X5_isIn : GoodIn wsX5_goPath wsX5_isIn := goodIn_r _ [17] (by decide +kernel) (by decide +kernel)
set_option maxRecDepth 20000 in
theorem gX5_goPath_X5_isIn : GoodIn wsX5_goPath (va_wsS RX5 175 yX5_isIn wsX5_isIn) := goodIn_app (goodIn_of _ (by decide +kernel)) ggX5_goPath_X5_isIn
theorem dX5_goPath_0 : decode cX5_goPath 0 = .ok (.aload_n 0, 1) := by decide +kernel
theorem dX5_goPath_1 : decode cX5_goPath 1 = .ok (.bipush (-9), 2) := by decide +kernel
theorem dX5_goPath_3 : decode cX5_goPath 3 = .ok (.putfield 163, 3) := by decide +kernel
theorem dX5_goPath_6 : decode cX5_goPath 6 = .ok (.aload_n 0, 1) := by decide +kernel
theorem dX5_goPath_7 : decode cX5_goPath 7 = .ok (.iload_n 2, 1) := by decide +kernel
theorem dX5_goPath_8 : decode cX5_goPath 8 = .ok (.putfield 166, 3) := by decide +kernel
theorem dX5_goPath_11 : decode cX5_goPath 11 = .ok (.aload_n 0, 1) := by decide +kernel
theorem dX5_goPath_12 : decode cX5_goPath 12 = .ok (.iconst 1, 1) := by decide +kernel
theorem dX5_goPath_13 : decode cX5_goPath 13 = .ok (.iload_n 2, 1) := by decide +kernel
theorem dX5_goPath_14 : decode cX5_goPath 14 = .ok (.ishl, 1) := by decide +kernel
theorem dX5_goPath_15 : decode cX5_goPath 15 = .ok (.putfield 169, 3) := by decide +kernel
theorem dX5_goPath_18 : decode cX5_goPath 18 = .ok (.iconst 0, 1) := by decide +kernel
theorem dX5_goPath_19 : decode cX5_goPath 19 = .ok (.istore 5, 2) := by decide +kernel
theorem dX5_goPath_21 : decode cX5_goPath 21 = .ok (.iload 5, 2) := by decide +kernel
theorem dX5_goPath_23 : decode cX5_goPath 23 = .ok (.iload 4, 2) := by decide +kernel
theorem dX5_goPath_25 : decode cX5_goPath 25 = .ok (.if_icmp .ge 84, 3) := by decide +kernel
theorem dX5_goPath_28 : decode cX5_goPath 28 = .ok (.aload_n 0, 1) := by decide +kernel
theorem dX5_goPath_29 : decode cX5_goPath 29 = .ok (.getfield 163, 3) := by decide +kernel
theorem dX5_goPath_32 : decode cX5_goPath 32 = .ok (.ifCond .ge 77, 3) := by decide +kernel
theorem dX5_goPath_35 : decode cX5_goPath 35 = .ok (.aload_n 0, 1) := by decide +kernel
theorem dX5_goPath_36 : decode cX5_goPath 36 = .ok (.aload_n 0, 1) := by decide +kernel
theorem dX5_goPath_37 : decode cX5_goPath 37 = .ok (.getfield 166, 3) := by decide +kernel
theorem dX5_goPath_40 : decode cX5_goPath 40 = .ok (.aload_n 0, 1) := by decide +kernel
theorem dX5_goPath_41 : decode cX5_goPath 41 = .ok (.getfield 47, 3) := by decide +kernel
theorem dX5_goPath_44 : decode cX5_goPath 44 = .ok (.iload_n 3, 1) := by decide +kernel
theorem dX5_goPath_45 : decode cX5_goPath 45 = .ok (.iload 5, 2) := by decide +kernel
theorem dX5_goPath_47 : decode cX5_goPath 47 = .ok (.iadd, 1) := by decide +kernel
theorem dX5_goPath_48 : decode cX5_goPath 48 = .ok (.iaload, 1) := by decide +kernel
theorem dX5_goPath_49 : decode cX5_goPath 49 = .ok (.invokevirtual 172, 3) := by decide +kernel
theorem dX5_goPath_52 : decode cX5_goPath 52 = .ok (.istore 6, 2) := by decide +kernel
theorem dX5_goPath_54 : decode cX5_goPath 54 = .ok (.iload 6, 2) := by decide +kernel
theorem dX5_goPath_56 : decode cX5_goPath 56 = .ok (.ifCond .lt 19, 3) := by decide +kernel
theorem dX5_goPath_59 : decode cX5_goPath 59 = .ok (.iload_n 1, 1) := by decide +kernel
theorem dX5_goPath_60 : decode cX5_goPath 60 = .ok (.aload_n 0, 1) := by decide +kernel
theorem dX5_goPath_61 : decode cX5_goPath 61 = .ok (.getfield 169, 3) := by decide +kernel
theorem dX5_goPath_64 : decode cX5_goPath 64 = .ok (.iconst (-1), 1) := by decide +kernel
theorem dX5_goPath_65 : decode cX5_goPath 65 = .ok (.ixor, 1) := by decide +kernel
theorem dX5_goPath_66 : decode cX5_goPath 66 = .ok (.iand, 1) := by decide +kernel
theorem dX5_goPath_67 : decode cX5_goPath 67 = .ok (.iload 6, 2) := by decide +kernel
theorem dX5_goPath_69 : decode cX5_goPath 69 = .ok (.invokestatic 175, 3) := by decide +kernel
theorem dX5_goPath_72 : decode cX5_goPath 72 = .ok (.ifCond .ne 12, 3) := by decide +kernel
theorem dX5_goPath_75 : decode cX5_goPath 75 = .ok (.aload_n 0, 1) := by decide +kernel
theorem dX5_goPath_76 : decode cX5_goPath 76 = .ok (.iload 5, 2) := by decide +kernel
theorem dX5_goPath_78 : decode cX5_goPath 78 = .ok (.putfield 163, 3) := by decide +kernel
theorem dX5_goPath_81 : decode cX5_goPath 81 = .ok (.goto 22, 3) := by decide +kernel
theorem dX5_goPath_84 : decode cX5_goPath 84 = .ok (.aload_n 0, 1) := by decide +kernel
theorem dX5_goPath_85 : decode cX5_goPath 85 = .ok (.iload 6, 2) := by decide +kernel
theorem dX5_goPath_87 : decode cX5_goPath 87 = .ok (.putfield 166, 3) := by decide +kernel
theorem dX5_goPath_90 : decode cX5_goPath 90 = .ok (.aload_n 0, 1) := by decide +kernel
theorem dX5_goPath_91 : decode cX5_goPath 91 = .ok (.dup, 1) := by decide +kernel
theorem dX5_goPath_92 : decode cX5_goPath 92 = .ok (.getfield 169, 3) := by decide +kernel
theorem dX5_goPath_95 : decode cX5_goPath 95 = .ok (.iconst 1, 1) := by decide +kernel
theorem dX5_goPath_96 : decode cX5_goPath 96 = .ok (.iload 6, 2) := by decide +kernel
theorem dX5_goPath_98 : decode cX5_goPath 98 = .ok (.ishl, 1) := by decide +kernel
theorem dX5_goPath_99 : decode cX5_goPath 99 = .ok (.ior, 1) := by decide +kernel
theorem dX5_goPath_100 : decode cX5_goPath 100 = .ok (.putfield 169, 3) := by decide +kernel
theorem dX5_goPath_103 : decode cX5_goPath 103 = .ok (.iinc 5 1, 3) := by decide +kernel
theorem dX5_goPath_106 : decode cX5_goPath 106 = .ok (.goto (-85), 3) := by decide +kernel
theorem dX5_goPath_109 : decode cX5_goPath 109 = .ok (.return_, 1) := by decide +kernel
set_option maxRecDepth 20000 in
theorem ggX5_coatsOf_X5_cells : GoodIn wsX5_coatsOf wsX5_cells := goodIn_r _ [5, 6, 7, 22, 23, 24, 25, 26, 27, 28, 29, 30, 31, 32, 33, 34, 35, 36, 37, 38, 39, 40, 41, 42, 43, 44, 45, 46, 47, 48, 49, 50, 51] (by decide +kernel) (by decide +kernel)
set_option maxRecDepth 20000 in
theorem gX5_coatsOf_X5_cells : GoodIn wsX5_coatsOf (wsV RX5 69 RX5 yX5_cells wsX5_cells) := goodIn_app (goodIn_of _ (by decide +kernel)) ggX5_coatsOf_X5_cells
set_option maxRecDepth 20000 in
theorem ggX5_coatsOf_X5_isIn : GoodIn wsX5_coatsOf wsX5_isIn := goodIn_r _ [10] (by decide +kernel) (by decide +kernel)
set_option maxRecDepth 20000 in
theorem gX5_coatsOf_X5_isIn : GoodIn wsX5_coatsOf (va_wsS RX5 175 yX5_isIn wsX5_isIn) := goodIn_app (goodIn_of _ (by decide +kernel)) ggX5_coatsOf_X5_isIn
set_option maxRecDepth 20000 in
theorem ggX5_coatsOf_X5_coatOf : GoodIn wsX5_coatsOf wsX5_coatOf := goodIn_r _ [14, 15, 16, 17, 18, 19, 4, 20, 21, 22, 23, 24, 25, 26, 27, 28, 29, 30, 31, 32, 33, 34, 35, 36, 37, 38, 39, 40, 41, 42, 43, 44, 45, 46, 47, 48, 49, 50, 51] (by decide +kernel) (by decide +kernel)
set_option maxRecDepth 20000 in
theorem gX5_coatsOf_X5_coatOf : GoodIn wsX5_coatsOf (wsV RX5 147 RX5 yX5_coatOf wsX5_coatOf) := goodIn_app (goodIn_of _ (by decide +kernel)) ggX5_coatsOf_X5_coatOf
theorem dX5_coatsOf_0 : decode cX5_coatsOf 0 = .ok (.iconst 0, 1) := by decide +kernel
theorem dX5_coatsOf_1 : decode cX5_coatsOf 1 = .ok (.istore_n 3, 1) := by decide +kernel
theorem dX5_coatsOf_2 : decode cX5_coatsOf 2 = .ok (.iconst 0, 1) := by decide +kernel
theorem dX5_coatsOf_3 : decode cX5_coatsOf 3 = .ok (.istore 4, 2) := by decide +kernel
theorem dX5_coatsOf_5 : decode cX5_coatsOf 5 = .ok (.iload 4, 2) := by decide +kernel
theorem dX5_coatsOf_7 : decode cX5_coatsOf 7 = .ok (.aload_n 0, 1) := by decide +kernel
theorem dX5_coatsOf_8 : decode cX5_coatsOf 8 = .ok (.invokevirtual 69, 3) := by decide +kernel
theorem dX5_coatsOf_11 : decode cX5_coatsOf 11 = .ok (.if_icmp .ge 32, 3) := by decide +kernel
theorem dX5_coatsOf_14 : decode cX5_coatsOf 14 = .ok (.iload_n 3, 1) := by decide +kernel
theorem dX5_coatsOf_15 : decode cX5_coatsOf 15 = .ok (.iload_n 1, 1) := by decide +kernel
theorem dX5_coatsOf_16 : decode cX5_coatsOf 16 = .ok (.iload 4, 2) := by decide +kernel
theorem dX5_coatsOf_18 : decode cX5_coatsOf 18 = .ok (.invokestatic 175, 3) := by decide +kernel
theorem dX5_coatsOf_21 : decode cX5_coatsOf 21 = .ok (.ifCond .eq 13, 3) := by decide +kernel
theorem dX5_coatsOf_24 : decode cX5_coatsOf 24 = .ok (.aload_n 0, 1) := by decide +kernel
theorem dX5_coatsOf_25 : decode cX5_coatsOf 25 = .ok (.iload 4, 2) := by decide +kernel
theorem dX5_coatsOf_27 : decode cX5_coatsOf 27 = .ok (.iload_n 2, 1) := by decide +kernel
theorem dX5_coatsOf_28 : decode cX5_coatsOf 28 = .ok (.invokevirtual 147, 3) := by decide +kernel
theorem dX5_coatsOf_31 : decode cX5_coatsOf 31 = .ok (.goto 4, 3) := by decide +kernel
theorem dX5_coatsOf_34 : decode cX5_coatsOf 34 = .ok (.iconst 0, 1) := by decide +kernel
theorem dX5_coatsOf_35 : decode cX5_coatsOf 35 = .ok (.iadd, 1) := by decide +kernel
theorem dX5_coatsOf_36 : decode cX5_coatsOf 36 = .ok (.istore_n 3, 1) := by decide +kernel
theorem dX5_coatsOf_37 : decode cX5_coatsOf 37 = .ok (.iinc 4 1, 3) := by decide +kernel
theorem dX5_coatsOf_40 : decode cX5_coatsOf 40 = .ok (.goto (-35), 3) := by decide +kernel
theorem dX5_coatsOf_43 : decode cX5_coatsOf 43 = .ok (.iload_n 3, 1) := by decide +kernel
theorem dX5_coatsOf_44 : decode cX5_coatsOf 44 = .ok (.ireturn, 1) := by decide +kernel
set_option maxRecDepth 20000 in
theorem ggX5_path_X5_noPlace : GoodIn wsX5_path wsX5_noPlace := goodIn_r _ [12, 13, 14, 15, 11, 16, 17, 18, 19, 20, 21, 78, 79, 80, 81, 82, 83, 84, 85, 86, 87, 88, 89, 90, 91, 92, 93, 94, 95, 96, 97, 98, 99, 100, 101, 102, 103, 104, 105, 106, 107] (by decide +kernel) (by decide +kernel)
set_option maxRecDepth 20000 in
theorem gX5_path_X5_noPlace : GoodIn wsX5_path (wsV RX5 77 RX5 yX5_noPlace wsX5_noPlace) := goodIn_app (goodIn_of _ (by decide +kernel)) ggX5_path_X5_noPlace
set_option maxRecDepth 20000 in
theorem ggX5_path_X5_noSheet : GoodIn wsX5_path wsX5_noSheet := goodIn_r _ [24, 3, 19, 20, 11, 21] (by decide +kernel) (by decide +kernel)
set_option maxRecDepth 20000 in
theorem gX5_path_X5_noSheet : GoodIn wsX5_path (va_wsS RX5 116 yX5_noSheet wsX5_noSheet) := goodIn_app (goodIn_of _ (by decide +kernel)) ggX5_path_X5_noSheet
set_option maxRecDepth 20000 in
theorem ggX5_path_X5_refused : GoodIn wsX5_path wsX5_refused := goodIn_r _ [28, 29, 78, 79, 80, 81, 82, 83, 84, 85, 86, 87, 88, 89, 90, 91, 92, 93, 94, 95, 96, 97, 98, 99, 100, 101, 102, 103, 104, 105, 106, 107] (by decide +kernel) (by decide +kernel)
set_option maxRecDepth 20000 in
theorem gX5_path_X5_refused : GoodIn wsX5_path (wsV RX5 119 RX5 yX5_refused wsX5_refused) := goodIn_app (goodIn_of _ (by decide +kernel)) ggX5_path_X5_refused
set_option maxRecDepth 20000 in
theorem ggX5_path_X5_noWeeks : GoodIn wsX5_path wsX5_noWeeks := goodIn_r _ [32, 33, 19, 20, 11, 21] (by decide +kernel) (by decide +kernel)
set_option maxRecDepth 20000 in
theorem gX5_path_X5_noWeeks : GoodIn wsX5_path (va_wsS RX5 157 yX5_noWeeks wsX5_noWeeks) := goodIn_app (goodIn_of _ (by decide +kernel)) ggX5_path_X5_noWeeks
set_option maxRecDepth 20000 in
theorem ggX5_path_X5_in : GoodIn wsX5_path wsX5_in := goodIn_r _ [21] (by decide +kernel) (by decide +kernel)
set_option maxRecDepth 20000 in
theorem gX5_path_X5_in : GoodIn wsX5_path (va_wsS RX5 73 yX5_in wsX5_in) := goodIn_app (goodIn_of _ (by decide +kernel)) ggX5_path_X5_in
set_option maxRecDepth 20000 in
theorem ggX5_path_X5_ripeBy : GoodIn wsX5_path wsX5_ripeBy := goodIn_r _ [37, 38, 13, 14, 15, 11, 16, 17, 18, 39, 40, 41, 42, 43, 44, 45, 46, 47, 48, 49, 78, 79, 80, 81, 82, 83, 84, 85, 86, 87, 88, 89, 90, 91, 92, 93, 94, 95, 96, 97, 98, 99, 100, 101, 102, 103, 104, 105, 106, 107] (by decide +kernel) (by decide +kernel)
set_option maxRecDepth 20000 in
theorem gX5_path_X5_ripeBy : GoodIn wsX5_path (wsV RX5 160 RX5 yX5_ripeBy wsX5_ripeBy) := goodIn_app (goodIn_of _ (by decide +kernel)) ggX5_path_X5_ripeBy
set_option maxRecDepth 20000 in
theorem ggX5_path_X5_isIn : GoodIn wsX5_path wsX5_isIn := goodIn_r _ [52] (by decide +kernel) (by decide +kernel)
set_option maxRecDepth 20000 in
theorem gX5_path_X5_isIn : GoodIn wsX5_path (va_wsS RX5 175 yX5_isIn wsX5_isIn) := goodIn_app (goodIn_of _ (by decide +kernel)) ggX5_path_X5_isIn
set_option maxRecDepth 20000 in
theorem ggX5_path_X5_cellsBarred : GoodIn wsX5_path wsX5_cellsBarred := goodIn_r _ [56, 57, 58, 59, 60, 61, 11, 62, 29, 63, 64, 65, 78, 79, 80, 81, 82, 83, 84, 85, 86, 87, 88, 89, 90, 91, 92, 93, 94, 95, 96, 97, 98, 99, 100, 101, 102, 103, 104, 105, 106, 107] (by decide +kernel) (by decide +kernel)
set_option maxRecDepth 20000 in
theorem gX5_path_X5_cellsBarred : GoodIn wsX5_path (wsV RX5 124 RX5 yX5_cellsBarred wsX5_cellsBarred) := goodIn_app (goodIn_of _ (by decide +kernel)) ggX5_path_X5_cellsBarred
set_option maxRecDepth 20000 in
theorem ggX5_path_X5_goPath : GoodIn wsX5_path wsX5_goPath := goodIn_r _ [69, 5, 6, 7, 4, 70, 71, 72, 11, 73, 18, 17, 19, 20, 21, 50, 51, 52, 78, 79, 80, 81, 82, 83, 84, 85, 86, 87, 88, 89, 90, 91, 92, 93, 94, 95, 96, 97, 98, 99, 100, 101, 102, 103, 104, 105, 106, 107] (by decide +kernel) (by decide +kernel)
set_option maxRecDepth 20000 in
theorem gX5_path_X5_goPath : GoodIn wsX5_path (wsV RX5 180 RX5 yX5_goPath wsX5_goPath) := goodIn_app (goodIn_of _ (by decide +kernel)) ggX5_path_X5_goPath
set_option maxRecDepth 20000 in
theorem ggX5_path_X5_coatsOf : GoodIn wsX5_path wsX5_coatsOf := goodIn_r _ [77, 13, 14, 15, 11, 16, 17, 18, 50, 51, 52, 39, 40, 41, 42, 43, 44, 45, 46, 47, 48, 49, 78, 79, 80, 81, 82, 83, 84, 85, 86, 87, 88, 89, 90, 91, 92, 93, 94, 95, 96, 97, 98, 99, 100, 101, 102, 103, 104, 105, 106, 107] (by decide +kernel) (by decide +kernel)
set_option maxRecDepth 20000 in
theorem gX5_path_X5_coatsOf : GoodIn wsX5_path (wsV RX5 184 RX5 yX5_coatsOf wsX5_coatsOf) := goodIn_app (goodIn_of _ (by decide +kernel)) ggX5_path_X5_coatsOf
theorem dX5_path_0 : decode cX5_path 0 = .ok (.aload_n 0, 1) := by decide +kernel
theorem dX5_path_1 : decode cX5_path 1 = .ok (.iload_n 2, 1) := by decide +kernel
theorem dX5_path_2 : decode cX5_path 2 = .ok (.invokevirtual 77, 3) := by decide +kernel
theorem dX5_path_5 : decode cX5_path 5 = .ok (.ifCond .ne 10, 3) := by decide +kernel
theorem dX5_path_8 : decode cX5_path 8 = .ok (.iload_n 3, 1) := by decide +kernel
theorem dX5_path_9 : decode cX5_path 9 = .ok (.invokestatic 116, 3) := by decide +kernel
theorem dX5_path_12 : decode cX5_path 12 = .ok (.ifCond .eq 9, 3) := by decide +kernel
theorem dX5_path_15 : decode cX5_path 15 = .ok (.aload_n 0, 1) := by decide +kernel
theorem dX5_path_16 : decode cX5_path 16 = .ok (.iconst (-1), 1) := by decide +kernel
theorem dX5_path_17 : decode cX5_path 17 = .ok (.invokevirtual 119, 3) := by decide +kernel
theorem dX5_path_20 : decode cX5_path 20 = .ok (.ireturn, 1) := by decide +kernel
theorem dX5_path_21 : decode cX5_path 21 = .ok (.iload_n 1, 1) := by decide +kernel
theorem dX5_path_22 : decode cX5_path 22 = .ok (.invokestatic 157, 3) := by decide +kernel
theorem dX5_path_25 : decode cX5_path 25 = .ok (.ifCond .ne 42, 3) := by decide +kernel
theorem dX5_path_28 : decode cX5_path 28 = .ok (.iload 4, 2) := by decide +kernel
theorem dX5_path_30 : decode cX5_path 30 = .ok (.i2l, 1) := by decide +kernel
theorem dX5_path_31 : decode cX5_path 31 = .ok (.lconst 0, 1) := by decide +kernel
theorem dX5_path_32 : decode cX5_path 32 = .ok (.ldc2_w 122, 3) := by decide +kernel
theorem dX5_path_35 : decode cX5_path 35 = .ok (.invokestatic 73, 3) := by decide +kernel
theorem dX5_path_38 : decode cX5_path 38 = .ok (.ifCond .eq 29, 3) := by decide +kernel
theorem dX5_path_41 : decode cX5_path 41 = .ok (.iload 6, 2) := by decide +kernel
theorem dX5_path_43 : decode cX5_path 43 = .ok (.i2l, 1) := by decide +kernel
theorem dX5_path_44 : decode cX5_path 44 = .ok (.lconst 0, 1) := by decide +kernel
theorem dX5_path_45 : decode cX5_path 45 = .ok (.ldc2_w 178, 3) := by decide +kernel
theorem dX5_path_48 : decode cX5_path 48 = .ok (.invokestatic 73, 3) := by decide +kernel
theorem dX5_path_51 : decode cX5_path 51 = .ok (.ifCond .eq 16, 3) := by decide +kernel
theorem dX5_path_54 : decode cX5_path 54 = .ok (.iload 7, 2) := by decide +kernel
theorem dX5_path_56 : decode cX5_path 56 = .ok (.i2l, 1) := by decide +kernel
theorem dX5_path_57 : decode cX5_path 57 = .ok (.lconst 0, 1) := by decide +kernel
theorem dX5_path_58 : decode cX5_path 58 = .ok (.ldc2_w 155, 3) := by decide +kernel
theorem dX5_path_61 : decode cX5_path 61 = .ok (.invokestatic 73, 3) := by decide +kernel
theorem dX5_path_64 : decode cX5_path 64 = .ok (.ifCond .ne 10, 3) := by decide +kernel
theorem dX5_path_67 : decode cX5_path 67 = .ok (.aload_n 0, 1) := by decide +kernel
theorem dX5_path_68 : decode cX5_path 68 = .ok (.bipush (-2), 2) := by decide +kernel
theorem dX5_path_70 : decode cX5_path 70 = .ok (.invokevirtual 119, 3) := by decide +kernel
theorem dX5_path_73 : decode cX5_path 73 = .ok (.ireturn, 1) := by decide +kernel
theorem dX5_path_74 : decode cX5_path 74 = .ok (.aload_n 0, 1) := by decide +kernel
theorem dX5_path_75 : decode cX5_path 75 = .ok (.iload_n 1, 1) := by decide +kernel
theorem dX5_path_76 : decode cX5_path 76 = .ok (.invokevirtual 160, 3) := by decide +kernel
theorem dX5_path_79 : decode cX5_path 79 = .ok (.iload_n 2, 1) := by decide +kernel
theorem dX5_path_80 : decode cX5_path 80 = .ok (.invokestatic 175, 3) := by decide +kernel
theorem dX5_path_83 : decode cX5_path 83 = .ok (.ifCond .ne 10, 3) := by decide +kernel
theorem dX5_path_86 : decode cX5_path 86 = .ok (.aload_n 0, 1) := by decide +kernel
theorem dX5_path_87 : decode cX5_path 87 = .ok (.bipush (-3), 2) := by decide +kernel
theorem dX5_path_89 : decode cX5_path 89 = .ok (.invokevirtual 119, 3) := by decide +kernel
theorem dX5_path_92 : decode cX5_path 92 = .ok (.ireturn, 1) := by decide +kernel
theorem dX5_path_93 : decode cX5_path 93 = .ok (.aload_n 0, 1) := by decide +kernel
theorem dX5_path_94 : decode cX5_path 94 = .ok (.iload_n 3, 1) := by decide +kernel
theorem dX5_path_95 : decode cX5_path 95 = .ok (.iload 4, 2) := by decide +kernel
theorem dX5_path_97 : decode cX5_path 97 = .ok (.iload 5, 2) := by decide +kernel
theorem dX5_path_99 : decode cX5_path 99 = .ok (.iload 6, 2) := by decide +kernel
theorem dX5_path_101 : decode cX5_path 101 = .ok (.i2l, 1) := by decide +kernel
theorem dX5_path_102 : decode cX5_path 102 = .ok (.invokevirtual 124, 3) := by decide +kernel
theorem dX5_path_105 : decode cX5_path 105 = .ok (.istore 8, 2) := by decide +kernel
theorem dX5_path_107 : decode cX5_path 107 = .ok (.iload 8, 2) := by decide +kernel
theorem dX5_path_109 : decode cX5_path 109 = .ok (.ifCond .ge 6, 3) := by decide +kernel
theorem dX5_path_112 : decode cX5_path 112 = .ok (.iload 8, 2) := by decide +kernel
theorem dX5_path_114 : decode cX5_path 114 = .ok (.ireturn, 1) := by decide +kernel
theorem dX5_path_115 : decode cX5_path 115 = .ok (.iconst 0, 1) := by decide +kernel
theorem dX5_path_116 : decode cX5_path 116 = .ok (.istore 9, 2) := by decide +kernel
theorem dX5_path_118 : decode cX5_path 118 = .ok (.iload 9, 2) := by decide +kernel
theorem dX5_path_120 : decode cX5_path 120 = .ok (.iload 6, 2) := by decide +kernel
theorem dX5_path_122 : decode cX5_path 122 = .ok (.if_icmp .ge 42, 3) := by decide +kernel
theorem dX5_path_125 : decode cX5_path 125 = .ok (.aload_n 0, 1) := by decide +kernel
theorem dX5_path_126 : decode cX5_path 126 = .ok (.getfield 47, 3) := by decide +kernel
theorem dX5_path_129 : decode cX5_path 129 = .ok (.bipush 60, 2) := by decide +kernel
theorem dX5_path_131 : decode cX5_path 131 = .ok (.iload_n 3, 1) := by decide +kernel
theorem dX5_path_132 : decode cX5_path 132 = .ok (.imul, 1) := by decide +kernel
theorem dX5_path_133 : decode cX5_path 133 = .ok (.iload 5, 2) := by decide +kernel
theorem dX5_path_135 : decode cX5_path 135 = .ok (.iadd, 1) := by decide +kernel
theorem dX5_path_136 : decode cX5_path 136 = .ok (.iload 9, 2) := by decide +kernel
theorem dX5_path_138 : decode cX5_path 138 = .ok (.iadd, 1) := by decide +kernel
theorem dX5_path_139 : decode cX5_path 139 = .ok (.iaload, 1) := by decide +kernel
theorem dX5_path_140 : decode cX5_path 140 = .ok (.i2l, 1) := by decide +kernel
theorem dX5_path_141 : decode cX5_path 141 = .ok (.lconst 0, 1) := by decide +kernel
theorem dX5_path_142 : decode cX5_path 142 = .ok (.ldc2_w 155, 3) := by decide +kernel
theorem dX5_path_145 : decode cX5_path 145 = .ok (.invokestatic 73, 3) := by decide +kernel
theorem dX5_path_148 : decode cX5_path 148 = .ok (.ifCond .ne 10, 3) := by decide +kernel
theorem dX5_path_151 : decode cX5_path 151 = .ok (.aload_n 0, 1) := by decide +kernel
theorem dX5_path_152 : decode cX5_path 152 = .ok (.bipush (-2), 2) := by decide +kernel
theorem dX5_path_154 : decode cX5_path 154 = .ok (.invokevirtual 119, 3) := by decide +kernel
theorem dX5_path_157 : decode cX5_path 157 = .ok (.ireturn, 1) := by decide +kernel
theorem dX5_path_158 : decode cX5_path 158 = .ok (.iinc 9 1, 3) := by decide +kernel
theorem dX5_path_161 : decode cX5_path 161 = .ok (.goto (-43), 3) := by decide +kernel
theorem dX5_path_164 : decode cX5_path 164 = .ok (.aload_n 0, 1) := by decide +kernel
theorem dX5_path_165 : decode cX5_path 165 = .ok (.aload_n 0, 1) := by decide +kernel
theorem dX5_path_166 : decode cX5_path 166 = .ok (.iload_n 1, 1) := by decide +kernel
theorem dX5_path_167 : decode cX5_path 167 = .ok (.invokevirtual 160, 3) := by decide +kernel
theorem dX5_path_170 : decode cX5_path 170 = .ok (.iload_n 2, 1) := by decide +kernel
theorem dX5_path_171 : decode cX5_path 171 = .ok (.bipush 60, 2) := by decide +kernel
theorem dX5_path_173 : decode cX5_path 173 = .ok (.iload_n 3, 1) := by decide +kernel
theorem dX5_path_174 : decode cX5_path 174 = .ok (.imul, 1) := by decide +kernel
theorem dX5_path_175 : decode cX5_path 175 = .ok (.iload 5, 2) := by decide +kernel
theorem dX5_path_177 : decode cX5_path 177 = .ok (.iadd, 1) := by decide +kernel
theorem dX5_path_178 : decode cX5_path 178 = .ok (.iload 6, 2) := by decide +kernel
theorem dX5_path_180 : decode cX5_path 180 = .ok (.invokevirtual 180, 3) := by decide +kernel
theorem dX5_path_183 : decode cX5_path 183 = .ok (.iload 7, 2) := by decide +kernel
theorem dX5_path_185 : decode cX5_path 185 = .ok (.iconst 1, 1) := by decide +kernel
theorem dX5_path_186 : decode cX5_path 186 = .ok (.if_icmp .ne 12, 3) := by decide +kernel
theorem dX5_path_189 : decode cX5_path 189 = .ok (.aload_n 0, 1) := by decide +kernel
theorem dX5_path_190 : decode cX5_path 190 = .ok (.aload_n 0, 1) := by decide +kernel
theorem dX5_path_191 : decode cX5_path 191 = .ok (.getfield 163, 3) := by decide +kernel
theorem dX5_path_194 : decode cX5_path 194 = .ok (.invokevirtual 119, 3) := by decide +kernel
theorem dX5_path_197 : decode cX5_path 197 = .ok (.ireturn, 1) := by decide +kernel
theorem dX5_path_198 : decode cX5_path 198 = .ok (.aload_n 0, 1) := by decide +kernel
theorem dX5_path_199 : decode cX5_path 199 = .ok (.getfield 163, 3) := by decide +kernel
theorem dX5_path_202 : decode cX5_path 202 = .ok (.ifCond .lt 15, 3) := by decide +kernel
theorem dX5_path_205 : decode cX5_path 205 = .ok (.aload_n 0, 1) := by decide +kernel
theorem dX5_path_206 : decode cX5_path 206 = .ok (.bipush (-100), 2) := by decide +kernel
theorem dX5_path_208 : decode cX5_path 208 = .ok (.aload_n 0, 1) := by decide +kernel
theorem dX5_path_209 : decode cX5_path 209 = .ok (.getfield 163, 3) := by decide +kernel
theorem dX5_path_212 : decode cX5_path 212 = .ok (.isub, 1) := by decide +kernel
theorem dX5_path_213 : decode cX5_path 213 = .ok (.invokevirtual 119, 3) := by decide +kernel
theorem dX5_path_216 : decode cX5_path 216 = .ok (.ireturn, 1) := by decide +kernel
theorem dX5_path_217 : decode cX5_path 217 = .ok (.aload_n 0, 1) := by decide +kernel
theorem dX5_path_218 : decode cX5_path 218 = .ok (.iload 7, 2) := by decide +kernel
theorem dX5_path_220 : decode cX5_path 220 = .ok (.ifCond .ne 10, 3) := by decide +kernel
theorem dX5_path_223 : decode cX5_path 223 = .ok (.aload_n 0, 1) := by decide +kernel
theorem dX5_path_224 : decode cX5_path 224 = .ok (.getfield 166, 3) := by decide +kernel
theorem dX5_path_227 : decode cX5_path 227 = .ok (.goto 25, 3) := by decide +kernel
theorem dX5_path_230 : decode cX5_path 230 = .ok (.iload 7, 2) := by decide +kernel
theorem dX5_path_232 : decode cX5_path 232 = .ok (.iconst 2, 1) := by decide +kernel
theorem dX5_path_233 : decode cX5_path 233 = .ok (.if_icmp .ne 10, 3) := by decide +kernel
theorem dX5_path_236 : decode cX5_path 236 = .ok (.aload_n 0, 1) := by decide +kernel
theorem dX5_path_237 : decode cX5_path 237 = .ok (.getfield 169, 3) := by decide +kernel
theorem dX5_path_240 : decode cX5_path 240 = .ok (.goto 12, 3) := by decide +kernel
theorem dX5_path_243 : decode cX5_path 243 = .ok (.aload_n 0, 1) := by decide +kernel
theorem dX5_path_244 : decode cX5_path 244 = .ok (.aload_n 0, 1) := by decide +kernel
theorem dX5_path_245 : decode cX5_path 245 = .ok (.getfield 169, 3) := by decide +kernel
theorem dX5_path_248 : decode cX5_path 248 = .ok (.iload_n 1, 1) := by decide +kernel
theorem dX5_path_249 : decode cX5_path 249 = .ok (.invokevirtual 184, 3) := by decide +kernel
theorem dX5_path_252 : decode cX5_path 252 = .ok (.invokevirtual 119, 3) := by decide +kernel
theorem dX5_path_255 : decode cX5_path 255 = .ok (.ireturn, 1) := by decide +kernel
set_option maxRecDepth 20000 in
theorem ggX5_goFleece_X5_bits : GoodIn wsX5_goFleece wsX5_bits := goodIn_r _ [8] (by decide +kernel) (by decide +kernel)
set_option maxRecDepth 20000 in
theorem gX5_goFleece_X5_bits : GoodIn wsX5_goFleece (va_wsS RX5 190 yX5_bits wsX5_bits) := goodIn_app (goodIn_of _ (by decide +kernel)) ggX5_goFleece_X5_bits
set_option maxRecDepth 20000 in
theorem ggX5_goFleece_X5_beside : GoodIn wsX5_goFleece wsX5_beside := goodIn_r _ [12, 13, 14, 15, 16, 7, 17, 21, 22, 23, 24, 25, 26, 27, 28, 29, 30, 31, 32, 33, 34, 35, 36, 37, 38, 39, 40, 41, 42, 43, 44, 45, 46, 47, 48, 49, 50] (by decide +kernel) (by decide +kernel)
set_option maxRecDepth 20000 in
theorem gX5_goFleece_X5_beside : GoodIn wsX5_goFleece (wsV RX5 172 RX5 yX5_beside wsX5_beside) := goodIn_app (goodIn_of _ (by decide +kernel)) ggX5_goFleece_X5_beside
set_option maxRecDepth 20000 in
theorem ggX5_goFleece_X5_isIn : GoodIn wsX5_goFleece wsX5_isIn := goodIn_r _ [20] (by decide +kernel) (by decide +kernel)
set_option maxRecDepth 20000 in
theorem gX5_goFleece_X5_isIn : GoodIn wsX5_goFleece (va_wsS RX5 175 yX5_isIn wsX5_isIn) := goodIn_app (goodIn_of _ (by decide +kernel)) ggX5_goFleece_X5_isIn
theorem dX5_goFleece_0 : decode cX5_goFleece 0 = .ok (.iconst 0, 1) := by decide +kernel
theorem dX5_goFleece_1 : decode cX5_goFleece 1 = .ok (.istore_n 3, 1) := by decide +kernel
theorem dX5_goFleece_2 : decode cX5_goFleece 2 = .ok (.iconst 1, 1) := by decide +kernel
theorem dX5_goFleece_3 : decode cX5_goFleece 3 = .ok (.iload_n 2, 1) := by decide +kernel
theorem dX5_goFleece_4 : decode cX5_goFleece 4 = .ok (.ishl, 1) := by decide +kernel
theorem dX5_goFleece_5 : decode cX5_goFleece 5 = .ok (.istore 4, 2) := by decide +kernel
theorem dX5_goFleece_7 : decode cX5_goFleece 7 = .ok (.aload_n 0, 1) := by decide +kernel
theorem dX5_goFleece_8 : decode cX5_goFleece 8 = .ok (.getfield 19, 3) := by decide +kernel
theorem dX5_goFleece_11 : decode cX5_goFleece 11 = .ok (.iconst 0, 1) := by decide +kernel
theorem dX5_goFleece_12 : decode cX5_goFleece 12 = .ok (.iload_n 2, 1) := by decide +kernel
theorem dX5_goFleece_13 : decode cX5_goFleece 13 = .ok (.iastore, 1) := by decide +kernel
theorem dX5_goFleece_14 : decode cX5_goFleece 14 = .ok (.aload_n 0, 1) := by decide +kernel
theorem dX5_goFleece_15 : decode cX5_goFleece 15 = .ok (.getfield 22, 3) := by decide +kernel
theorem dX5_goFleece_18 : decode cX5_goFleece 18 = .ok (.iconst 0, 1) := by decide +kernel
theorem dX5_goFleece_19 : decode cX5_goFleece 19 = .ok (.iconst 0, 1) := by decide +kernel
theorem dX5_goFleece_20 : decode cX5_goFleece 20 = .ok (.iastore, 1) := by decide +kernel
theorem dX5_goFleece_21 : decode cX5_goFleece 21 = .ok (.aload_n 0, 1) := by decide +kernel
theorem dX5_goFleece_22 : decode cX5_goFleece 22 = .ok (.iconst 1, 1) := by decide +kernel
theorem dX5_goFleece_23 : decode cX5_goFleece 23 = .ok (.putfield 187, 3) := by decide +kernel
theorem dX5_goFleece_26 : decode cX5_goFleece 26 = .ok (.iload_n 1, 1) := by decide +kernel
theorem dX5_goFleece_27 : decode cX5_goFleece 27 = .ok (.invokestatic 190, 3) := by decide +kernel
theorem dX5_goFleece_30 : decode cX5_goFleece 30 = .ok (.istore 5, 2) := by decide +kernel
theorem dX5_goFleece_32 : decode cX5_goFleece 32 = .ok (.iload_n 3, 1) := by decide +kernel
theorem dX5_goFleece_33 : decode cX5_goFleece 33 = .ok (.ifCond .lt 168, 3) := by decide +kernel
theorem dX5_goFleece_36 : decode cX5_goFleece 36 = .ok (.aload_n 0, 1) := by decide +kernel
theorem dX5_goFleece_37 : decode cX5_goFleece 37 = .ok (.getfield 187, 3) := by decide +kernel
theorem dX5_goFleece_40 : decode cX5_goFleece 40 = .ok (.iload 5, 2) := by decide +kernel
theorem dX5_goFleece_42 : decode cX5_goFleece 42 = .ok (.if_icmp .ge 159, 3) := by decide +kernel
theorem dX5_goFleece_45 : decode cX5_goFleece 45 = .ok (.aload_n 0, 1) := by decide +kernel
theorem dX5_goFleece_46 : decode cX5_goFleece 46 = .ok (.getfield 22, 3) := by decide +kernel
theorem dX5_goFleece_49 : decode cX5_goFleece 49 = .ok (.iload_n 3, 1) := by decide +kernel
theorem dX5_goFleece_50 : decode cX5_goFleece 50 = .ok (.iaload, 1) := by decide +kernel
theorem dX5_goFleece_51 : decode cX5_goFleece 51 = .ok (.istore 6, 2) := by decide +kernel
theorem dX5_goFleece_53 : decode cX5_goFleece 53 = .ok (.iload 6, 2) := by decide +kernel
theorem dX5_goFleece_55 : decode cX5_goFleece 55 = .ok (.iconst 3, 1) := by decide +kernel
theorem dX5_goFleece_56 : decode cX5_goFleece 56 = .ok (.if_icmp .le 24, 3) := by decide +kernel
theorem dX5_goFleece_59 : decode cX5_goFleece 59 = .ok (.iload 4, 2) := by decide +kernel
theorem dX5_goFleece_61 : decode cX5_goFleece 61 = .ok (.iconst 1, 1) := by decide +kernel
theorem dX5_goFleece_62 : decode cX5_goFleece 62 = .ok (.aload_n 0, 1) := by decide +kernel
theorem dX5_goFleece_63 : decode cX5_goFleece 63 = .ok (.getfield 19, 3) := by decide +kernel
theorem dX5_goFleece_66 : decode cX5_goFleece 66 = .ok (.iload_n 3, 1) := by decide +kernel
theorem dX5_goFleece_67 : decode cX5_goFleece 67 = .ok (.iaload, 1) := by decide +kernel
theorem dX5_goFleece_68 : decode cX5_goFleece 68 = .ok (.ishl, 1) := by decide +kernel
theorem dX5_goFleece_69 : decode cX5_goFleece 69 = .ok (.iconst (-1), 1) := by decide +kernel
theorem dX5_goFleece_70 : decode cX5_goFleece 70 = .ok (.ixor, 1) := by decide +kernel
theorem dX5_goFleece_71 : decode cX5_goFleece 71 = .ok (.iand, 1) := by decide +kernel
theorem dX5_goFleece_72 : decode cX5_goFleece 72 = .ok (.istore 4, 2) := by decide +kernel
theorem dX5_goFleece_74 : decode cX5_goFleece 74 = .ok (.iinc 3 (-1), 3) := by decide +kernel
theorem dX5_goFleece_77 : decode cX5_goFleece 77 = .ok (.goto 121, 3) := by decide +kernel
theorem dX5_goFleece_80 : decode cX5_goFleece 80 = .ok (.aload_n 0, 1) := by decide +kernel
theorem dX5_goFleece_81 : decode cX5_goFleece 81 = .ok (.getfield 22, 3) := by decide +kernel
theorem dX5_goFleece_84 : decode cX5_goFleece 84 = .ok (.iload_n 3, 1) := by decide +kernel
theorem dX5_goFleece_85 : decode cX5_goFleece 85 = .ok (.dup2, 1) := by decide +kernel
theorem dX5_goFleece_86 : decode cX5_goFleece 86 = .ok (.iaload, 1) := by decide +kernel
theorem dX5_goFleece_87 : decode cX5_goFleece 87 = .ok (.iconst 1, 1) := by decide +kernel
theorem dX5_goFleece_88 : decode cX5_goFleece 88 = .ok (.iadd, 1) := by decide +kernel
theorem dX5_goFleece_89 : decode cX5_goFleece 89 = .ok (.iastore, 1) := by decide +kernel
theorem dX5_goFleece_90 : decode cX5_goFleece 90 = .ok (.aload_n 0, 1) := by decide +kernel
theorem dX5_goFleece_91 : decode cX5_goFleece 91 = .ok (.aload_n 0, 1) := by decide +kernel
theorem dX5_goFleece_92 : decode cX5_goFleece 92 = .ok (.getfield 19, 3) := by decide +kernel
theorem dX5_goFleece_95 : decode cX5_goFleece 95 = .ok (.iload_n 3, 1) := by decide +kernel
theorem dX5_goFleece_96 : decode cX5_goFleece 96 = .ok (.iaload, 1) := by decide +kernel
theorem dX5_goFleece_97 : decode cX5_goFleece 97 = .ok (.iload 6, 2) := by decide +kernel
theorem dX5_goFleece_99 : decode cX5_goFleece 99 = .ok (.invokevirtual 172, 3) := by decide +kernel
theorem dX5_goFleece_102 : decode cX5_goFleece 102 = .ok (.istore 7, 2) := by decide +kernel
theorem dX5_goFleece_104 : decode cX5_goFleece 104 = .ok (.iload 7, 2) := by decide +kernel
theorem dX5_goFleece_106 : decode cX5_goFleece 106 = .ok (.ifCond .lt 92, 3) := by decide +kernel
theorem dX5_goFleece_109 : decode cX5_goFleece 109 = .ok (.iload_n 1, 1) := by decide +kernel
theorem dX5_goFleece_110 : decode cX5_goFleece 110 = .ok (.iload 4, 2) := by decide +kernel
theorem dX5_goFleece_112 : decode cX5_goFleece 112 = .ok (.iconst (-1), 1) := by decide +kernel
theorem dX5_goFleece_113 : decode cX5_goFleece 113 = .ok (.ixor, 1) := by decide +kernel
theorem dX5_goFleece_114 : decode cX5_goFleece 114 = .ok (.iand, 1) := by decide +kernel
theorem dX5_goFleece_115 : decode cX5_goFleece 115 = .ok (.iload 7, 2) := by decide +kernel
theorem dX5_goFleece_117 : decode cX5_goFleece 117 = .ok (.invokestatic 175, 3) := by decide +kernel
theorem dX5_goFleece_120 : decode cX5_goFleece 120 = .ok (.ifCond .eq 78, 3) := by decide +kernel
theorem dX5_goFleece_123 : decode cX5_goFleece 123 = .ok (.iinc 3 1, 3) := by decide +kernel
theorem dX5_goFleece_126 : decode cX5_goFleece 126 = .ok (.iload 4, 2) := by decide +kernel
theorem dX5_goFleece_128 : decode cX5_goFleece 128 = .ok (.iconst 1, 1) := by decide +kernel
theorem dX5_goFleece_129 : decode cX5_goFleece 129 = .ok (.iload 7, 2) := by decide +kernel
theorem dX5_goFleece_131 : decode cX5_goFleece 131 = .ok (.ishl, 1) := by decide +kernel
theorem dX5_goFleece_132 : decode cX5_goFleece 132 = .ok (.ior, 1) := by decide +kernel
theorem dX5_goFleece_133 : decode cX5_goFleece 133 = .ok (.istore 4, 2) := by decide +kernel
theorem dX5_goFleece_135 : decode cX5_goFleece 135 = .ok (.aload_n 0, 1) := by decide +kernel
theorem dX5_goFleece_136 : decode cX5_goFleece 136 = .ok (.getfield 19, 3) := by decide +kernel
theorem dX5_goFleece_139 : decode cX5_goFleece 139 = .ok (.iload_n 3, 1) := by decide +kernel
theorem dX5_goFleece_140 : decode cX5_goFleece 140 = .ok (.iload 7, 2) := by decide +kernel
theorem dX5_goFleece_142 : decode cX5_goFleece 142 = .ok (.iastore, 1) := by decide +kernel
theorem dX5_goFleece_143 : decode cX5_goFleece 143 = .ok (.aload_n 0, 1) := by decide +kernel
theorem dX5_goFleece_144 : decode cX5_goFleece 144 = .ok (.getfield 22, 3) := by decide +kernel
theorem dX5_goFleece_147 : decode cX5_goFleece 147 = .ok (.iload_n 3, 1) := by decide +kernel
theorem dX5_goFleece_148 : decode cX5_goFleece 148 = .ok (.iconst 0, 1) := by decide +kernel
theorem dX5_goFleece_149 : decode cX5_goFleece 149 = .ok (.iastore, 1) := by decide +kernel
theorem dX5_goFleece_150 : decode cX5_goFleece 150 = .ok (.iload_n 3, 1) := by decide +kernel
theorem dX5_goFleece_151 : decode cX5_goFleece 151 = .ok (.iconst 1, 1) := by decide +kernel
theorem dX5_goFleece_152 : decode cX5_goFleece 152 = .ok (.iadd, 1) := by decide +kernel
theorem dX5_goFleece_153 : decode cX5_goFleece 153 = .ok (.aload_n 0, 1) := by decide +kernel
theorem dX5_goFleece_154 : decode cX5_goFleece 154 = .ok (.getfield 187, 3) := by decide +kernel
theorem dX5_goFleece_157 : decode cX5_goFleece 157 = .ok (.if_icmp .le 41, 3) := by decide +kernel
theorem dX5_goFleece_160 : decode cX5_goFleece 160 = .ok (.aload_n 0, 1) := by decide +kernel
theorem dX5_goFleece_161 : decode cX5_goFleece 161 = .ok (.iload_n 3, 1) := by decide +kernel
theorem dX5_goFleece_162 : decode cX5_goFleece 162 = .ok (.iconst 1, 1) := by decide +kernel
theorem dX5_goFleece_163 : decode cX5_goFleece 163 = .ok (.iadd, 1) := by decide +kernel
theorem dX5_goFleece_164 : decode cX5_goFleece 164 = .ok (.putfield 187, 3) := by decide +kernel
theorem dX5_goFleece_167 : decode cX5_goFleece 167 = .ok (.iconst 0, 1) := by decide +kernel
theorem dX5_goFleece_168 : decode cX5_goFleece 168 = .ok (.istore 8, 2) := by decide +kernel
theorem dX5_goFleece_170 : decode cX5_goFleece 170 = .ok (.iload 8, 2) := by decide +kernel
theorem dX5_goFleece_172 : decode cX5_goFleece 172 = .ok (.iload_n 3, 1) := by decide +kernel
theorem dX5_goFleece_173 : decode cX5_goFleece 173 = .ok (.if_icmp .ge 25, 3) := by decide +kernel
theorem dX5_goFleece_176 : decode cX5_goFleece 176 = .ok (.aload_n 0, 1) := by decide +kernel
theorem dX5_goFleece_177 : decode cX5_goFleece 177 = .ok (.getfield 25, 3) := by decide +kernel
theorem dX5_goFleece_180 : decode cX5_goFleece 180 = .ok (.iload 8, 2) := by decide +kernel
theorem dX5_goFleece_182 : decode cX5_goFleece 182 = .ok (.aload_n 0, 1) := by decide +kernel
theorem dX5_goFleece_183 : decode cX5_goFleece 183 = .ok (.getfield 22, 3) := by decide +kernel
theorem dX5_goFleece_186 : decode cX5_goFleece 186 = .ok (.iload 8, 2) := by decide +kernel
theorem dX5_goFleece_188 : decode cX5_goFleece 188 = .ok (.iaload, 1) := by decide +kernel
theorem dX5_goFleece_189 : decode cX5_goFleece 189 = .ok (.iconst 1, 1) := by decide +kernel
theorem dX5_goFleece_190 : decode cX5_goFleece 190 = .ok (.isub, 1) := by decide +kernel
theorem dX5_goFleece_191 : decode cX5_goFleece 191 = .ok (.iastore, 1) := by decide +kernel
theorem dX5_goFleece_192 : decode cX5_goFleece 192 = .ok (.iinc 8 1, 3) := by decide +kernel
theorem dX5_goFleece_195 : decode cX5_goFleece 195 = .ok (.goto (-25), 3) := by decide +kernel
theorem dX5_goFleece_198 : decode cX5_goFleece 198 = .ok (.goto (-166), 3) := by decide +kernel
theorem dX5_goFleece_201 : decode cX5_goFleece 201 = .ok (.return_, 1) := by decide +kernel
set_option maxRecDepth 20000 in
theorem ggX5_fleece_X5_noPlace : GoodIn wsX5_fleece wsX5_noPlace := goodIn_r _ [9, 10, 11, 12, 8, 13, 14, 15, 16, 17, 18, 55, 56, 57, 58, 59, 60, 61, 62, 63, 64, 65, 66, 67, 68, 69, 70, 71, 72, 73, 74, 75, 76, 77, 78, 79, 80, 81, 82, 83, 84] (by decide +kernel) (by decide +kernel)
set_option maxRecDepth 20000 in
theorem gX5_fleece_X5_noPlace : GoodIn wsX5_fleece (wsV RX5 77 RX5 yX5_noPlace wsX5_noPlace) := goodIn_app (goodIn_of _ (by decide +kernel)) ggX5_fleece_X5_noPlace
set_option maxRecDepth 20000 in
theorem ggX5_fleece_X5_noWeeks : GoodIn wsX5_fleece wsX5_noWeeks := goodIn_r _ [21, 22, 16, 17, 8, 18] (by decide +kernel) (by decide +kernel)
set_option maxRecDepth 20000 in
theorem gX5_fleece_X5_noWeeks : GoodIn wsX5_fleece (va_wsS RX5 157 yX5_noWeeks wsX5_noWeeks) := goodIn_app (goodIn_of _ (by decide +kernel)) ggX5_fleece_X5_noWeeks
set_option maxRecDepth 20000 in
theorem ggX5_fleece_X5_in : GoodIn wsX5_fleece wsX5_in := goodIn_r _ [18] (by decide +kernel) (by decide +kernel)
set_option maxRecDepth 20000 in
theorem gX5_fleece_X5_in : GoodIn wsX5_fleece (va_wsS RX5 73 yX5_in wsX5_in) := goodIn_app (goodIn_of _ (by decide +kernel)) ggX5_fleece_X5_in
set_option maxRecDepth 20000 in
theorem ggX5_fleece_X5_ripeBy : GoodIn wsX5_fleece wsX5_ripeBy := goodIn_r _ [26, 27, 10, 11, 12, 8, 13, 14, 15, 28, 29, 30, 31, 32, 33, 34, 35, 36, 37, 38, 55, 56, 57, 58, 59, 60, 61, 62, 63, 64, 65, 66, 67, 68, 69, 70, 71, 72, 73, 74, 75, 76, 77, 78, 79, 80, 81, 82, 83, 84] (by decide +kernel) (by decide +kernel)
set_option maxRecDepth 20000 in
theorem gX5_fleece_X5_ripeBy : GoodIn wsX5_fleece (wsV RX5 160 RX5 yX5_ripeBy wsX5_ripeBy) := goodIn_app (goodIn_of _ (by decide +kernel)) ggX5_fleece_X5_ripeBy
set_option maxRecDepth 20000 in
theorem ggX5_fleece_X5_isIn : GoodIn wsX5_fleece wsX5_isIn := goodIn_r _ [41] (by decide +kernel) (by decide +kernel)
set_option maxRecDepth 20000 in
theorem gX5_fleece_X5_isIn : GoodIn wsX5_fleece (va_wsS RX5 175 yX5_isIn wsX5_isIn) := goodIn_app (goodIn_of _ (by decide +kernel)) ggX5_fleece_X5_isIn
set_option maxRecDepth 20000 in
theorem ggX5_fleece_X5_goFleece : GoodIn wsX5_fleece wsX5_goFleece := goodIn_r _ [45, 46, 47, 3, 4, 48, 49, 8, 50, 51, 52, 53, 54, 15, 14, 16, 17, 18, 39, 40, 41, 55, 56, 57, 58, 59, 60, 61, 62, 63, 64, 65, 66, 67, 68, 69, 70, 71, 72, 73, 74, 75, 76, 77, 78, 79, 80, 81, 82, 83, 84] (by decide +kernel) (by decide +kernel)
set_option maxRecDepth 20000 in
theorem gX5_fleece_X5_goFleece : GoodIn wsX5_fleece (wsV RX5 197 RX5 yX5_goFleece wsX5_goFleece) := goodIn_app (goodIn_of _ (by decide +kernel)) ggX5_fleece_X5_goFleece
theorem dX5_fleece_0 : decode cX5_fleece 0 = .ok (.aload_n 0, 1) := by decide +kernel
theorem dX5_fleece_1 : decode cX5_fleece 1 = .ok (.iload_n 2, 1) := by decide +kernel
theorem dX5_fleece_2 : decode cX5_fleece 2 = .ok (.invokevirtual 77, 3) := by decide +kernel
theorem dX5_fleece_5 : decode cX5_fleece 5 = .ok (.ifCond .eq 5, 3) := by decide +kernel
theorem dX5_fleece_8 : decode cX5_fleece 8 = .ok (.iconst (-1), 1) := by decide +kernel
theorem dX5_fleece_9 : decode cX5_fleece 9 = .ok (.ireturn, 1) := by decide +kernel
theorem dX5_fleece_10 : decode cX5_fleece 10 = .ok (.iload_n 1, 1) := by decide +kernel
theorem dX5_fleece_11 : decode cX5_fleece 11 = .ok (.invokestatic 157, 3) := by decide +kernel
theorem dX5_fleece_14 : decode cX5_fleece 14 = .ok (.ifCond .ne 17, 3) := by decide +kernel
theorem dX5_fleece_17 : decode cX5_fleece 17 = .ok (.iload_n 3, 1) := by decide +kernel
theorem dX5_fleece_18 : decode cX5_fleece 18 = .ok (.i2l, 1) := by decide +kernel
theorem dX5_fleece_19 : decode cX5_fleece 19 = .ok (.ldc2_w 193, 3) := by decide +kernel
theorem dX5_fleece_22 : decode cX5_fleece 22 = .ok (.ldc2_w 195, 3) := by decide +kernel
theorem dX5_fleece_25 : decode cX5_fleece 25 = .ok (.invokestatic 73, 3) := by decide +kernel
theorem dX5_fleece_28 : decode cX5_fleece 28 = .ok (.ifCond .ne 6, 3) := by decide +kernel
theorem dX5_fleece_31 : decode cX5_fleece 31 = .ok (.bipush (-2), 2) := by decide +kernel
theorem dX5_fleece_33 : decode cX5_fleece 33 = .ok (.ireturn, 1) := by decide +kernel
theorem dX5_fleece_34 : decode cX5_fleece 34 = .ok (.aload_n 0, 1) := by decide +kernel
theorem dX5_fleece_35 : decode cX5_fleece 35 = .ok (.iload_n 1, 1) := by decide +kernel
theorem dX5_fleece_36 : decode cX5_fleece 36 = .ok (.invokevirtual 160, 3) := by decide +kernel
theorem dX5_fleece_39 : decode cX5_fleece 39 = .ok (.iload_n 2, 1) := by decide +kernel
theorem dX5_fleece_40 : decode cX5_fleece 40 = .ok (.invokestatic 175, 3) := by decide +kernel
theorem dX5_fleece_43 : decode cX5_fleece 43 = .ok (.ifCond .ne 6, 3) := by decide +kernel
theorem dX5_fleece_46 : decode cX5_fleece 46 = .ok (.bipush (-3), 2) := by decide +kernel
theorem dX5_fleece_48 : decode cX5_fleece 48 = .ok (.ireturn, 1) := by decide +kernel
theorem dX5_fleece_49 : decode cX5_fleece 49 = .ok (.aload_n 0, 1) := by decide +kernel
theorem dX5_fleece_50 : decode cX5_fleece 50 = .ok (.aload_n 0, 1) := by decide +kernel
theorem dX5_fleece_51 : decode cX5_fleece 51 = .ok (.iload_n 1, 1) := by decide +kernel
theorem dX5_fleece_52 : decode cX5_fleece 52 = .ok (.invokevirtual 160, 3) := by decide +kernel
theorem dX5_fleece_55 : decode cX5_fleece 55 = .ok (.iload_n 2, 1) := by decide +kernel
theorem dX5_fleece_56 : decode cX5_fleece 56 = .ok (.invokevirtual 197, 3) := by decide +kernel
theorem dX5_fleece_59 : decode cX5_fleece 59 = .ok (.iload_n 3, 1) := by decide +kernel
theorem dX5_fleece_60 : decode cX5_fleece 60 = .ok (.ifCond .ge 10, 3) := by decide +kernel
theorem dX5_fleece_63 : decode cX5_fleece 63 = .ok (.aload_n 0, 1) := by decide +kernel
theorem dX5_fleece_64 : decode cX5_fleece 64 = .ok (.getfield 187, 3) := by decide +kernel
theorem dX5_fleece_67 : decode cX5_fleece 67 = .ok (.goto 24, 3) := by decide +kernel
theorem dX5_fleece_70 : decode cX5_fleece 70 = .ok (.iload_n 3, 1) := by decide +kernel
theorem dX5_fleece_71 : decode cX5_fleece 71 = .ok (.aload_n 0, 1) := by decide +kernel
theorem dX5_fleece_72 : decode cX5_fleece 72 = .ok (.getfield 187, 3) := by decide +kernel
theorem dX5_fleece_75 : decode cX5_fleece 75 = .ok (.iconst 1, 1) := by decide +kernel
theorem dX5_fleece_76 : decode cX5_fleece 76 = .ok (.isub, 1) := by decide +kernel
theorem dX5_fleece_77 : decode cX5_fleece 77 = .ok (.if_icmp .ge 12, 3) := by decide +kernel
theorem dX5_fleece_80 : decode cX5_fleece 80 = .ok (.aload_n 0, 1) := by decide +kernel
theorem dX5_fleece_81 : decode cX5_fleece 81 = .ok (.getfield 25, 3) := by decide +kernel
theorem dX5_fleece_84 : decode cX5_fleece 84 = .ok (.iload_n 3, 1) := by decide +kernel
theorem dX5_fleece_85 : decode cX5_fleece 85 = .ok (.iaload, 1) := by decide +kernel
theorem dX5_fleece_86 : decode cX5_fleece 86 = .ok (.goto 5, 3) := by decide +kernel
theorem dX5_fleece_89 : decode cX5_fleece 89 = .ok (.bipush (-9), 2) := by decide +kernel
theorem dX5_fleece_91 : decode cX5_fleece 91 = .ok (.ireturn, 1) := by decide +kernel
set_option maxRecDepth 20000 in
theorem ggX5_startBy_X5_ripeBy : GoodIn wsX5_startBy wsX5_ripeBy := goodIn_r _ [6, 7, 8, 9, 10, 5, 11, 12, 13, 14, 15, 16, 17, 18, 19, 20, 21, 22, 23, 24, 45, 46, 47, 48, 49, 50, 51, 52, 53, 54, 55, 56, 57, 58, 59, 60, 61, 62, 63, 64, 65, 66, 67, 68, 69, 70, 71, 72, 73, 74] (by decide +kernel) (by decide +kernel)
set_option maxRecDepth 20000 in
theorem gX5_startBy_X5_ripeBy : GoodIn wsX5_startBy (wsV RX5 160 RX5 yX5_ripeBy wsX5_ripeBy) := goodIn_app (goodIn_of _ (by decide +kernel)) ggX5_startBy_X5_ripeBy
set_option maxRecDepth 20000 in
theorem ggX5_startBy_X5_cells : GoodIn wsX5_startBy wsX5_cells := goodIn_r _ [11, 12, 13, 45, 46, 47, 48, 49, 50, 51, 52, 53, 54, 55, 56, 57, 58, 59, 60, 61, 62, 63, 64, 65, 66, 67, 68, 69, 70, 71, 72, 73, 74] (by decide +kernel) (by decide +kernel)
set_option maxRecDepth 20000 in
theorem gX5_startBy_X5_cells : GoodIn wsX5_startBy (wsV RX5 69 RX5 yX5_cells wsX5_cells) := goodIn_app (goodIn_of _ (by decide +kernel)) ggX5_startBy_X5_cells
set_option maxRecDepth 20000 in
theorem ggX5_startBy_X5_isIn : GoodIn wsX5_startBy wsX5_isIn := goodIn_r _ [27] (by decide +kernel) (by decide +kernel)
set_option maxRecDepth 20000 in
theorem gX5_startBy_X5_isIn : GoodIn wsX5_startBy (va_wsS RX5 175 yX5_isIn wsX5_isIn) := goodIn_app (goodIn_of _ (by decide +kernel)) ggX5_startBy_X5_isIn
set_option maxRecDepth 20000 in
theorem ggX5_startBy_X5_bits : GoodIn wsX5_startBy wsX5_bits := goodIn_r _ [30] (by decide +kernel) (by decide +kernel)
set_option maxRecDepth 20000 in
theorem gX5_startBy_X5_bits : GoodIn wsX5_startBy (va_wsS RX5 190 yX5_bits wsX5_bits) := goodIn_app (goodIn_of _ (by decide +kernel)) ggX5_startBy_X5_bits
set_option maxRecDepth 20000 in
theorem ggX5_startBy_X5_goFleece : GoodIn wsX5_startBy wsX5_goFleece := goodIn_r _ [34, 35, 36, 1, 37, 28, 29, 5, 30, 38, 39, 40, 41, 13, 12, 42, 43, 44, 25, 26, 27, 45, 46, 47, 48, 49, 50, 51, 52, 53, 54, 55, 56, 57, 58, 59, 60, 61, 62, 63, 64, 65, 66, 67, 68, 69, 70, 71, 72, 73, 74] (by decide +kernel) (by decide +kernel)
set_option maxRecDepth 20000 in
theorem gX5_startBy_X5_goFleece : GoodIn wsX5_startBy (wsV RX5 197 RX5 yX5_goFleece wsX5_goFleece) := goodIn_app (goodIn_of _ (by decide +kernel)) ggX5_startBy_X5_goFleece
theorem dX5_startBy_0 : decode cX5_startBy 0 = .ok (.aload_n 0, 1) := by decide +kernel
theorem dX5_startBy_1 : decode cX5_startBy 1 = .ok (.iload_n 1, 1) := by decide +kernel
theorem dX5_startBy_2 : decode cX5_startBy 2 = .ok (.invokevirtual 160, 3) := by decide +kernel
theorem dX5_startBy_5 : decode cX5_startBy 5 = .ok (.istore_n 2, 1) := by decide +kernel
theorem dX5_startBy_6 : decode cX5_startBy 6 = .ok (.bipush (-9), 2) := by decide +kernel
theorem dX5_startBy_8 : decode cX5_startBy 8 = .ok (.istore_n 3, 1) := by decide +kernel
theorem dX5_startBy_9 : decode cX5_startBy 9 = .ok (.iconst 0, 1) := by decide +kernel
theorem dX5_startBy_10 : decode cX5_startBy 10 = .ok (.istore 4, 2) := by decide +kernel
theorem dX5_startBy_12 : decode cX5_startBy 12 = .ok (.iconst 0, 1) := by decide +kernel
theorem dX5_startBy_13 : decode cX5_startBy 13 = .ok (.istore 5, 2) := by decide +kernel
theorem dX5_startBy_15 : decode cX5_startBy 15 = .ok (.iload 5, 2) := by decide +kernel
theorem dX5_startBy_17 : decode cX5_startBy 17 = .ok (.aload_n 0, 1) := by decide +kernel
theorem dX5_startBy_18 : decode cX5_startBy 18 = .ok (.invokevirtual 69, 3) := by decide +kernel
theorem dX5_startBy_21 : decode cX5_startBy 21 = .ok (.if_icmp .ge 70, 3) := by decide +kernel
theorem dX5_startBy_24 : decode cX5_startBy 24 = .ok (.iload_n 2, 1) := by decide +kernel
theorem dX5_startBy_25 : decode cX5_startBy 25 = .ok (.iload 5, 2) := by decide +kernel
theorem dX5_startBy_27 : decode cX5_startBy 27 = .ok (.invokestatic 175, 3) := by decide +kernel
theorem dX5_startBy_30 : decode cX5_startBy 30 = .ok (.ifCond .eq 55, 3) := by decide +kernel
theorem dX5_startBy_33 : decode cX5_startBy 33 = .ok (.iload 4, 2) := by decide +kernel
theorem dX5_startBy_35 : decode cX5_startBy 35 = .ok (.iload_n 2, 1) := by decide +kernel
theorem dX5_startBy_36 : decode cX5_startBy 36 = .ok (.invokestatic 190, 3) := by decide +kernel
theorem dX5_startBy_39 : decode cX5_startBy 39 = .ok (.if_icmp .ge 46, 3) := by decide +kernel
theorem dX5_startBy_42 : decode cX5_startBy 42 = .ok (.aload_n 0, 1) := by decide +kernel
theorem dX5_startBy_43 : decode cX5_startBy 43 = .ok (.iload_n 2, 1) := by decide +kernel
theorem dX5_startBy_44 : decode cX5_startBy 44 = .ok (.iload 5, 2) := by decide +kernel
theorem dX5_startBy_46 : decode cX5_startBy 46 = .ok (.invokevirtual 197, 3) := by decide +kernel
theorem dX5_startBy_49 : decode cX5_startBy 49 = .ok (.aload_n 0, 1) := by decide +kernel
theorem dX5_startBy_50 : decode cX5_startBy 50 = .ok (.getfield 187, 3) := by decide +kernel
theorem dX5_startBy_53 : decode cX5_startBy 53 = .ok (.iload 4, 2) := by decide +kernel
theorem dX5_startBy_55 : decode cX5_startBy 55 = .ok (.if_icmp .le 8, 3) := by decide +kernel
theorem dX5_startBy_58 : decode cX5_startBy 58 = .ok (.iload 5, 2) := by decide +kernel
theorem dX5_startBy_60 : decode cX5_startBy 60 = .ok (.goto 4, 3) := by decide +kernel
theorem dX5_startBy_63 : decode cX5_startBy 63 = .ok (.iload_n 3, 1) := by decide +kernel
theorem dX5_startBy_64 : decode cX5_startBy 64 = .ok (.istore_n 3, 1) := by decide +kernel
theorem dX5_startBy_65 : decode cX5_startBy 65 = .ok (.aload_n 0, 1) := by decide +kernel
theorem dX5_startBy_66 : decode cX5_startBy 66 = .ok (.getfield 187, 3) := by decide +kernel
theorem dX5_startBy_69 : decode cX5_startBy 69 = .ok (.iload 4, 2) := by decide +kernel
theorem dX5_startBy_71 : decode cX5_startBy 71 = .ok (.if_icmp .le 10, 3) := by decide +kernel
theorem dX5_startBy_74 : decode cX5_startBy 74 = .ok (.aload_n 0, 1) := by decide +kernel
theorem dX5_startBy_75 : decode cX5_startBy 75 = .ok (.getfield 187, 3) := by decide +kernel
theorem dX5_startBy_78 : decode cX5_startBy 78 = .ok (.goto 5, 3) := by decide +kernel
theorem dX5_startBy_81 : decode cX5_startBy 81 = .ok (.iload 4, 2) := by decide +kernel
theorem dX5_startBy_83 : decode cX5_startBy 83 = .ok (.istore 4, 2) := by decide +kernel
theorem dX5_startBy_85 : decode cX5_startBy 85 = .ok (.iinc 5 1, 3) := by decide +kernel
theorem dX5_startBy_88 : decode cX5_startBy 88 = .ok (.goto (-73), 3) := by decide +kernel
theorem dX5_startBy_91 : decode cX5_startBy 91 = .ok (.iload_n 3, 1) := by decide +kernel
theorem dX5_startBy_92 : decode cX5_startBy 92 = .ok (.ireturn, 1) := by decide +kernel
set_option maxRecDepth 20000 in
theorem ggX5_start_X5_noWeeks : GoodIn wsX5_start wsX5_noWeeks := goodIn_r _ [5, 6, 7, 8, 4, 9] (by decide +kernel) (by decide +kernel)
set_option maxRecDepth 20000 in
theorem gX5_start_X5_noWeeks : GoodIn wsX5_start (va_wsS RX5 157 yX5_noWeeks wsX5_noWeeks) := goodIn_app (goodIn_of _ (by decide +kernel)) ggX5_start_X5_noWeeks
set_option maxRecDepth 20000 in
theorem ggX5_start_X5_startBy : GoodIn wsX5_start wsX5_startBy := goodIn_r _ [13, 14, 15, 16, 17, 4, 18, 19, 20, 21, 22, 23, 1, 24, 25, 26, 27, 28, 29, 30, 31, 32, 33, 34, 35, 36, 37, 38, 39, 40, 41, 42, 43, 44, 45, 46, 47, 48, 49, 50, 51, 52, 7, 8, 9, 53, 54, 55, 56, 57, 58, 59, 60, 61, 62, 63, 64, 65, 66, 67, 68, 69, 70, 71, 72, 73, 74, 75, 76, 77, 78, 79, 80, 81, 82] (by decide +kernel) (by decide +kernel)
set_option maxRecDepth 20000 in
theorem gX5_start_X5_startBy : GoodIn wsX5_start (wsV RX5 201 RX5 yX5_startBy wsX5_startBy) := goodIn_app (goodIn_of _ (by decide +kernel)) ggX5_start_X5_startBy
theorem dX5_start_0 : decode cX5_start 0 = .ok (.aload_n 0, 1) := by decide +kernel
theorem dX5_start_1 : decode cX5_start 1 = .ok (.getfield 63, 3) := by decide +kernel
theorem dX5_start_4 : decode cX5_start 4 = .ok (.ifCond .ne 6, 3) := by decide +kernel
theorem dX5_start_7 : decode cX5_start 7 = .ok (.bipush (-3), 2) := by decide +kernel
theorem dX5_start_9 : decode cX5_start 9 = .ok (.ireturn, 1) := by decide +kernel
theorem dX5_start_10 : decode cX5_start 10 = .ok (.iload_n 1, 1) := by decide +kernel
theorem dX5_start_11 : decode cX5_start 11 = .ok (.invokestatic 157, 3) := by decide +kernel
theorem dX5_start_14 : decode cX5_start 14 = .ok (.ifCond .eq 8, 3) := by decide +kernel
theorem dX5_start_17 : decode cX5_start 17 = .ok (.bipush (-2), 2) := by decide +kernel
theorem dX5_start_19 : decode cX5_start 19 = .ok (.goto 8, 3) := by decide +kernel
theorem dX5_start_22 : decode cX5_start 22 = .ok (.aload_n 0, 1) := by decide +kernel
theorem dX5_start_23 : decode cX5_start 23 = .ok (.iload_n 1, 1) := by decide +kernel
theorem dX5_start_24 : decode cX5_start 24 = .ok (.invokevirtual 201, 3) := by decide +kernel
theorem dX5_start_27 : decode cX5_start 27 = .ok (.ireturn, 1) := by decide +kernel
set_option maxRecDepth 20000 in
theorem ggX5_isWholeFrom_X5_ripeBy : GoodIn wsX5_isWholeFrom wsX5_ripeBy := goodIn_r _ [6, 7, 8, 9, 10, 5, 11, 12, 13, 14, 15, 16, 17, 18, 19, 20, 21, 22, 23, 24, 49, 50, 51, 52, 53, 54, 55, 56, 57, 58, 59, 60, 61, 62, 63, 64, 65, 66, 67, 68, 69, 70, 71, 72, 73, 74, 75, 76, 77, 78] (by decide +kernel) (by decide +kernel)
set_option maxRecDepth 20000 in
theorem gX5_isWholeFrom_X5_ripeBy : GoodIn wsX5_isWholeFrom (wsV RX5 160 RX5 yX5_ripeBy wsX5_ripeBy) := goodIn_app (goodIn_of _ (by decide +kernel)) ggX5_isWholeFrom_X5_ripeBy
set_option maxRecDepth 20000 in
theorem ggX5_isWholeFrom_X5_isIn : GoodIn wsX5_isWholeFrom wsX5_isIn := goodIn_r _ [27] (by decide +kernel) (by decide +kernel)
set_option maxRecDepth 20000 in
theorem gX5_isWholeFrom_X5_isIn : GoodIn wsX5_isWholeFrom (va_wsS RX5 175 yX5_isIn wsX5_isIn) := goodIn_app (goodIn_of _ (by decide +kernel)) ggX5_isWholeFrom_X5_isIn
set_option maxRecDepth 20000 in
theorem ggX5_isWholeFrom_X5_bits : GoodIn wsX5_isWholeFrom wsX5_bits := goodIn_r _ [30] (by decide +kernel) (by decide +kernel)
set_option maxRecDepth 20000 in
theorem gX5_isWholeFrom_X5_bits : GoodIn wsX5_isWholeFrom (va_wsS RX5 190 yX5_bits wsX5_bits) := goodIn_app (goodIn_of _ (by decide +kernel)) ggX5_isWholeFrom_X5_bits
set_option maxRecDepth 20000 in
theorem ggX5_isWholeFrom_X5_cells : GoodIn wsX5_isWholeFrom wsX5_cells := goodIn_r _ [11, 12, 13, 49, 50, 51, 52, 53, 54, 55, 56, 57, 58, 59, 60, 61, 62, 63, 64, 65, 66, 67, 68, 69, 70, 71, 72, 73, 74, 75, 76, 77, 78] (by decide +kernel) (by decide +kernel)
set_option maxRecDepth 20000 in
theorem gX5_isWholeFrom_X5_cells : GoodIn wsX5_isWholeFrom (wsV RX5 69 RX5 yX5_cells wsX5_cells) := goodIn_app (goodIn_of _ (by decide +kernel)) ggX5_isWholeFrom_X5_cells
set_option maxRecDepth 20000 in
theorem ggX5_isWholeFrom_X5_thornsNow : GoodIn wsX5_isWholeFrom wsX5_thornsNow := goodIn_r _ [34, 19, 8, 9, 10, 5, 11, 12, 13, 49, 50, 51, 52, 53, 54, 55, 56, 57, 58, 59, 60, 61, 62, 63, 64, 65, 66, 67, 68, 69, 70, 71, 72, 73, 74, 75, 76, 77, 78] (by decide +kernel) (by decide +kernel)
set_option maxRecDepth 20000 in
theorem gX5_isWholeFrom_X5_thornsNow : GoodIn wsX5_isWholeFrom (wsV RX5 141 RX5 yX5_thornsNow wsX5_thornsNow) := goodIn_app (goodIn_of _ (by decide +kernel)) ggX5_isWholeFrom_X5_thornsNow
set_option maxRecDepth 20000 in
theorem ggX5_isWholeFrom_X5_goFleece : GoodIn wsX5_isWholeFrom wsX5_goFleece := goodIn_r _ [38, 39, 40, 1, 41, 28, 29, 5, 30, 42, 43, 44, 45, 13, 12, 46, 47, 48, 25, 26, 27, 49, 50, 51, 52, 53, 54, 55, 56, 57, 58, 59, 60, 61, 62, 63, 64, 65, 66, 67, 68, 69, 70, 71, 72, 73, 74, 75, 76, 77, 78] (by decide +kernel) (by decide +kernel)
set_option maxRecDepth 20000 in
theorem gX5_isWholeFrom_X5_goFleece : GoodIn wsX5_isWholeFrom (wsV RX5 197 RX5 yX5_goFleece wsX5_goFleece) := goodIn_app (goodIn_of _ (by decide +kernel)) ggX5_isWholeFrom_X5_goFleece
theorem dX5_isWholeFrom_0 : decode cX5_isWholeFrom 0 = .ok (.aload_n 0, 1) := by decide +kernel
theorem dX5_isWholeFrom_1 : decode cX5_isWholeFrom 1 = .ok (.iload_n 1, 1) := by decide +kernel
theorem dX5_isWholeFrom_2 : decode cX5_isWholeFrom 2 = .ok (.invokevirtual 160, 3) := by decide +kernel
theorem dX5_isWholeFrom_5 : decode cX5_isWholeFrom 5 = .ok (.istore_n 3, 1) := by decide +kernel
theorem dX5_isWholeFrom_6 : decode cX5_isWholeFrom 6 = .ok (.iload_n 3, 1) := by decide +kernel
theorem dX5_isWholeFrom_7 : decode cX5_isWholeFrom 7 = .ok (.iload_n 2, 1) := by decide +kernel
theorem dX5_isWholeFrom_8 : decode cX5_isWholeFrom 8 = .ok (.invokestatic 175, 3) := by decide +kernel
theorem dX5_isWholeFrom_11 : decode cX5_isWholeFrom 11 = .ok (.ifCond .eq 19, 3) := by decide +kernel
theorem dX5_isWholeFrom_14 : decode cX5_isWholeFrom 14 = .ok (.iload_n 3, 1) := by decide +kernel
theorem dX5_isWholeFrom_15 : decode cX5_isWholeFrom 15 = .ok (.invokestatic 190, 3) := by decide +kernel
theorem dX5_isWholeFrom_18 : decode cX5_isWholeFrom 18 = .ok (.aload_n 0, 1) := by decide +kernel
theorem dX5_isWholeFrom_19 : decode cX5_isWholeFrom 19 = .ok (.invokevirtual 69, 3) := by decide +kernel
theorem dX5_isWholeFrom_22 : decode cX5_isWholeFrom 22 = .ok (.aload_n 0, 1) := by decide +kernel
theorem dX5_isWholeFrom_23 : decode cX5_isWholeFrom 23 = .ok (.invokevirtual 141, 3) := by decide +kernel
theorem dX5_isWholeFrom_26 : decode cX5_isWholeFrom 26 = .ok (.isub, 1) := by decide +kernel
theorem dX5_isWholeFrom_27 : decode cX5_isWholeFrom 27 = .ok (.if_icmp .ge 5, 3) := by decide +kernel
theorem dX5_isWholeFrom_30 : decode cX5_isWholeFrom 30 = .ok (.iconst 0, 1) := by decide +kernel
theorem dX5_isWholeFrom_31 : decode cX5_isWholeFrom 31 = .ok (.ireturn, 1) := by decide +kernel
theorem dX5_isWholeFrom_32 : decode cX5_isWholeFrom 32 = .ok (.aload_n 0, 1) := by decide +kernel
theorem dX5_isWholeFrom_33 : decode cX5_isWholeFrom 33 = .ok (.iload_n 3, 1) := by decide +kernel
theorem dX5_isWholeFrom_34 : decode cX5_isWholeFrom 34 = .ok (.iload_n 2, 1) := by decide +kernel
theorem dX5_isWholeFrom_35 : decode cX5_isWholeFrom 35 = .ok (.invokevirtual 197, 3) := by decide +kernel
theorem dX5_isWholeFrom_38 : decode cX5_isWholeFrom 38 = .ok (.aload_n 0, 1) := by decide +kernel
theorem dX5_isWholeFrom_39 : decode cX5_isWholeFrom 39 = .ok (.getfield 187, 3) := by decide +kernel
theorem dX5_isWholeFrom_42 : decode cX5_isWholeFrom 42 = .ok (.iload_n 3, 1) := by decide +kernel
theorem dX5_isWholeFrom_43 : decode cX5_isWholeFrom 43 = .ok (.invokestatic 190, 3) := by decide +kernel
theorem dX5_isWholeFrom_46 : decode cX5_isWholeFrom 46 = .ok (.if_icmp .ne 7, 3) := by decide +kernel
theorem dX5_isWholeFrom_49 : decode cX5_isWholeFrom 49 = .ok (.iconst 1, 1) := by decide +kernel
theorem dX5_isWholeFrom_50 : decode cX5_isWholeFrom 50 = .ok (.goto 4, 3) := by decide +kernel
theorem dX5_isWholeFrom_53 : decode cX5_isWholeFrom 53 = .ok (.iconst 0, 1) := by decide +kernel
theorem dX5_isWholeFrom_54 : decode cX5_isWholeFrom 54 = .ok (.ireturn, 1) := by decide +kernel
set_option maxRecDepth 20000 in
theorem ggX5_isWhole_X5_cells : GoodIn wsX5_isWhole wsX5_cells := goodIn_r _ [5, 6, 7, 53, 54, 55, 56, 57, 58, 59, 60, 61, 62, 63, 64, 65, 66, 67, 68, 69, 70, 71, 72, 73, 74, 75, 76, 77, 78, 79, 80, 81, 82] (by decide +kernel) (by decide +kernel)
set_option maxRecDepth 20000 in
theorem gX5_isWhole_X5_cells : GoodIn wsX5_isWhole (wsV RX5 69 RX5 yX5_cells wsX5_cells) := goodIn_app (goodIn_of _ (by decide +kernel)) ggX5_isWhole_X5_cells
set_option maxRecDepth 20000 in
theorem ggX5_isWhole_X5_isWholeFrom : GoodIn wsX5_isWhole wsX5_isWholeFrom := goodIn_r _ [11, 12, 13, 14, 15, 4, 16, 17, 1, 2, 3, 5, 6, 7, 18, 19, 20, 21, 22, 23, 24, 25, 26, 27, 28, 29, 30, 31, 32, 33, 34, 35, 36, 37, 38, 39, 40, 41, 42, 43, 44, 45, 46, 47, 48, 49, 50, 51, 52, 53, 54, 55, 56, 57, 58, 59, 60, 61, 62, 63, 64, 65, 66, 67, 68, 69, 70, 71, 72, 73, 74, 75, 76, 77, 78, 79, 80, 81, 82] (by decide +kernel) (by decide +kernel)
set_option maxRecDepth 20000 in
theorem gX5_isWhole_X5_isWholeFrom : GoodIn wsX5_isWhole (wsV RX5 204 RX5 yX5_isWholeFrom wsX5_isWholeFrom) := goodIn_app (goodIn_of _ (by decide +kernel)) ggX5_isWhole_X5_isWholeFrom
theorem dX5_isWhole_0 : decode cX5_isWhole 0 = .ok (.iconst 0, 1) := by decide +kernel
theorem dX5_isWhole_1 : decode cX5_isWhole 1 = .ok (.istore_n 2, 1) := by decide +kernel
theorem dX5_isWhole_2 : decode cX5_isWhole 2 = .ok (.iconst 0, 1) := by decide +kernel
theorem dX5_isWhole_3 : decode cX5_isWhole 3 = .ok (.istore_n 3, 1) := by decide +kernel
theorem dX5_isWhole_4 : decode cX5_isWhole 4 = .ok (.iload_n 3, 1) := by decide +kernel
theorem dX5_isWhole_5 : decode cX5_isWhole 5 = .ok (.aload_n 0, 1) := by decide +kernel
theorem dX5_isWhole_6 : decode cX5_isWhole 6 = .ok (.invokevirtual 69, 3) := by decide +kernel
theorem dX5_isWhole_9 : decode cX5_isWhole 9 = .ok (.if_icmp .ge 20, 3) := by decide +kernel
theorem dX5_isWhole_12 : decode cX5_isWhole 12 = .ok (.iload_n 2, 1) := by decide +kernel
theorem dX5_isWhole_13 : decode cX5_isWhole 13 = .ok (.ifCond .ne 16, 3) := by decide +kernel
theorem dX5_isWhole_16 : decode cX5_isWhole 16 = .ok (.aload_n 0, 1) := by decide +kernel
theorem dX5_isWhole_17 : decode cX5_isWhole 17 = .ok (.iload_n 1, 1) := by decide +kernel
theorem dX5_isWhole_18 : decode cX5_isWhole 18 = .ok (.iload_n 3, 1) := by decide +kernel
theorem dX5_isWhole_19 : decode cX5_isWhole 19 = .ok (.invokevirtual 204, 3) := by decide +kernel
theorem dX5_isWhole_22 : decode cX5_isWhole 22 = .ok (.istore_n 2, 1) := by decide +kernel
theorem dX5_isWhole_23 : decode cX5_isWhole 23 = .ok (.iinc 3 1, 3) := by decide +kernel
theorem dX5_isWhole_26 : decode cX5_isWhole 26 = .ok (.goto (-22), 3) := by decide +kernel
theorem dX5_isWhole_29 : decode cX5_isWhole 29 = .ok (.iload_n 2, 1) := by decide +kernel
theorem dX5_isWhole_30 : decode cX5_isWhole 30 = .ok (.ireturn, 1) := by decide +kernel
set_option maxRecDepth 20000 in
theorem ggX5_whole_X5_noGrass : GoodIn wsX5_whole wsX5_noGrass := goodIn_r _ [5, 6, 7, 8, 9, 4, 10, 11, 12, 13, 14, 15, 16, 17, 18, 19, 61, 62, 63, 64, 65, 66, 67, 68, 69, 70, 71, 72, 73, 74, 75, 76, 77, 78, 79, 80, 81, 82, 83, 84, 85, 86, 87, 88, 89, 90] (by decide +kernel) (by decide +kernel)
set_option maxRecDepth 20000 in
theorem gX5_whole_X5_noGrass : GoodIn wsX5_whole (wsV RX5 152 RX5 yX5_noGrass wsX5_noGrass) := goodIn_app (goodIn_of _ (by decide +kernel)) ggX5_whole_X5_noGrass
set_option maxRecDepth 20000 in
theorem ggX5_whole_X5_isWholeFrom : GoodIn wsX5_whole wsX5_isWholeFrom := goodIn_r _ [23, 24, 25, 26, 27, 4, 28, 29, 11, 12, 13, 14, 15, 16, 30, 31, 32, 33, 34, 6, 35, 36, 37, 38, 39, 40, 41, 42, 43, 44, 45, 46, 47, 48, 49, 50, 51, 52, 53, 54, 55, 56, 57, 58, 59, 60, 17, 18, 19, 61, 62, 63, 64, 65, 66, 67, 68, 69, 70, 71, 72, 73, 74, 75, 76, 77, 78, 79, 80, 81, 82, 83, 84, 85, 86, 87, 88, 89, 90] (by decide +kernel) (by decide +kernel)
set_option maxRecDepth 20000 in
theorem gX5_whole_X5_isWholeFrom : GoodIn wsX5_whole (wsV RX5 204 RX5 yX5_isWholeFrom wsX5_isWholeFrom) := goodIn_app (goodIn_of _ (by decide +kernel)) ggX5_whole_X5_isWholeFrom
theorem dX5_whole_0 : decode cX5_whole 0 = .ok (.aload_n 0, 1) := by decide +kernel
theorem dX5_whole_1 : decode cX5_whole 1 = .ok (.iload_n 1, 1) := by decide +kernel
theorem dX5_whole_2 : decode cX5_whole 2 = .ok (.invokevirtual 152, 3) := by decide +kernel
theorem dX5_whole_5 : decode cX5_whole 5 = .ok (.ifCond .eq 5, 3) := by decide +kernel
theorem dX5_whole_8 : decode cX5_whole 8 = .ok (.iconst (-1), 1) := by decide +kernel
theorem dX5_whole_9 : decode cX5_whole 9 = .ok (.ireturn, 1) := by decide +kernel
theorem dX5_whole_10 : decode cX5_whole 10 = .ok (.iconst 0, 1) := by decide +kernel
theorem dX5_whole_11 : decode cX5_whole 11 = .ok (.istore_n 2, 1) := by decide +kernel
theorem dX5_whole_12 : decode cX5_whole 12 = .ok (.iload_n 2, 1) := by decide +kernel
theorem dX5_whole_13 : decode cX5_whole 13 = .ok (.bipush 9, 2) := by decide +kernel
theorem dX5_whole_15 : decode cX5_whole 15 = .ok (.if_icmp .gt 20, 3) := by decide +kernel
theorem dX5_whole_18 : decode cX5_whole 18 = .ok (.aload_n 0, 1) := by decide +kernel
theorem dX5_whole_19 : decode cX5_whole 19 = .ok (.iload_n 2, 1) := by decide +kernel
theorem dX5_whole_20 : decode cX5_whole 20 = .ok (.iload_n 1, 1) := by decide +kernel
theorem dX5_whole_21 : decode cX5_whole 21 = .ok (.invokevirtual 204, 3) := by decide +kernel
theorem dX5_whole_24 : decode cX5_whole 24 = .ok (.ifCond .eq 5, 3) := by decide +kernel
theorem dX5_whole_27 : decode cX5_whole 27 = .ok (.iload_n 2, 1) := by decide +kernel
theorem dX5_whole_28 : decode cX5_whole 28 = .ok (.ireturn, 1) := by decide +kernel
theorem dX5_whole_29 : decode cX5_whole 29 = .ok (.iinc 2 1, 3) := by decide +kernel
theorem dX5_whole_32 : decode cX5_whole 32 = .ok (.goto (-20), 3) := by decide +kernel
theorem dX5_whole_35 : decode cX5_whole 35 = .ok (.bipush (-9), 2) := by decide +kernel
theorem dX5_whole_37 : decode cX5_whole 37 = .ok (.ireturn, 1) := by decide +kernel
set_option maxRecDepth 20000 in
theorem ggX5_stops_X5_noWeeks : GoodIn wsX5_stops wsX5_noWeeks := goodIn_r _ [6, 7, 8, 9, 5, 10] (by decide +kernel) (by decide +kernel)
set_option maxRecDepth 20000 in
theorem gX5_stops_X5_noWeeks : GoodIn wsX5_stops (va_wsS RX5 157 yX5_noWeeks wsX5_noWeeks) := goodIn_app (goodIn_of _ (by decide +kernel)) ggX5_stops_X5_noWeeks
set_option maxRecDepth 20000 in
theorem ggX5_stops_X5_isWhole : GoodIn wsX5_stops wsX5_isWhole := goodIn_r _ [14, 15, 16, 17, 5, 18, 1, 19, 20, 21, 22, 23, 24, 25, 26, 27, 28, 29, 30, 31, 32, 33, 34, 2, 35, 36, 37, 38, 39, 40, 41, 42, 43, 44, 45, 46, 47, 48, 49, 50, 51, 52, 53, 54, 55, 56, 57, 58, 59, 60, 8, 9, 10, 61, 62, 63, 64, 65, 66, 67, 68, 69, 70, 71, 72, 73, 74, 75, 76, 77, 78, 79, 80, 81, 82, 83, 84, 85, 86, 87, 88, 89, 90] (by decide +kernel) (by decide +kernel)
set_option maxRecDepth 20000 in
theorem gX5_stops_X5_isWhole : GoodIn wsX5_stops (wsV RX5 207 RX5 yX5_isWhole wsX5_isWhole) := goodIn_app (goodIn_of _ (by decide +kernel)) ggX5_stops_X5_isWhole
set_option maxRecDepth 20000 in
theorem ggX5_stops_X5_cells : GoodIn wsX5_stops wsX5_cells := goodIn_r _ [18, 1, 19, 61, 62, 63, 64, 65, 66, 67, 68, 69, 70, 71, 72, 73, 74, 75, 76, 77, 78, 79, 80, 81, 82, 83, 84, 85, 86, 87, 88, 89, 90] (by decide +kernel) (by decide +kernel)
set_option maxRecDepth 20000 in
theorem gX5_stops_X5_cells : GoodIn wsX5_stops (wsV RX5 69 RX5 yX5_cells wsX5_cells) := goodIn_app (goodIn_of _ (by decide +kernel)) ggX5_stops_X5_cells
theorem dX5_stops_0 : decode cX5_stops 0 = .ok (.aload_n 0, 1) := by decide +kernel
theorem dX5_stops_1 : decode cX5_stops 1 = .ok (.getfield 63, 3) := by decide +kernel
theorem dX5_stops_4 : decode cX5_stops 4 = .ok (.ifCond .ne 6, 3) := by decide +kernel
theorem dX5_stops_7 : decode cX5_stops 7 = .ok (.bipush (-3), 2) := by decide +kernel
theorem dX5_stops_9 : decode cX5_stops 9 = .ok (.ireturn, 1) := by decide +kernel
theorem dX5_stops_10 : decode cX5_stops 10 = .ok (.iload_n 1, 1) := by decide +kernel
theorem dX5_stops_11 : decode cX5_stops 11 = .ok (.invokestatic 157, 3) := by decide +kernel
theorem dX5_stops_14 : decode cX5_stops 14 = .ok (.ifCond .eq 6, 3) := by decide +kernel
theorem dX5_stops_17 : decode cX5_stops 17 = .ok (.bipush (-2), 2) := by decide +kernel
theorem dX5_stops_19 : decode cX5_stops 19 = .ok (.ireturn, 1) := by decide +kernel
theorem dX5_stops_20 : decode cX5_stops 20 = .ok (.bipush (-9), 2) := by decide +kernel
theorem dX5_stops_22 : decode cX5_stops 22 = .ok (.istore_n 2, 1) := by decide +kernel
theorem dX5_stops_23 : decode cX5_stops 23 = .ok (.aload_n 0, 1) := by decide +kernel
theorem dX5_stops_24 : decode cX5_stops 24 = .ok (.iload_n 1, 1) := by decide +kernel
theorem dX5_stops_25 : decode cX5_stops 25 = .ok (.invokevirtual 207, 3) := by decide +kernel
theorem dX5_stops_28 : decode cX5_stops 28 = .ok (.ifCond .ne 7, 3) := by decide +kernel
theorem dX5_stops_31 : decode cX5_stops 31 = .ok (.iconst 1, 1) := by decide +kernel
theorem dX5_stops_32 : decode cX5_stops 32 = .ok (.goto 4, 3) := by decide +kernel
theorem dX5_stops_35 : decode cX5_stops 35 = .ok (.iconst 0, 1) := by decide +kernel
theorem dX5_stops_36 : decode cX5_stops 36 = .ok (.istore_n 3, 1) := by decide +kernel
theorem dX5_stops_37 : decode cX5_stops 37 = .ok (.iconst 0, 1) := by decide +kernel
theorem dX5_stops_38 : decode cX5_stops 38 = .ok (.istore 4, 2) := by decide +kernel
theorem dX5_stops_40 : decode cX5_stops 40 = .ok (.iload 4, 2) := by decide +kernel
theorem dX5_stops_42 : decode cX5_stops 42 = .ok (.aload_n 0, 1) := by decide +kernel
theorem dX5_stops_43 : decode cX5_stops 43 = .ok (.invokevirtual 69, 3) := by decide +kernel
theorem dX5_stops_46 : decode cX5_stops 46 = .ok (.if_icmp .ge 66, 3) := by decide +kernel
theorem dX5_stops_49 : decode cX5_stops 49 = .ok (.iload_n 3, 1) := by decide +kernel
theorem dX5_stops_50 : decode cX5_stops 50 = .ok (.ifCond .eq 62, 3) := by decide +kernel
theorem dX5_stops_53 : decode cX5_stops 53 = .ok (.aload_n 0, 1) := by decide +kernel
theorem dX5_stops_54 : decode cX5_stops 54 = .ok (.getfield 7, 3) := by decide +kernel
theorem dX5_stops_57 : decode cX5_stops 57 = .ok (.iload 4, 2) := by decide +kernel
theorem dX5_stops_59 : decode cX5_stops 59 = .ok (.iaload, 1) := by decide +kernel
theorem dX5_stops_60 : decode cX5_stops 60 = .ok (.iconst 3, 1) := by decide +kernel
theorem dX5_stops_61 : decode cX5_stops 61 = .ok (.if_icmp .ne 45, 3) := by decide +kernel
theorem dX5_stops_64 : decode cX5_stops 64 = .ok (.aload_n 0, 1) := by decide +kernel
theorem dX5_stops_65 : decode cX5_stops 65 = .ok (.getfield 7, 3) := by decide +kernel
theorem dX5_stops_68 : decode cX5_stops 68 = .ok (.iload 4, 2) := by decide +kernel
theorem dX5_stops_70 : decode cX5_stops 70 = .ok (.iconst 0, 1) := by decide +kernel
theorem dX5_stops_71 : decode cX5_stops 71 = .ok (.iastore, 1) := by decide +kernel
theorem dX5_stops_72 : decode cX5_stops 72 = .ok (.aload_n 0, 1) := by decide +kernel
theorem dX5_stops_73 : decode cX5_stops 73 = .ok (.iload_n 1, 1) := by decide +kernel
theorem dX5_stops_74 : decode cX5_stops 74 = .ok (.invokevirtual 207, 3) := by decide +kernel
theorem dX5_stops_77 : decode cX5_stops 77 = .ok (.ifCond .eq 8, 3) := by decide +kernel
theorem dX5_stops_80 : decode cX5_stops 80 = .ok (.iload 4, 2) := by decide +kernel
theorem dX5_stops_82 : decode cX5_stops 82 = .ok (.goto 5, 3) := by decide +kernel
theorem dX5_stops_85 : decode cX5_stops 85 = .ok (.bipush (-9), 2) := by decide +kernel
theorem dX5_stops_87 : decode cX5_stops 87 = .ok (.istore_n 2, 1) := by decide +kernel
theorem dX5_stops_88 : decode cX5_stops 88 = .ok (.aload_n 0, 1) := by decide +kernel
theorem dX5_stops_89 : decode cX5_stops 89 = .ok (.getfield 7, 3) := by decide +kernel
theorem dX5_stops_92 : decode cX5_stops 92 = .ok (.iload 4, 2) := by decide +kernel
theorem dX5_stops_94 : decode cX5_stops 94 = .ok (.iconst 3, 1) := by decide +kernel
theorem dX5_stops_95 : decode cX5_stops 95 = .ok (.iastore, 1) := by decide +kernel
theorem dX5_stops_96 : decode cX5_stops 96 = .ok (.iload_n 2, 1) := by decide +kernel
theorem dX5_stops_97 : decode cX5_stops 97 = .ok (.ifCond .ge 7, 3) := by decide +kernel
theorem dX5_stops_100 : decode cX5_stops 100 = .ok (.iconst 1, 1) := by decide +kernel
theorem dX5_stops_101 : decode cX5_stops 101 = .ok (.goto 4, 3) := by decide +kernel
theorem dX5_stops_104 : decode cX5_stops 104 = .ok (.iconst 0, 1) := by decide +kernel
theorem dX5_stops_105 : decode cX5_stops 105 = .ok (.istore_n 3, 1) := by decide +kernel
theorem dX5_stops_106 : decode cX5_stops 106 = .ok (.iinc 4 1, 3) := by decide +kernel
theorem dX5_stops_109 : decode cX5_stops 109 = .ok (.goto (-69), 3) := by decide +kernel
theorem dX5_stops_112 : decode cX5_stops 112 = .ok (.iload_n 2, 1) := by decide +kernel
theorem dX5_stops_113 : decode cX5_stops 113 = .ok (.ireturn, 1) := by decide +kernel
set_option maxRecDepth 20000 in
theorem ggX5_reading_X5_noGrass : GoodIn wsX5_reading wsX5_noGrass := goodIn_r _ [10, 11, 12, 13, 14, 9, 15, 16, 17, 18, 19, 20, 21, 22, 23, 24, 28, 29, 30, 31, 32, 33, 34, 35, 36, 37, 38, 39, 40, 41, 42, 43, 44, 45, 46, 47, 48, 49, 50, 51, 52, 53, 54, 55, 56, 57] (by decide +kernel) (by decide +kernel)
set_option maxRecDepth 20000 in
theorem gX5_reading_X5_noGrass : GoodIn wsX5_reading (wsV RX5 152 RX5 yX5_noGrass wsX5_noGrass) := goodIn_app (goodIn_of _ (by decide +kernel)) ggX5_reading_X5_noGrass
set_option maxRecDepth 20000 in
theorem ggX5_reading_X5_noWeeks : GoodIn wsX5_reading wsX5_noWeeks := goodIn_r _ [27, 1, 22, 23, 9, 24] (by decide +kernel) (by decide +kernel)
set_option maxRecDepth 20000 in
theorem gX5_reading_X5_noWeeks : GoodIn wsX5_reading (va_wsS RX5 157 yX5_noWeeks wsX5_noWeeks) := goodIn_app (goodIn_of _ (by decide +kernel)) ggX5_reading_X5_noWeeks
set_option maxRecDepth 20000 in
theorem ggX5_reading_X5_in : GoodIn wsX5_reading wsX5_in := goodIn_r _ [24] (by decide +kernel) (by decide +kernel)
set_option maxRecDepth 20000 in
theorem gX5_reading_X5_in : GoodIn wsX5_reading (va_wsS RX5 73 yX5_in wsX5_in) := goodIn_app (goodIn_of _ (by decide +kernel)) ggX5_reading_X5_in
theorem dX5_reading_0 : decode cX5_reading 0 = .ok (.aload_n 0, 1) := by decide +kernel
theorem dX5_reading_1 : decode cX5_reading 1 = .ok (.iload_n 1, 1) := by decide +kernel
theorem dX5_reading_2 : decode cX5_reading 2 = .ok (.invokevirtual 152, 3) := by decide +kernel
theorem dX5_reading_5 : decode cX5_reading 5 = .ok (.ifCond .eq 5, 3) := by decide +kernel
theorem dX5_reading_8 : decode cX5_reading 8 = .ok (.iconst (-1), 1) := by decide +kernel
theorem dX5_reading_9 : decode cX5_reading 9 = .ok (.ireturn, 1) := by decide +kernel
theorem dX5_reading_10 : decode cX5_reading 10 = .ok (.iload_n 2, 1) := by decide +kernel
theorem dX5_reading_11 : decode cX5_reading 11 = .ok (.invokestatic 157, 3) := by decide +kernel
theorem dX5_reading_14 : decode cX5_reading 14 = .ok (.ifCond .ne 15, 3) := by decide +kernel
theorem dX5_reading_17 : decode cX5_reading 17 = .ok (.iload_n 3, 1) := by decide +kernel
theorem dX5_reading_18 : decode cX5_reading 18 = .ok (.i2l, 1) := by decide +kernel
theorem dX5_reading_19 : decode cX5_reading 19 = .ok (.lconst 0, 1) := by decide +kernel
theorem dX5_reading_20 : decode cX5_reading 20 = .ok (.ldc2_w 150, 3) := by decide +kernel
theorem dX5_reading_23 : decode cX5_reading 23 = .ok (.invokestatic 73, 3) := by decide +kernel
theorem dX5_reading_26 : decode cX5_reading 26 = .ok (.ifCond .ne 6, 3) := by decide +kernel
theorem dX5_reading_29 : decode cX5_reading 29 = .ok (.bipush (-2), 2) := by decide +kernel
theorem dX5_reading_31 : decode cX5_reading 31 = .ok (.ireturn, 1) := by decide +kernel
theorem dX5_reading_32 : decode cX5_reading 32 = .ok (.aload_n 0, 1) := by decide +kernel
theorem dX5_reading_33 : decode cX5_reading 33 = .ok (.getfield 138, 3) := by decide +kernel
theorem dX5_reading_36 : decode cX5_reading 36 = .ok (.bipush 8, 2) := by decide +kernel
theorem dX5_reading_38 : decode cX5_reading 38 = .ok (.if_icmp .ne 6, 3) := by decide +kernel
theorem dX5_reading_41 : decode cX5_reading 41 = .ok (.bipush (-4), 2) := by decide +kernel
theorem dX5_reading_43 : decode cX5_reading 43 = .ok (.ireturn, 1) := by decide +kernel
theorem dX5_reading_44 : decode cX5_reading 44 = .ok (.aload_n 0, 1) := by decide +kernel
theorem dX5_reading_45 : decode cX5_reading 45 = .ok (.getfield 28, 3) := by decide +kernel
theorem dX5_reading_48 : decode cX5_reading 48 = .ok (.aload_n 0, 1) := by decide +kernel
theorem dX5_reading_49 : decode cX5_reading 49 = .ok (.getfield 138, 3) := by decide +kernel
theorem dX5_reading_52 : decode cX5_reading 52 = .ok (.iload_n 1, 1) := by decide +kernel
theorem dX5_reading_53 : decode cX5_reading 53 = .ok (.iastore, 1) := by decide +kernel
theorem dX5_reading_54 : decode cX5_reading 54 = .ok (.aload_n 0, 1) := by decide +kernel
theorem dX5_reading_55 : decode cX5_reading 55 = .ok (.getfield 31, 3) := by decide +kernel
theorem dX5_reading_58 : decode cX5_reading 58 = .ok (.aload_n 0, 1) := by decide +kernel
theorem dX5_reading_59 : decode cX5_reading 59 = .ok (.getfield 138, 3) := by decide +kernel
theorem dX5_reading_62 : decode cX5_reading 62 = .ok (.iload_n 2, 1) := by decide +kernel
theorem dX5_reading_63 : decode cX5_reading 63 = .ok (.iastore, 1) := by decide +kernel
theorem dX5_reading_64 : decode cX5_reading 64 = .ok (.aload_n 0, 1) := by decide +kernel
theorem dX5_reading_65 : decode cX5_reading 65 = .ok (.getfield 34, 3) := by decide +kernel
theorem dX5_reading_68 : decode cX5_reading 68 = .ok (.aload_n 0, 1) := by decide +kernel
theorem dX5_reading_69 : decode cX5_reading 69 = .ok (.getfield 138, 3) := by decide +kernel
theorem dX5_reading_72 : decode cX5_reading 72 = .ok (.iload_n 3, 1) := by decide +kernel
theorem dX5_reading_73 : decode cX5_reading 73 = .ok (.iastore, 1) := by decide +kernel
theorem dX5_reading_74 : decode cX5_reading 74 = .ok (.aload_n 0, 1) := by decide +kernel
theorem dX5_reading_75 : decode cX5_reading 75 = .ok (.dup, 1) := by decide +kernel
theorem dX5_reading_76 : decode cX5_reading 76 = .ok (.getfield 138, 3) := by decide +kernel
theorem dX5_reading_79 : decode cX5_reading 79 = .ok (.iconst 1, 1) := by decide +kernel
theorem dX5_reading_80 : decode cX5_reading 80 = .ok (.iadd, 1) := by decide +kernel
theorem dX5_reading_81 : decode cX5_reading 81 = .ok (.putfield 138, 3) := by decide +kernel
theorem dX5_reading_84 : decode cX5_reading 84 = .ok (.aload_n 0, 1) := by decide +kernel
theorem dX5_reading_85 : decode cX5_reading 85 = .ok (.getfield 138, 3) := by decide +kernel
theorem dX5_reading_88 : decode cX5_reading 88 = .ok (.iconst 1, 1) := by decide +kernel
theorem dX5_reading_89 : decode cX5_reading 89 = .ok (.isub, 1) := by decide +kernel
theorem dX5_reading_90 : decode cX5_reading 90 = .ok (.ireturn, 1) := by decide +kernel
set_option maxRecDepth 20000 in
theorem ggX5_back_X5_in : GoodIn wsX5_back wsX5_in := goodIn_r _ [5] (by decide +kernel) (by decide +kernel)
set_option maxRecDepth 20000 in
theorem gX5_back_X5_in : GoodIn wsX5_back (va_wsS RX5 73 yX5_in wsX5_in) := goodIn_app (goodIn_of _ (by decide +kernel)) ggX5_back_X5_in
theorem dX5_back_0 : decode cX5_back 0 = .ok (.iload_n 1, 1) := by decide +kernel
theorem dX5_back_1 : decode cX5_back 1 = .ok (.i2l, 1) := by decide +kernel
theorem dX5_back_2 : decode cX5_back 2 = .ok (.lconst 0, 1) := by decide +kernel
theorem dX5_back_3 : decode cX5_back 3 = .ok (.aload_n 0, 1) := by decide +kernel
theorem dX5_back_4 : decode cX5_back 4 = .ok (.getfield 138, 3) := by decide +kernel
theorem dX5_back_7 : decode cX5_back 7 = .ok (.i2l, 1) := by decide +kernel
theorem dX5_back_8 : decode cX5_back 8 = .ok (.invokestatic 73, 3) := by decide +kernel
theorem dX5_back_11 : decode cX5_back 11 = .ok (.ifCond .ne 6, 3) := by decide +kernel
theorem dX5_back_14 : decode cX5_back 14 = .ok (.bipush (-2), 2) := by decide +kernel
theorem dX5_back_16 : decode cX5_back 16 = .ok (.ireturn, 1) := by decide +kernel
theorem dX5_back_17 : decode cX5_back 17 = .ok (.aload_n 0, 1) := by decide +kernel
theorem dX5_back_18 : decode cX5_back 18 = .ok (.dup, 1) := by decide +kernel
theorem dX5_back_19 : decode cX5_back 19 = .ok (.getfield 138, 3) := by decide +kernel
theorem dX5_back_22 : decode cX5_back 22 = .ok (.iload_n 1, 1) := by decide +kernel
theorem dX5_back_23 : decode cX5_back 23 = .ok (.isub, 1) := by decide +kernel
theorem dX5_back_24 : decode cX5_back 24 = .ok (.putfield 138, 3) := by decide +kernel
theorem dX5_back_27 : decode cX5_back 27 = .ok (.aload_n 0, 1) := by decide +kernel
theorem dX5_back_28 : decode cX5_back 28 = .ok (.getfield 138, 3) := by decide +kernel
theorem dX5_back_31 : decode cX5_back 31 = .ok (.ireturn, 1) := by decide +kernel
set_option maxRecDepth 20000 in
theorem ggX5_areSo_X5_coatOf : GoodIn wsX5_areSo wsX5_coatOf := goodIn_r _ [9, 10, 11, 12, 13, 14, 8, 15, 16, 17, 18, 19, 20, 21, 22, 23, 24, 25, 26, 27, 28, 29, 30, 31, 32, 33, 34, 35, 36, 37, 38, 39, 40, 41, 42, 43, 44, 45, 46] (by decide +kernel) (by decide +kernel)
set_option maxRecDepth 20000 in
theorem gX5_areSo_X5_coatOf : GoodIn wsX5_areSo (wsV RX5 147 RX5 yX5_coatOf wsX5_coatOf) := goodIn_app (goodIn_of _ (by decide +kernel)) ggX5_areSo_X5_coatOf
theorem dX5_areSo_0 : decode cX5_areSo 0 = .ok (.iconst 1, 1) := by decide +kernel
theorem dX5_areSo_1 : decode cX5_areSo 1 = .ok (.istore_n 1, 1) := by decide +kernel
theorem dX5_areSo_2 : decode cX5_areSo 2 = .ok (.iconst 0, 1) := by decide +kernel
theorem dX5_areSo_3 : decode cX5_areSo 3 = .ok (.istore_n 2, 1) := by decide +kernel
theorem dX5_areSo_4 : decode cX5_areSo 4 = .ok (.iload_n 2, 1) := by decide +kernel
theorem dX5_areSo_5 : decode cX5_areSo 5 = .ok (.aload_n 0, 1) := by decide +kernel
theorem dX5_areSo_6 : decode cX5_areSo 6 = .ok (.getfield 138, 3) := by decide +kernel
theorem dX5_areSo_9 : decode cX5_areSo 9 = .ok (.if_icmp .ge 44, 3) := by decide +kernel
theorem dX5_areSo_12 : decode cX5_areSo 12 = .ok (.iload_n 1, 1) := by decide +kernel
theorem dX5_areSo_13 : decode cX5_areSo 13 = .ok (.ifCond .eq 32, 3) := by decide +kernel
theorem dX5_areSo_16 : decode cX5_areSo 16 = .ok (.aload_n 0, 1) := by decide +kernel
theorem dX5_areSo_17 : decode cX5_areSo 17 = .ok (.aload_n 0, 1) := by decide +kernel
theorem dX5_areSo_18 : decode cX5_areSo 18 = .ok (.getfield 28, 3) := by decide +kernel
theorem dX5_areSo_21 : decode cX5_areSo 21 = .ok (.iload_n 2, 1) := by decide +kernel
theorem dX5_areSo_22 : decode cX5_areSo 22 = .ok (.iaload, 1) := by decide +kernel
theorem dX5_areSo_23 : decode cX5_areSo 23 = .ok (.aload_n 0, 1) := by decide +kernel
theorem dX5_areSo_24 : decode cX5_areSo 24 = .ok (.getfield 31, 3) := by decide +kernel
theorem dX5_areSo_27 : decode cX5_areSo 27 = .ok (.iload_n 2, 1) := by decide +kernel
theorem dX5_areSo_28 : decode cX5_areSo 28 = .ok (.iaload, 1) := by decide +kernel
theorem dX5_areSo_29 : decode cX5_areSo 29 = .ok (.invokevirtual 147, 3) := by decide +kernel
theorem dX5_areSo_32 : decode cX5_areSo 32 = .ok (.aload_n 0, 1) := by decide +kernel
theorem dX5_areSo_33 : decode cX5_areSo 33 = .ok (.getfield 34, 3) := by decide +kernel
theorem dX5_areSo_36 : decode cX5_areSo 36 = .ok (.iload_n 2, 1) := by decide +kernel
theorem dX5_areSo_37 : decode cX5_areSo 37 = .ok (.iaload, 1) := by decide +kernel
theorem dX5_areSo_38 : decode cX5_areSo 38 = .ok (.if_icmp .ne 7, 3) := by decide +kernel
theorem dX5_areSo_41 : decode cX5_areSo 41 = .ok (.iconst 1, 1) := by decide +kernel
theorem dX5_areSo_42 : decode cX5_areSo 42 = .ok (.goto 4, 3) := by decide +kernel
theorem dX5_areSo_45 : decode cX5_areSo 45 = .ok (.iconst 0, 1) := by decide +kernel
theorem dX5_areSo_46 : decode cX5_areSo 46 = .ok (.istore_n 1, 1) := by decide +kernel
theorem dX5_areSo_47 : decode cX5_areSo 47 = .ok (.iinc 2 1, 3) := by decide +kernel
theorem dX5_areSo_50 : decode cX5_areSo 50 = .ok (.goto (-46), 3) := by decide +kernel
theorem dX5_areSo_53 : decode cX5_areSo 53 = .ok (.iload_n 1, 1) := by decide +kernel
theorem dX5_areSo_54 : decode cX5_areSo 54 = .ok (.ireturn, 1) := by decide +kernel
set_option maxRecDepth 20000 in
theorem ggX5_kinds_X5_noGrass : GoodIn wsX5_kinds wsX5_noGrass := goodIn_r _ [6, 1, 7, 8, 9, 5, 10, 11, 12, 13, 14, 15, 16, 17, 18, 19, 38, 39, 40, 41, 42, 43, 44, 45, 46, 47, 48, 49, 50, 51, 52, 53, 54, 55, 56, 57, 58, 59, 60, 61, 62, 63, 64, 65, 66, 67] (by decide +kernel) (by decide +kernel)
set_option maxRecDepth 20000 in
theorem gX5_kinds_X5_noGrass : GoodIn wsX5_kinds (wsV RX5 152 RX5 yX5_noGrass wsX5_noGrass) := goodIn_app (goodIn_of _ (by decide +kernel)) ggX5_kinds_X5_noGrass
set_option maxRecDepth 20000 in
theorem ggX5_kinds_X5_areSo : GoodIn wsX5_kinds wsX5_areSo := goodIn_r _ [23, 24, 25, 26, 27, 28, 29, 30, 5, 31, 32, 1, 33, 34, 35, 36, 37, 38, 39, 40, 41, 42, 43, 44, 45, 46, 47, 48, 49, 50, 51, 52, 53, 54, 55, 56, 57, 58, 59, 60, 61, 62, 63, 64, 65, 66, 67] (by decide +kernel) (by decide +kernel)
set_option maxRecDepth 20000 in
theorem gX5_kinds_X5_areSo : GoodIn wsX5_kinds (wsV RX5 210 RX5 yX5_areSo wsX5_areSo) := goodIn_app (goodIn_of _ (by decide +kernel)) ggX5_kinds_X5_areSo
theorem dX5_kinds_0 : decode cX5_kinds 0 = .ok (.aload_n 0, 1) := by decide +kernel
theorem dX5_kinds_1 : decode cX5_kinds 1 = .ok (.iload_n 1, 1) := by decide +kernel
theorem dX5_kinds_2 : decode cX5_kinds 2 = .ok (.invokevirtual 152, 3) := by decide +kernel
theorem dX5_kinds_5 : decode cX5_kinds 5 = .ok (.ifCond .eq 5, 3) := by decide +kernel
theorem dX5_kinds_8 : decode cX5_kinds 8 = .ok (.iconst (-1), 1) := by decide +kernel
theorem dX5_kinds_9 : decode cX5_kinds 9 = .ok (.ireturn, 1) := by decide +kernel
theorem dX5_kinds_10 : decode cX5_kinds 10 = .ok (.aload_n 0, 1) := by decide +kernel
theorem dX5_kinds_11 : decode cX5_kinds 11 = .ok (.getfield 7, 3) := by decide +kernel
theorem dX5_kinds_14 : decode cX5_kinds 14 = .ok (.iload_n 1, 1) := by decide +kernel
theorem dX5_kinds_15 : decode cX5_kinds 15 = .ok (.iaload, 1) := by decide +kernel
theorem dX5_kinds_16 : decode cX5_kinds 16 = .ok (.istore_n 2, 1) := by decide +kernel
theorem dX5_kinds_17 : decode cX5_kinds 17 = .ok (.iconst 0, 1) := by decide +kernel
theorem dX5_kinds_18 : decode cX5_kinds 18 = .ok (.istore_n 3, 1) := by decide +kernel
theorem dX5_kinds_19 : decode cX5_kinds 19 = .ok (.iconst 0, 1) := by decide +kernel
theorem dX5_kinds_20 : decode cX5_kinds 20 = .ok (.istore 4, 2) := by decide +kernel
theorem dX5_kinds_22 : decode cX5_kinds 22 = .ok (.iload 4, 2) := by decide +kernel
theorem dX5_kinds_24 : decode cX5_kinds 24 = .ok (.iconst 3, 1) := by decide +kernel
theorem dX5_kinds_25 : decode cX5_kinds 25 = .ok (.if_icmp .ge 35, 3) := by decide +kernel
theorem dX5_kinds_28 : decode cX5_kinds 28 = .ok (.aload_n 0, 1) := by decide +kernel
theorem dX5_kinds_29 : decode cX5_kinds 29 = .ok (.getfield 7, 3) := by decide +kernel
theorem dX5_kinds_32 : decode cX5_kinds 32 = .ok (.iload_n 1, 1) := by decide +kernel
theorem dX5_kinds_33 : decode cX5_kinds 33 = .ok (.iload 4, 2) := by decide +kernel
theorem dX5_kinds_35 : decode cX5_kinds 35 = .ok (.iastore, 1) := by decide +kernel
theorem dX5_kinds_36 : decode cX5_kinds 36 = .ok (.iload_n 3, 1) := by decide +kernel
theorem dX5_kinds_37 : decode cX5_kinds 37 = .ok (.aload_n 0, 1) := by decide +kernel
theorem dX5_kinds_38 : decode cX5_kinds 38 = .ok (.invokevirtual 210, 3) := by decide +kernel
theorem dX5_kinds_41 : decode cX5_kinds 41 = .ok (.ifCond .eq 10, 3) := by decide +kernel
theorem dX5_kinds_44 : decode cX5_kinds 44 = .ok (.iconst 1, 1) := by decide +kernel
theorem dX5_kinds_45 : decode cX5_kinds 45 = .ok (.iload 4, 2) := by decide +kernel
theorem dX5_kinds_47 : decode cX5_kinds 47 = .ok (.ishl, 1) := by decide +kernel
theorem dX5_kinds_48 : decode cX5_kinds 48 = .ok (.goto 4, 3) := by decide +kernel
theorem dX5_kinds_51 : decode cX5_kinds 51 = .ok (.iconst 0, 1) := by decide +kernel
theorem dX5_kinds_52 : decode cX5_kinds 52 = .ok (.ior, 1) := by decide +kernel
theorem dX5_kinds_53 : decode cX5_kinds 53 = .ok (.istore_n 3, 1) := by decide +kernel
theorem dX5_kinds_54 : decode cX5_kinds 54 = .ok (.iinc 4 1, 3) := by decide +kernel
theorem dX5_kinds_57 : decode cX5_kinds 57 = .ok (.goto (-35), 3) := by decide +kernel
theorem dX5_kinds_60 : decode cX5_kinds 60 = .ok (.aload_n 0, 1) := by decide +kernel
theorem dX5_kinds_61 : decode cX5_kinds 61 = .ok (.getfield 7, 3) := by decide +kernel
theorem dX5_kinds_64 : decode cX5_kinds 64 = .ok (.iload_n 1, 1) := by decide +kernel
theorem dX5_kinds_65 : decode cX5_kinds 65 = .ok (.iload_n 2, 1) := by decide +kernel
theorem dX5_kinds_66 : decode cX5_kinds 66 = .ok (.iastore, 1) := by decide +kernel
theorem dX5_kinds_67 : decode cX5_kinds 67 = .ok (.iload_n 3, 1) := by decide +kernel
theorem dX5_kinds_68 : decode cX5_kinds 68 = .ok (.ireturn, 1) := by decide +kernel
set_option maxRecDepth 20000 in
theorem ggX5_paces_X5_areSo : GoodIn wsX5_paces wsX5_areSo := goodIn_r _ [7, 8, 9, 10, 11, 12, 13, 14, 6, 15, 16, 17, 18, 19, 20, 21, 2, 22, 23, 24, 25, 26, 27, 28, 29, 30, 31, 32, 33, 34, 35, 36, 37, 38, 39, 40, 41, 42, 43, 44, 45, 46, 47, 48, 49, 50, 51] (by decide +kernel) (by decide +kernel)
set_option maxRecDepth 20000 in
theorem gX5_paces_X5_areSo : GoodIn wsX5_paces (wsV RX5 210 RX5 yX5_areSo wsX5_areSo) := goodIn_app (goodIn_of _ (by decide +kernel)) ggX5_paces_X5_areSo
theorem dX5_paces_0 : decode cX5_paces 0 = .ok (.aload_n 0, 1) := by decide +kernel
theorem dX5_paces_1 : decode cX5_paces 1 = .ok (.getfield 63, 3) := by decide +kernel
theorem dX5_paces_4 : decode cX5_paces 4 = .ok (.ifCond .ne 6, 3) := by decide +kernel
theorem dX5_paces_7 : decode cX5_paces 7 = .ok (.bipush (-3), 2) := by decide +kernel
theorem dX5_paces_9 : decode cX5_paces 9 = .ok (.ireturn, 1) := by decide +kernel
theorem dX5_paces_10 : decode cX5_paces 10 = .ok (.aload_n 0, 1) := by decide +kernel
theorem dX5_paces_11 : decode cX5_paces 11 = .ok (.getfield 132, 3) := by decide +kernel
theorem dX5_paces_14 : decode cX5_paces 14 = .ok (.istore_n 1, 1) := by decide +kernel
theorem dX5_paces_15 : decode cX5_paces 15 = .ok (.iconst 0, 1) := by decide +kernel
theorem dX5_paces_16 : decode cX5_paces 16 = .ok (.istore_n 2, 1) := by decide +kernel
theorem dX5_paces_17 : decode cX5_paces 17 = .ok (.iconst 1, 1) := by decide +kernel
theorem dX5_paces_18 : decode cX5_paces 18 = .ok (.istore_n 3, 1) := by decide +kernel
theorem dX5_paces_19 : decode cX5_paces 19 = .ok (.iload_n 3, 1) := by decide +kernel
theorem dX5_paces_20 : decode cX5_paces 20 = .ok (.iconst 4, 1) := by decide +kernel
theorem dX5_paces_21 : decode cX5_paces 21 = .ok (.if_icmp .ge 31, 3) := by decide +kernel
theorem dX5_paces_24 : decode cX5_paces 24 = .ok (.aload_n 0, 1) := by decide +kernel
theorem dX5_paces_25 : decode cX5_paces 25 = .ok (.iload_n 3, 1) := by decide +kernel
theorem dX5_paces_26 : decode cX5_paces 26 = .ok (.putfield 132, 3) := by decide +kernel
theorem dX5_paces_29 : decode cX5_paces 29 = .ok (.iload_n 2, 1) := by decide +kernel
theorem dX5_paces_30 : decode cX5_paces 30 = .ok (.aload_n 0, 1) := by decide +kernel
theorem dX5_paces_31 : decode cX5_paces 31 = .ok (.invokevirtual 210, 3) := by decide +kernel
theorem dX5_paces_34 : decode cX5_paces 34 = .ok (.ifCond .eq 9, 3) := by decide +kernel
theorem dX5_paces_37 : decode cX5_paces 37 = .ok (.iconst 1, 1) := by decide +kernel
theorem dX5_paces_38 : decode cX5_paces 38 = .ok (.iload_n 3, 1) := by decide +kernel
theorem dX5_paces_39 : decode cX5_paces 39 = .ok (.ishl, 1) := by decide +kernel
theorem dX5_paces_40 : decode cX5_paces 40 = .ok (.goto 4, 3) := by decide +kernel
theorem dX5_paces_43 : decode cX5_paces 43 = .ok (.iconst 0, 1) := by decide +kernel
theorem dX5_paces_44 : decode cX5_paces 44 = .ok (.ior, 1) := by decide +kernel
theorem dX5_paces_45 : decode cX5_paces 45 = .ok (.istore_n 2, 1) := by decide +kernel
theorem dX5_paces_46 : decode cX5_paces 46 = .ok (.iinc 3 1, 3) := by decide +kernel
theorem dX5_paces_49 : decode cX5_paces 49 = .ok (.goto (-30), 3) := by decide +kernel
theorem dX5_paces_52 : decode cX5_paces 52 = .ok (.aload_n 0, 1) := by decide +kernel
theorem dX5_paces_53 : decode cX5_paces 53 = .ok (.iload_n 1, 1) := by decide +kernel
theorem dX5_paces_54 : decode cX5_paces 54 = .ok (.putfield 132, 3) := by decide +kernel
theorem dX5_paces_57 : decode cX5_paces 57 = .ok (.iload_n 2, 1) := by decide +kernel
theorem dX5_paces_58 : decode cX5_paces 58 = .ok (.ireturn, 1) := by decide +kernel
set_option maxRecDepth 20000 in
theorem ggX5_eatings_X5_noGrass : GoodIn wsX5_eatings wsX5_noGrass := goodIn_r _ [6, 7, 8, 9, 10, 5, 11, 12, 13, 14, 15, 16, 17, 18, 19, 20, 38, 39, 40, 41, 42, 43, 44, 45, 46, 47, 48, 49, 50, 51, 52, 53, 54, 55, 56, 57, 58, 59, 60, 61, 62, 63, 64, 65, 66, 67] (by decide +kernel) (by decide +kernel)
set_option maxRecDepth 20000 in
theorem gX5_eatings_X5_noGrass : GoodIn wsX5_eatings (wsV RX5 152 RX5 yX5_noGrass wsX5_noGrass) := goodIn_app (goodIn_of _ (by decide +kernel)) ggX5_eatings_X5_noGrass
set_option maxRecDepth 20000 in
theorem ggX5_eatings_X5_areSo : GoodIn wsX5_eatings wsX5_areSo := goodIn_r _ [24, 25, 26, 27, 28, 29, 30, 31, 5, 32, 1, 7, 33, 34, 35, 36, 37, 38, 39, 40, 41, 42, 43, 44, 45, 46, 47, 48, 49, 50, 51, 52, 53, 54, 55, 56, 57, 58, 59, 60, 61, 62, 63, 64, 65, 66, 67] (by decide +kernel) (by decide +kernel)
set_option maxRecDepth 20000 in
theorem gX5_eatings_X5_areSo : GoodIn wsX5_eatings (wsV RX5 210 RX5 yX5_areSo wsX5_areSo) := goodIn_app (goodIn_of _ (by decide +kernel)) ggX5_eatings_X5_areSo
theorem dX5_eatings_0 : decode cX5_eatings 0 = .ok (.aload_n 0, 1) := by decide +kernel
theorem dX5_eatings_1 : decode cX5_eatings 1 = .ok (.iload_n 1, 1) := by decide +kernel
theorem dX5_eatings_2 : decode cX5_eatings 2 = .ok (.invokevirtual 152, 3) := by decide +kernel
theorem dX5_eatings_5 : decode cX5_eatings 5 = .ok (.ifCond .eq 5, 3) := by decide +kernel
theorem dX5_eatings_8 : decode cX5_eatings 8 = .ok (.iconst (-1), 1) := by decide +kernel
theorem dX5_eatings_9 : decode cX5_eatings 9 = .ok (.ireturn, 1) := by decide +kernel
theorem dX5_eatings_10 : decode cX5_eatings 10 = .ok (.aload_n 0, 1) := by decide +kernel
theorem dX5_eatings_11 : decode cX5_eatings 11 = .ok (.getfield 13, 3) := by decide +kernel
theorem dX5_eatings_14 : decode cX5_eatings 14 = .ok (.iload_n 1, 1) := by decide +kernel
theorem dX5_eatings_15 : decode cX5_eatings 15 = .ok (.iaload, 1) := by decide +kernel
theorem dX5_eatings_16 : decode cX5_eatings 16 = .ok (.istore_n 2, 1) := by decide +kernel
theorem dX5_eatings_17 : decode cX5_eatings 17 = .ok (.iconst 0, 1) := by decide +kernel
theorem dX5_eatings_18 : decode cX5_eatings 18 = .ok (.istore_n 3, 1) := by decide +kernel
theorem dX5_eatings_19 : decode cX5_eatings 19 = .ok (.iconst 0, 1) := by decide +kernel
theorem dX5_eatings_20 : decode cX5_eatings 20 = .ok (.istore 4, 2) := by decide +kernel
theorem dX5_eatings_22 : decode cX5_eatings 22 = .ok (.iload 4, 2) := by decide +kernel
theorem dX5_eatings_24 : decode cX5_eatings 24 = .ok (.bipush 10, 2) := by decide +kernel
theorem dX5_eatings_26 : decode cX5_eatings 26 = .ok (.if_icmp .ge 35, 3) := by decide +kernel
theorem dX5_eatings_29 : decode cX5_eatings 29 = .ok (.aload_n 0, 1) := by decide +kernel
theorem dX5_eatings_30 : decode cX5_eatings 30 = .ok (.getfield 13, 3) := by decide +kernel
theorem dX5_eatings_33 : decode cX5_eatings 33 = .ok (.iload_n 1, 1) := by decide +kernel
theorem dX5_eatings_34 : decode cX5_eatings 34 = .ok (.iload 4, 2) := by decide +kernel
theorem dX5_eatings_36 : decode cX5_eatings 36 = .ok (.iastore, 1) := by decide +kernel
theorem dX5_eatings_37 : decode cX5_eatings 37 = .ok (.iload_n 3, 1) := by decide +kernel
theorem dX5_eatings_38 : decode cX5_eatings 38 = .ok (.aload_n 0, 1) := by decide +kernel
theorem dX5_eatings_39 : decode cX5_eatings 39 = .ok (.invokevirtual 210, 3) := by decide +kernel
theorem dX5_eatings_42 : decode cX5_eatings 42 = .ok (.ifCond .eq 10, 3) := by decide +kernel
theorem dX5_eatings_45 : decode cX5_eatings 45 = .ok (.iconst 1, 1) := by decide +kernel
theorem dX5_eatings_46 : decode cX5_eatings 46 = .ok (.iload 4, 2) := by decide +kernel
theorem dX5_eatings_48 : decode cX5_eatings 48 = .ok (.ishl, 1) := by decide +kernel
theorem dX5_eatings_49 : decode cX5_eatings 49 = .ok (.goto 4, 3) := by decide +kernel
theorem dX5_eatings_52 : decode cX5_eatings 52 = .ok (.iconst 0, 1) := by decide +kernel
theorem dX5_eatings_53 : decode cX5_eatings 53 = .ok (.ior, 1) := by decide +kernel
theorem dX5_eatings_54 : decode cX5_eatings 54 = .ok (.istore_n 3, 1) := by decide +kernel
theorem dX5_eatings_55 : decode cX5_eatings 55 = .ok (.iinc 4 1, 3) := by decide +kernel
theorem dX5_eatings_58 : decode cX5_eatings 58 = .ok (.goto (-36), 3) := by decide +kernel
theorem dX5_eatings_61 : decode cX5_eatings 61 = .ok (.aload_n 0, 1) := by decide +kernel
theorem dX5_eatings_62 : decode cX5_eatings 62 = .ok (.getfield 13, 3) := by decide +kernel
theorem dX5_eatings_65 : decode cX5_eatings 65 = .ok (.iload_n 1, 1) := by decide +kernel
theorem dX5_eatings_66 : decode cX5_eatings 66 = .ok (.iload_n 2, 1) := by decide +kernel
theorem dX5_eatings_67 : decode cX5_eatings 67 = .ok (.iastore, 1) := by decide +kernel
theorem dX5_eatings_68 : decode cX5_eatings 68 = .ok (.iload_n 3, 1) := by decide +kernel
theorem dX5_eatings_69 : decode cX5_eatings 69 = .ok (.ireturn, 1) := by decide +kernel
set_option maxRecDepth 20000 in
theorem ggX5_waysOn_X5_beside : GoodIn wsX5_waysOn wsX5_beside := goodIn_r _ [5, 6, 7, 8, 9, 4, 10, 14, 15, 16, 17, 18, 19, 20, 21, 22, 23, 24, 25, 26, 27, 28, 29, 30, 31, 32, 33, 34, 35, 36, 37, 38, 39, 40, 41, 42, 43] (by decide +kernel) (by decide +kernel)
set_option maxRecDepth 20000 in
theorem gX5_waysOn_X5_beside : GoodIn wsX5_waysOn (wsV RX5 172 RX5 yX5_beside wsX5_beside) := goodIn_app (goodIn_of _ (by decide +kernel)) ggX5_waysOn_X5_beside
set_option maxRecDepth 20000 in
theorem ggX5_waysOn_X5_isIn : GoodIn wsX5_waysOn wsX5_isIn := goodIn_r _ [13] (by decide +kernel) (by decide +kernel)
set_option maxRecDepth 20000 in
theorem gX5_waysOn_X5_isIn : GoodIn wsX5_waysOn (va_wsS RX5 175 yX5_isIn wsX5_isIn) := goodIn_app (goodIn_of _ (by decide +kernel)) ggX5_waysOn_X5_isIn
theorem dX5_waysOn_0 : decode cX5_waysOn 0 = .ok (.iconst 0, 1) := by decide +kernel
theorem dX5_waysOn_1 : decode cX5_waysOn 1 = .ok (.istore_n 3, 1) := by decide +kernel
theorem dX5_waysOn_2 : decode cX5_waysOn 2 = .ok (.iconst 0, 1) := by decide +kernel
theorem dX5_waysOn_3 : decode cX5_waysOn 3 = .ok (.istore 4, 2) := by decide +kernel
theorem dX5_waysOn_5 : decode cX5_waysOn 5 = .ok (.iload 4, 2) := by decide +kernel
theorem dX5_waysOn_7 : decode cX5_waysOn 7 = .ok (.iconst 4, 1) := by decide +kernel
theorem dX5_waysOn_8 : decode cX5_waysOn 8 = .ok (.if_icmp .ge 40, 3) := by decide +kernel
theorem dX5_waysOn_11 : decode cX5_waysOn 11 = .ok (.aload_n 0, 1) := by decide +kernel
theorem dX5_waysOn_12 : decode cX5_waysOn 12 = .ok (.iload_n 2, 1) := by decide +kernel
theorem dX5_waysOn_13 : decode cX5_waysOn 13 = .ok (.iload 4, 2) := by decide +kernel
theorem dX5_waysOn_15 : decode cX5_waysOn 15 = .ok (.invokevirtual 172, 3) := by decide +kernel
theorem dX5_waysOn_18 : decode cX5_waysOn 18 = .ok (.istore 5, 2) := by decide +kernel
theorem dX5_waysOn_20 : decode cX5_waysOn 20 = .ok (.iload_n 3, 1) := by decide +kernel
theorem dX5_waysOn_21 : decode cX5_waysOn 21 = .ok (.iload 5, 2) := by decide +kernel
theorem dX5_waysOn_23 : decode cX5_waysOn 23 = .ok (.ifCond .lt 16, 3) := by decide +kernel
theorem dX5_waysOn_26 : decode cX5_waysOn 26 = .ok (.iload_n 1, 1) := by decide +kernel
theorem dX5_waysOn_27 : decode cX5_waysOn 27 = .ok (.iload 5, 2) := by decide +kernel
theorem dX5_waysOn_29 : decode cX5_waysOn 29 = .ok (.invokestatic 175, 3) := by decide +kernel
theorem dX5_waysOn_32 : decode cX5_waysOn 32 = .ok (.ifCond .eq 7, 3) := by decide +kernel
theorem dX5_waysOn_35 : decode cX5_waysOn 35 = .ok (.iconst 1, 1) := by decide +kernel
theorem dX5_waysOn_36 : decode cX5_waysOn 36 = .ok (.goto 4, 3) := by decide +kernel
theorem dX5_waysOn_39 : decode cX5_waysOn 39 = .ok (.iconst 0, 1) := by decide +kernel
theorem dX5_waysOn_40 : decode cX5_waysOn 40 = .ok (.iadd, 1) := by decide +kernel
theorem dX5_waysOn_41 : decode cX5_waysOn 41 = .ok (.istore_n 3, 1) := by decide +kernel
theorem dX5_waysOn_42 : decode cX5_waysOn 42 = .ok (.iinc 4 1, 3) := by decide +kernel
theorem dX5_waysOn_45 : decode cX5_waysOn 45 = .ok (.goto (-40), 3) := by decide +kernel
theorem dX5_waysOn_48 : decode cX5_waysOn 48 = .ok (.iload_n 3, 1) := by decide +kernel
theorem dX5_waysOn_49 : decode cX5_waysOn 49 = .ok (.ireturn, 1) := by decide +kernel
set_option maxRecDepth 20000 in
theorem ggX5_chanceFrom_X5_beside : GoodIn wsX5_chanceFrom wsX5_beside := goodIn_r _ [8, 9, 10, 11, 12, 7, 13, 21, 22, 23, 24, 25, 26, 27, 28, 29, 30, 31, 32, 33, 34, 35, 36, 37, 38, 39, 40, 41, 42, 43, 44, 45, 46, 47, 48, 49, 50] (by decide +kernel) (by decide +kernel)
set_option maxRecDepth 20000 in
theorem gX5_chanceFrom_X5_beside : GoodIn wsX5_chanceFrom (wsV RX5 172 RX5 yX5_beside wsX5_beside) := goodIn_app (goodIn_of _ (by decide +kernel)) ggX5_chanceFrom_X5_beside
set_option maxRecDepth 20000 in
theorem ggX5_chanceFrom_X5_isIn : GoodIn wsX5_chanceFrom wsX5_isIn := goodIn_r _ [16] (by decide +kernel) (by decide +kernel)
set_option maxRecDepth 20000 in
theorem gX5_chanceFrom_X5_isIn : GoodIn wsX5_chanceFrom (va_wsS RX5 175 yX5_isIn wsX5_isIn) := goodIn_app (goodIn_of _ (by decide +kernel)) ggX5_chanceFrom_X5_isIn
set_option maxRecDepth 20000 in
theorem ggX5_chanceFrom_X5_waysOn : GoodIn wsX5_chanceFrom wsX5_waysOn := goodIn_r _ [20, 4, 5, 6, 7, 8, 9, 10, 11, 12, 13, 14, 15, 16, 21, 22, 23, 24, 25, 26, 27, 28, 29, 30, 31, 32, 33, 34, 35, 36, 37, 38, 39, 40, 41, 42, 43, 44, 45, 46, 47, 48, 49, 50] (by decide +kernel) (by decide +kernel)
set_option maxRecDepth 20000 in
theorem gX5_chanceFrom_X5_waysOn : GoodIn wsX5_chanceFrom (wsV RX5 214 RX5 yX5_waysOn wsX5_waysOn) := goodIn_app (goodIn_of _ (by decide +kernel)) ggX5_chanceFrom_X5_waysOn
theorem dX5_chanceFrom_0 : decode cX5_chanceFrom 0 = .ok (.iconst 0, 1) := by decide +kernel
theorem dX5_chanceFrom_1 : decode cX5_chanceFrom 1 = .ok (.istore 5, 2) := by decide +kernel
theorem dX5_chanceFrom_3 : decode cX5_chanceFrom 3 = .ok (.iconst 1, 1) := by decide +kernel
theorem dX5_chanceFrom_4 : decode cX5_chanceFrom 4 = .ok (.iload_n 2, 1) := by decide +kernel
theorem dX5_chanceFrom_5 : decode cX5_chanceFrom 5 = .ok (.ishl, 1) := by decide +kernel
theorem dX5_chanceFrom_6 : decode cX5_chanceFrom 6 = .ok (.istore 6, 2) := by decide +kernel
theorem dX5_chanceFrom_8 : decode cX5_chanceFrom 8 = .ok (.lconst 0, 1) := by decide +kernel
theorem dX5_chanceFrom_9 : decode cX5_chanceFrom 9 = .ok (.lstore 7, 2) := by decide +kernel
theorem dX5_chanceFrom_11 : decode cX5_chanceFrom 11 = .ok (.aload_n 0, 1) := by decide +kernel
theorem dX5_chanceFrom_12 : decode cX5_chanceFrom 12 = .ok (.getfield 19, 3) := by decide +kernel
theorem dX5_chanceFrom_15 : decode cX5_chanceFrom 15 = .ok (.iconst 0, 1) := by decide +kernel
theorem dX5_chanceFrom_16 : decode cX5_chanceFrom 16 = .ok (.iload_n 2, 1) := by decide +kernel
theorem dX5_chanceFrom_17 : decode cX5_chanceFrom 17 = .ok (.iastore, 1) := by decide +kernel
theorem dX5_chanceFrom_18 : decode cX5_chanceFrom 18 = .ok (.aload_n 0, 1) := by decide +kernel
theorem dX5_chanceFrom_19 : decode cX5_chanceFrom 19 = .ok (.getfield 22, 3) := by decide +kernel
theorem dX5_chanceFrom_22 : decode cX5_chanceFrom 22 = .ok (.iconst 0, 1) := by decide +kernel
theorem dX5_chanceFrom_23 : decode cX5_chanceFrom 23 = .ok (.iconst 0, 1) := by decide +kernel
theorem dX5_chanceFrom_24 : decode cX5_chanceFrom 24 = .ok (.iastore, 1) := by decide +kernel
theorem dX5_chanceFrom_25 : decode cX5_chanceFrom 25 = .ok (.aload_n 0, 1) := by decide +kernel
theorem dX5_chanceFrom_26 : decode cX5_chanceFrom 26 = .ok (.getfield 37, 3) := by decide +kernel
theorem dX5_chanceFrom_29 : decode cX5_chanceFrom 29 = .ok (.iconst 0, 1) := by decide +kernel
theorem dX5_chanceFrom_30 : decode cX5_chanceFrom 30 = .ok (.lload_n 3, 1) := by decide +kernel
theorem dX5_chanceFrom_31 : decode cX5_chanceFrom 31 = .ok (.lastore, 1) := by decide +kernel
theorem dX5_chanceFrom_32 : decode cX5_chanceFrom 32 = .ok (.iload 5, 2) := by decide +kernel
theorem dX5_chanceFrom_34 : decode cX5_chanceFrom 34 = .ok (.ifCond .lt 174, 3) := by decide +kernel
theorem dX5_chanceFrom_37 : decode cX5_chanceFrom 37 = .ok (.aload_n 0, 1) := by decide +kernel
theorem dX5_chanceFrom_38 : decode cX5_chanceFrom 38 = .ok (.getfield 22, 3) := by decide +kernel
theorem dX5_chanceFrom_41 : decode cX5_chanceFrom 41 = .ok (.iload 5, 2) := by decide +kernel
theorem dX5_chanceFrom_43 : decode cX5_chanceFrom 43 = .ok (.iaload, 1) := by decide +kernel
theorem dX5_chanceFrom_44 : decode cX5_chanceFrom 44 = .ok (.istore 9, 2) := by decide +kernel
theorem dX5_chanceFrom_46 : decode cX5_chanceFrom 46 = .ok (.iload 9, 2) := by decide +kernel
theorem dX5_chanceFrom_48 : decode cX5_chanceFrom 48 = .ok (.iconst 3, 1) := by decide +kernel
theorem dX5_chanceFrom_49 : decode cX5_chanceFrom 49 = .ok (.if_icmp .le 47, 3) := by decide +kernel
theorem dX5_chanceFrom_52 : decode cX5_chanceFrom 52 = .ok (.lload 7, 2) := by decide +kernel
theorem dX5_chanceFrom_54 : decode cX5_chanceFrom 54 = .ok (.iload 6, 2) := by decide +kernel
theorem dX5_chanceFrom_56 : decode cX5_chanceFrom 56 = .ok (.iload_n 1, 1) := by decide +kernel
theorem dX5_chanceFrom_57 : decode cX5_chanceFrom 57 = .ok (.if_icmp .ne 13, 3) := by decide +kernel
theorem dX5_chanceFrom_60 : decode cX5_chanceFrom 60 = .ok (.aload_n 0, 1) := by decide +kernel
theorem dX5_chanceFrom_61 : decode cX5_chanceFrom 61 = .ok (.getfield 37, 3) := by decide +kernel
theorem dX5_chanceFrom_64 : decode cX5_chanceFrom 64 = .ok (.iload 5, 2) := by decide +kernel
theorem dX5_chanceFrom_66 : decode cX5_chanceFrom 66 = .ok (.laload, 1) := by decide +kernel
theorem dX5_chanceFrom_67 : decode cX5_chanceFrom 67 = .ok (.goto 4, 3) := by decide +kernel
theorem dX5_chanceFrom_70 : decode cX5_chanceFrom 70 = .ok (.lconst 0, 1) := by decide +kernel
theorem dX5_chanceFrom_71 : decode cX5_chanceFrom 71 = .ok (.ladd, 1) := by decide +kernel
theorem dX5_chanceFrom_72 : decode cX5_chanceFrom 72 = .ok (.lstore 7, 2) := by decide +kernel
theorem dX5_chanceFrom_74 : decode cX5_chanceFrom 74 = .ok (.iload 6, 2) := by decide +kernel
theorem dX5_chanceFrom_76 : decode cX5_chanceFrom 76 = .ok (.iconst 1, 1) := by decide +kernel
theorem dX5_chanceFrom_77 : decode cX5_chanceFrom 77 = .ok (.aload_n 0, 1) := by decide +kernel
theorem dX5_chanceFrom_78 : decode cX5_chanceFrom 78 = .ok (.getfield 19, 3) := by decide +kernel
theorem dX5_chanceFrom_81 : decode cX5_chanceFrom 81 = .ok (.iload 5, 2) := by decide +kernel
theorem dX5_chanceFrom_83 : decode cX5_chanceFrom 83 = .ok (.iaload, 1) := by decide +kernel
theorem dX5_chanceFrom_84 : decode cX5_chanceFrom 84 = .ok (.ishl, 1) := by decide +kernel
theorem dX5_chanceFrom_85 : decode cX5_chanceFrom 85 = .ok (.iconst (-1), 1) := by decide +kernel
theorem dX5_chanceFrom_86 : decode cX5_chanceFrom 86 = .ok (.ixor, 1) := by decide +kernel
theorem dX5_chanceFrom_87 : decode cX5_chanceFrom 87 = .ok (.iand, 1) := by decide +kernel
theorem dX5_chanceFrom_88 : decode cX5_chanceFrom 88 = .ok (.istore 6, 2) := by decide +kernel
theorem dX5_chanceFrom_90 : decode cX5_chanceFrom 90 = .ok (.iinc 5 (-1), 3) := by decide +kernel
theorem dX5_chanceFrom_93 : decode cX5_chanceFrom 93 = .ok (.goto 112, 3) := by decide +kernel
theorem dX5_chanceFrom_96 : decode cX5_chanceFrom 96 = .ok (.aload_n 0, 1) := by decide +kernel
theorem dX5_chanceFrom_97 : decode cX5_chanceFrom 97 = .ok (.getfield 22, 3) := by decide +kernel
theorem dX5_chanceFrom_100 : decode cX5_chanceFrom 100 = .ok (.iload 5, 2) := by decide +kernel
theorem dX5_chanceFrom_102 : decode cX5_chanceFrom 102 = .ok (.dup2, 1) := by decide +kernel
theorem dX5_chanceFrom_103 : decode cX5_chanceFrom 103 = .ok (.iaload, 1) := by decide +kernel
theorem dX5_chanceFrom_104 : decode cX5_chanceFrom 104 = .ok (.iconst 1, 1) := by decide +kernel
theorem dX5_chanceFrom_105 : decode cX5_chanceFrom 105 = .ok (.iadd, 1) := by decide +kernel
theorem dX5_chanceFrom_106 : decode cX5_chanceFrom 106 = .ok (.iastore, 1) := by decide +kernel
theorem dX5_chanceFrom_107 : decode cX5_chanceFrom 107 = .ok (.aload_n 0, 1) := by decide +kernel
theorem dX5_chanceFrom_108 : decode cX5_chanceFrom 108 = .ok (.aload_n 0, 1) := by decide +kernel
theorem dX5_chanceFrom_109 : decode cX5_chanceFrom 109 = .ok (.getfield 19, 3) := by decide +kernel
theorem dX5_chanceFrom_112 : decode cX5_chanceFrom 112 = .ok (.iload 5, 2) := by decide +kernel
theorem dX5_chanceFrom_114 : decode cX5_chanceFrom 114 = .ok (.iaload, 1) := by decide +kernel
theorem dX5_chanceFrom_115 : decode cX5_chanceFrom 115 = .ok (.iload 9, 2) := by decide +kernel
theorem dX5_chanceFrom_117 : decode cX5_chanceFrom 117 = .ok (.invokevirtual 172, 3) := by decide +kernel
theorem dX5_chanceFrom_120 : decode cX5_chanceFrom 120 = .ok (.istore 10, 2) := by decide +kernel
theorem dX5_chanceFrom_122 : decode cX5_chanceFrom 122 = .ok (.iload_n 1, 1) := by decide +kernel
theorem dX5_chanceFrom_123 : decode cX5_chanceFrom 123 = .ok (.iload 6, 2) := by decide +kernel
theorem dX5_chanceFrom_125 : decode cX5_chanceFrom 125 = .ok (.iconst (-1), 1) := by decide +kernel
theorem dX5_chanceFrom_126 : decode cX5_chanceFrom 126 = .ok (.ixor, 1) := by decide +kernel
theorem dX5_chanceFrom_127 : decode cX5_chanceFrom 127 = .ok (.iand, 1) := by decide +kernel
theorem dX5_chanceFrom_128 : decode cX5_chanceFrom 128 = .ok (.istore 11, 2) := by decide +kernel
theorem dX5_chanceFrom_130 : decode cX5_chanceFrom 130 = .ok (.iload 10, 2) := by decide +kernel
theorem dX5_chanceFrom_132 : decode cX5_chanceFrom 132 = .ok (.ifCond .lt 73, 3) := by decide +kernel
theorem dX5_chanceFrom_135 : decode cX5_chanceFrom 135 = .ok (.iload 11, 2) := by decide +kernel
theorem dX5_chanceFrom_137 : decode cX5_chanceFrom 137 = .ok (.iload 10, 2) := by decide +kernel
theorem dX5_chanceFrom_139 : decode cX5_chanceFrom 139 = .ok (.invokestatic 175, 3) := by decide +kernel
theorem dX5_chanceFrom_142 : decode cX5_chanceFrom 142 = .ok (.ifCond .eq 63, 3) := by decide +kernel
theorem dX5_chanceFrom_145 : decode cX5_chanceFrom 145 = .ok (.aload_n 0, 1) := by decide +kernel
theorem dX5_chanceFrom_146 : decode cX5_chanceFrom 146 = .ok (.getfield 37, 3) := by decide +kernel
theorem dX5_chanceFrom_149 : decode cX5_chanceFrom 149 = .ok (.iload 5, 2) := by decide +kernel
theorem dX5_chanceFrom_151 : decode cX5_chanceFrom 151 = .ok (.iconst 1, 1) := by decide +kernel
theorem dX5_chanceFrom_152 : decode cX5_chanceFrom 152 = .ok (.iadd, 1) := by decide +kernel
theorem dX5_chanceFrom_153 : decode cX5_chanceFrom 153 = .ok (.aload_n 0, 1) := by decide +kernel
theorem dX5_chanceFrom_154 : decode cX5_chanceFrom 154 = .ok (.getfield 37, 3) := by decide +kernel
theorem dX5_chanceFrom_157 : decode cX5_chanceFrom 157 = .ok (.iload 5, 2) := by decide +kernel
theorem dX5_chanceFrom_159 : decode cX5_chanceFrom 159 = .ok (.laload, 1) := by decide +kernel
theorem dX5_chanceFrom_160 : decode cX5_chanceFrom 160 = .ok (.aload_n 0, 1) := by decide +kernel
theorem dX5_chanceFrom_161 : decode cX5_chanceFrom 161 = .ok (.iload 11, 2) := by decide +kernel
theorem dX5_chanceFrom_163 : decode cX5_chanceFrom 163 = .ok (.aload_n 0, 1) := by decide +kernel
theorem dX5_chanceFrom_164 : decode cX5_chanceFrom 164 = .ok (.getfield 19, 3) := by decide +kernel
theorem dX5_chanceFrom_167 : decode cX5_chanceFrom 167 = .ok (.iload 5, 2) := by decide +kernel
theorem dX5_chanceFrom_169 : decode cX5_chanceFrom 169 = .ok (.iaload, 1) := by decide +kernel
theorem dX5_chanceFrom_170 : decode cX5_chanceFrom 170 = .ok (.invokevirtual 214, 3) := by decide +kernel
theorem dX5_chanceFrom_173 : decode cX5_chanceFrom 173 = .ok (.i2l, 1) := by decide +kernel
theorem dX5_chanceFrom_174 : decode cX5_chanceFrom 174 = .ok (.ldiv, 1) := by decide +kernel
theorem dX5_chanceFrom_175 : decode cX5_chanceFrom 175 = .ok (.lastore, 1) := by decide +kernel
theorem dX5_chanceFrom_176 : decode cX5_chanceFrom 176 = .ok (.iinc 5 1, 3) := by decide +kernel
theorem dX5_chanceFrom_179 : decode cX5_chanceFrom 179 = .ok (.iload 6, 2) := by decide +kernel
theorem dX5_chanceFrom_181 : decode cX5_chanceFrom 181 = .ok (.iconst 1, 1) := by decide +kernel
theorem dX5_chanceFrom_182 : decode cX5_chanceFrom 182 = .ok (.iload 10, 2) := by decide +kernel
theorem dX5_chanceFrom_184 : decode cX5_chanceFrom 184 = .ok (.ishl, 1) := by decide +kernel
theorem dX5_chanceFrom_185 : decode cX5_chanceFrom 185 = .ok (.ior, 1) := by decide +kernel
theorem dX5_chanceFrom_186 : decode cX5_chanceFrom 186 = .ok (.istore 6, 2) := by decide +kernel
theorem dX5_chanceFrom_188 : decode cX5_chanceFrom 188 = .ok (.aload_n 0, 1) := by decide +kernel
theorem dX5_chanceFrom_189 : decode cX5_chanceFrom 189 = .ok (.getfield 19, 3) := by decide +kernel
theorem dX5_chanceFrom_192 : decode cX5_chanceFrom 192 = .ok (.iload 5, 2) := by decide +kernel
theorem dX5_chanceFrom_194 : decode cX5_chanceFrom 194 = .ok (.iload 10, 2) := by decide +kernel
theorem dX5_chanceFrom_196 : decode cX5_chanceFrom 196 = .ok (.iastore, 1) := by decide +kernel
theorem dX5_chanceFrom_197 : decode cX5_chanceFrom 197 = .ok (.aload_n 0, 1) := by decide +kernel
theorem dX5_chanceFrom_198 : decode cX5_chanceFrom 198 = .ok (.getfield 22, 3) := by decide +kernel
theorem dX5_chanceFrom_201 : decode cX5_chanceFrom 201 = .ok (.iload 5, 2) := by decide +kernel
theorem dX5_chanceFrom_203 : decode cX5_chanceFrom 203 = .ok (.iconst 0, 1) := by decide +kernel
theorem dX5_chanceFrom_204 : decode cX5_chanceFrom 204 = .ok (.iastore, 1) := by decide +kernel
theorem dX5_chanceFrom_205 : decode cX5_chanceFrom 205 = .ok (.goto (-173), 3) := by decide +kernel
theorem dX5_chanceFrom_208 : decode cX5_chanceFrom 208 = .ok (.lload 7, 2) := by decide +kernel
theorem dX5_chanceFrom_210 : decode cX5_chanceFrom 210 = .ok (.lreturn, 1) := by decide +kernel
set_option maxRecDepth 20000 in
theorem ggX5_odds_X5_noPlace : GoodIn wsX5_odds wsX5_noPlace := goodIn_r _ [6, 7, 8, 9, 5, 10, 11, 12, 13, 14, 15, 61, 62, 63, 64, 65, 66, 67, 68, 69, 70, 71, 72, 73, 74, 75, 76, 77, 78, 79, 80, 81, 82, 83, 84, 85, 86, 87, 88, 89, 90] (by decide +kernel) (by decide +kernel)
set_option maxRecDepth 20000 in
theorem gX5_odds_X5_noPlace : GoodIn wsX5_odds (wsV RX5 77 RX5 yX5_noPlace wsX5_noPlace) := goodIn_app (goodIn_of _ (by decide +kernel)) ggX5_odds_X5_noPlace
set_option maxRecDepth 20000 in
theorem ggX5_odds_X5_noWeeks : GoodIn wsX5_odds wsX5_noWeeks := goodIn_r _ [18, 19, 13, 14, 5, 15] (by decide +kernel) (by decide +kernel)
set_option maxRecDepth 20000 in
theorem gX5_odds_X5_noWeeks : GoodIn wsX5_odds (va_wsS RX5 157 yX5_noWeeks wsX5_noWeeks) := goodIn_app (goodIn_of _ (by decide +kernel)) ggX5_odds_X5_noWeeks
set_option maxRecDepth 20000 in
theorem ggX5_odds_X5_in : GoodIn wsX5_odds wsX5_in := goodIn_r _ [15] (by decide +kernel) (by decide +kernel)
set_option maxRecDepth 20000 in
theorem gX5_odds_X5_in : GoodIn wsX5_odds (va_wsS RX5 73 yX5_in wsX5_in) := goodIn_app (goodIn_of _ (by decide +kernel)) ggX5_odds_X5_in
set_option maxRecDepth 20000 in
theorem ggX5_odds_X5_lost : GoodIn wsX5_odds wsX5_lost := goodIn_r _ [22, 23] (by decide +kernel) (by decide +kernel)
set_option maxRecDepth 20000 in
theorem gX5_odds_X5_lost : GoodIn wsX5_odds (va_wsS RX5 59 yX5_lost wsX5_lost) := goodIn_app (goodIn_of _ (by decide +kernel)) ggX5_odds_X5_lost
set_option maxRecDepth 20000 in
theorem ggX5_odds_X5_ripeBy : GoodIn wsX5_odds wsX5_ripeBy := goodIn_r _ [27, 28, 7, 8, 9, 5, 10, 11, 12, 29, 30, 31, 32, 33, 34, 35, 36, 37, 38, 39, 61, 62, 63, 64, 65, 66, 67, 68, 69, 70, 71, 72, 73, 74, 75, 76, 77, 78, 79, 80, 81, 82, 83, 84, 85, 86, 87, 88, 89, 90] (by decide +kernel) (by decide +kernel)
set_option maxRecDepth 20000 in
theorem gX5_odds_X5_ripeBy : GoodIn wsX5_odds (wsV RX5 160 RX5 yX5_ripeBy wsX5_ripeBy) := goodIn_app (goodIn_of _ (by decide +kernel)) ggX5_odds_X5_ripeBy
set_option maxRecDepth 20000 in
theorem ggX5_odds_X5_isIn : GoodIn wsX5_odds wsX5_isIn := goodIn_r _ [42] (by decide +kernel) (by decide +kernel)
set_option maxRecDepth 20000 in
theorem gX5_odds_X5_isIn : GoodIn wsX5_odds (va_wsS RX5 175 yX5_isIn wsX5_isIn) := goodIn_app (goodIn_of _ (by decide +kernel)) ggX5_odds_X5_isIn
set_option maxRecDepth 20000 in
theorem ggX5_odds_X5_chanceFrom : GoodIn wsX5_odds wsX5_chanceFrom := goodIn_r _ [46, 47, 48, 49, 50, 51, 52, 5, 53, 12, 11, 13, 14, 15, 40, 41, 42, 54, 55, 56, 57, 61, 62, 63, 64, 65, 66, 67, 68, 69, 70, 71, 72, 73, 74, 75, 76, 77, 78, 79, 80, 81, 82, 83, 84, 85, 86, 87, 88, 89, 90] (by decide +kernel) (by decide +kernel)
set_option maxRecDepth 20000 in
theorem gX5_odds_X5_chanceFrom : GoodIn wsX5_odds (wsV RX5 219 RX5 yX5_chanceFrom wsX5_chanceFrom) := goodIn_app (goodIn_of _ (by decide +kernel)) ggX5_odds_X5_chanceFrom
set_option maxRecDepth 20000 in
theorem ggX5_odds_X5_share : GoodIn wsX5_odds wsX5_share := goodIn_r _ [60] (by decide +kernel) (by decide +kernel)
set_option maxRecDepth 20000 in
theorem gX5_odds_X5_share : GoodIn wsX5_odds (va_wsS RX5 223 yX5_share wsX5_share) := goodIn_app (goodIn_of _ (by decide +kernel)) ggX5_odds_X5_share
theorem dX5_odds_0 : decode cX5_odds 0 = .ok (.aload_n 0, 1) := by decide +kernel
theorem dX5_odds_1 : decode cX5_odds 1 = .ok (.iload_n 2, 1) := by decide +kernel
theorem dX5_odds_2 : decode cX5_odds 2 = .ok (.invokevirtual 77, 3) := by decide +kernel
theorem dX5_odds_5 : decode cX5_odds 5 = .ok (.ifCond .ne 20, 3) := by decide +kernel
theorem dX5_odds_8 : decode cX5_odds 8 = .ok (.iload_n 1, 1) := by decide +kernel
theorem dX5_odds_9 : decode cX5_odds 9 = .ok (.invokestatic 157, 3) := by decide +kernel
theorem dX5_odds_12 : decode cX5_odds 12 = .ok (.ifCond .ne 13, 3) := by decide +kernel
theorem dX5_odds_15 : decode cX5_odds 15 = .ok (.iload_n 3, 1) := by decide +kernel
theorem dX5_odds_16 : decode cX5_odds 16 = .ok (.i2l, 1) := by decide +kernel
theorem dX5_odds_17 : decode cX5_odds 17 = .ok (.lconst 0, 1) := by decide +kernel
theorem dX5_odds_18 : decode cX5_odds 18 = .ok (.lconst 1, 1) := by decide +kernel
theorem dX5_odds_19 : decode cX5_odds 19 = .ok (.invokestatic 73, 3) := by decide +kernel
theorem dX5_odds_22 : decode cX5_odds 22 = .ok (.ifCond .ne 7, 3) := by decide +kernel
theorem dX5_odds_25 : decode cX5_odds 25 = .ok (.invokestatic 59, 3) := by decide +kernel
theorem dX5_odds_28 : decode cX5_odds 28 = .ok (.lreturn, 1) := by decide +kernel
theorem dX5_odds_29 : decode cX5_odds 29 = .ok (.aload_n 0, 1) := by decide +kernel
theorem dX5_odds_30 : decode cX5_odds 30 = .ok (.iload_n 1, 1) := by decide +kernel
theorem dX5_odds_31 : decode cX5_odds 31 = .ok (.invokevirtual 160, 3) := by decide +kernel
theorem dX5_odds_34 : decode cX5_odds 34 = .ok (.iload_n 2, 1) := by decide +kernel
theorem dX5_odds_35 : decode cX5_odds 35 = .ok (.invokestatic 175, 3) := by decide +kernel
theorem dX5_odds_38 : decode cX5_odds 38 = .ok (.ifCond .ne 7, 3) := by decide +kernel
theorem dX5_odds_41 : decode cX5_odds 41 = .ok (.invokestatic 59, 3) := by decide +kernel
theorem dX5_odds_44 : decode cX5_odds 44 = .ok (.lreturn, 1) := by decide +kernel
theorem dX5_odds_45 : decode cX5_odds 45 = .ok (.lconst 1, 1) := by decide +kernel
theorem dX5_odds_46 : decode cX5_odds 46 = .ok (.lstore 4, 2) := by decide +kernel
theorem dX5_odds_48 : decode cX5_odds 48 = .ok (.iconst 0, 1) := by decide +kernel
theorem dX5_odds_49 : decode cX5_odds 49 = .ok (.istore 6, 2) := by decide +kernel
theorem dX5_odds_51 : decode cX5_odds 51 = .ok (.iload 6, 2) := by decide +kernel
theorem dX5_odds_53 : decode cX5_odds 53 = .ok (.bipush 15, 2) := by decide +kernel
theorem dX5_odds_55 : decode cX5_odds 55 = .ok (.if_icmp .ge 17, 3) := by decide +kernel
theorem dX5_odds_58 : decode cX5_odds 58 = .ok (.lload 4, 2) := by decide +kernel
theorem dX5_odds_60 : decode cX5_odds 60 = .ok (.ldc2_w 217, 3) := by decide +kernel
theorem dX5_odds_63 : decode cX5_odds 63 = .ok (.lmul, 1) := by decide +kernel
theorem dX5_odds_64 : decode cX5_odds 64 = .ok (.lstore 4, 2) := by decide +kernel
theorem dX5_odds_66 : decode cX5_odds 66 = .ok (.iinc 6 1, 3) := by decide +kernel
theorem dX5_odds_69 : decode cX5_odds 69 = .ok (.goto (-18), 3) := by decide +kernel
theorem dX5_odds_72 : decode cX5_odds 72 = .ok (.aload_n 0, 1) := by decide +kernel
theorem dX5_odds_73 : decode cX5_odds 73 = .ok (.aload_n 0, 1) := by decide +kernel
theorem dX5_odds_74 : decode cX5_odds 74 = .ok (.iload_n 1, 1) := by decide +kernel
theorem dX5_odds_75 : decode cX5_odds 75 = .ok (.invokevirtual 160, 3) := by decide +kernel
theorem dX5_odds_78 : decode cX5_odds 78 = .ok (.iload_n 2, 1) := by decide +kernel
theorem dX5_odds_79 : decode cX5_odds 79 = .ok (.lload 4, 2) := by decide +kernel
theorem dX5_odds_81 : decode cX5_odds 81 = .ok (.invokevirtual 219, 3) := by decide +kernel
theorem dX5_odds_84 : decode cX5_odds 84 = .ok (.lload 4, 2) := by decide +kernel
theorem dX5_odds_86 : decode cX5_odds 86 = .ok (.iload_n 3, 1) := by decide +kernel
theorem dX5_odds_87 : decode cX5_odds 87 = .ok (.invokestatic 223, 3) := by decide +kernel
theorem dX5_odds_90 : decode cX5_odds 90 = .ok (.lreturn, 1) := by decide +kernel
set_option maxRecDepth 20000 in
theorem ggX5_noSheet_X5_in : GoodIn wsX5_noSheet wsX5_in := goodIn_r _ [5] (by decide +kernel) (by decide +kernel)
set_option maxRecDepth 20000 in
theorem gX5_noSheet_X5_in : GoodIn wsX5_noSheet (va_wsS RX5 73 yX5_in wsX5_in) := goodIn_app (goodIn_of _ (by decide +kernel)) ggX5_noSheet_X5_in
theorem dX5_noSheet_0 : decode cX5_noSheet 0 = .ok (.iload_n 0, 1) := by decide +kernel
theorem dX5_noSheet_1 : decode cX5_noSheet 1 = .ok (.i2l, 1) := by decide +kernel
theorem dX5_noSheet_2 : decode cX5_noSheet 2 = .ok (.lconst 0, 1) := by decide +kernel
theorem dX5_noSheet_3 : decode cX5_noSheet 3 = .ok (.ldc2_w 155, 3) := by decide +kernel
theorem dX5_noSheet_6 : decode cX5_noSheet 6 = .ok (.invokestatic 73, 3) := by decide +kernel
theorem dX5_noSheet_9 : decode cX5_noSheet 9 = .ok (.ifCond .ne 7, 3) := by decide +kernel
theorem dX5_noSheet_12 : decode cX5_noSheet 12 = .ok (.iconst 1, 1) := by decide +kernel
theorem dX5_noSheet_13 : decode cX5_noSheet 13 = .ok (.goto 4, 3) := by decide +kernel
theorem dX5_noSheet_16 : decode cX5_noSheet 16 = .ok (.iconst 0, 1) := by decide +kernel
theorem dX5_noSheet_17 : decode cX5_noSheet 17 = .ok (.ireturn, 1) := by decide +kernel
set_option maxRecDepth 20000 in
theorem ggX5_sheet_X5_noSheet : GoodIn wsX5_sheet wsX5_noSheet := goodIn_r _ [8, 9, 10, 11, 7, 12] (by decide +kernel) (by decide +kernel)
set_option maxRecDepth 20000 in
theorem gX5_sheet_X5_noSheet : GoodIn wsX5_sheet (va_wsS RX5 116 yX5_noSheet wsX5_noSheet) := goodIn_app (goodIn_of _ (by decide +kernel)) ggX5_sheet_X5_noSheet
set_option maxRecDepth 20000 in
theorem ggX5_sheet_X5_refused : GoodIn wsX5_sheet wsX5_refused := goodIn_r _ [16, 17, 22, 23, 24, 25, 26, 27, 28, 29, 30, 31, 32, 33, 34, 35, 36, 37, 38, 39, 40, 41, 42, 43, 44, 45, 46, 47, 48, 49, 50, 51] (by decide +kernel) (by decide +kernel)
set_option maxRecDepth 20000 in
theorem gX5_sheet_X5_refused : GoodIn wsX5_sheet (wsV RX5 119 RX5 yX5_refused wsX5_refused) := goodIn_app (goodIn_of _ (by decide +kernel)) ggX5_sheet_X5_refused
set_option maxRecDepth 20000 in
theorem ggX5_sheet_X5_in : GoodIn wsX5_sheet wsX5_in := goodIn_r _ [12] (by decide +kernel) (by decide +kernel)
set_option maxRecDepth 20000 in
theorem gX5_sheet_X5_in : GoodIn wsX5_sheet (va_wsS RX5 73 yX5_in wsX5_in) := goodIn_app (goodIn_of _ (by decide +kernel)) ggX5_sheet_X5_in
set_option maxRecDepth 20000 in
theorem ggX5_sheet_X5_failed : GoodIn wsX5_sheet wsX5_failed := goodIn_r _ [21, 17, 22, 23, 24, 25, 26, 27, 28, 29, 30, 31, 32, 33, 34, 35, 36, 37, 38, 39, 40, 41, 42, 43, 44, 45, 46, 47, 48, 49, 50, 51] (by decide +kernel) (by decide +kernel)
set_option maxRecDepth 20000 in
theorem gX5_sheet_X5_failed : GoodIn wsX5_sheet (wsV RX5 108 RX5 yX5_failed wsX5_failed) := goodIn_app (goodIn_of _ (by decide +kernel)) ggX5_sheet_X5_failed
theorem dX5_sheet_0 : decode cX5_sheet 0 = .ok (.iload_n 1, 1) := by decide +kernel
theorem dX5_sheet_1 : decode cX5_sheet 1 = .ok (.invokestatic 116, 3) := by decide +kernel
theorem dX5_sheet_4 : decode cX5_sheet 4 = .ok (.ifCond .eq 9, 3) := by decide +kernel
theorem dX5_sheet_7 : decode cX5_sheet 7 = .ok (.aload_n 0, 1) := by decide +kernel
theorem dX5_sheet_8 : decode cX5_sheet 8 = .ok (.iconst (-1), 1) := by decide +kernel
theorem dX5_sheet_9 : decode cX5_sheet 9 = .ok (.invokevirtual 119, 3) := by decide +kernel
theorem dX5_sheet_12 : decode cX5_sheet 12 = .ok (.ireturn, 1) := by decide +kernel
theorem dX5_sheet_13 : decode cX5_sheet 13 = .ok (.iload_n 2, 1) := by decide +kernel
theorem dX5_sheet_14 : decode cX5_sheet 14 = .ok (.i2l, 1) := by decide +kernel
theorem dX5_sheet_15 : decode cX5_sheet 15 = .ok (.lconst 0, 1) := by decide +kernel
theorem dX5_sheet_16 : decode cX5_sheet 16 = .ok (.ldc2_w 122, 3) := by decide +kernel
theorem dX5_sheet_19 : decode cX5_sheet 19 = .ok (.invokestatic 73, 3) := by decide +kernel
theorem dX5_sheet_22 : decode cX5_sheet 22 = .ok (.ifCond .eq 9, 3) := by decide +kernel
theorem dX5_sheet_25 : decode cX5_sheet 25 = .ok (.iload_n 3, 1) := by decide +kernel
theorem dX5_sheet_26 : decode cX5_sheet 26 = .ok (.bipush 60, 2) := by decide +kernel
theorem dX5_sheet_28 : decode cX5_sheet 28 = .ok (.if_icmp .le 10, 3) := by decide +kernel
theorem dX5_sheet_31 : decode cX5_sheet 31 = .ok (.aload_n 0, 1) := by decide +kernel
theorem dX5_sheet_32 : decode cX5_sheet 32 = .ok (.bipush (-2), 2) := by decide +kernel
theorem dX5_sheet_34 : decode cX5_sheet 34 = .ok (.invokevirtual 119, 3) := by decide +kernel
theorem dX5_sheet_37 : decode cX5_sheet 37 = .ok (.ireturn, 1) := by decide +kernel
theorem dX5_sheet_38 : decode cX5_sheet 38 = .ok (.iload_n 3, 1) := by decide +kernel
theorem dX5_sheet_39 : decode cX5_sheet 39 = .ok (.ifCond .ge 9, 3) := by decide +kernel
theorem dX5_sheet_42 : decode cX5_sheet 42 = .ok (.aload_n 0, 1) := by decide +kernel
theorem dX5_sheet_43 : decode cX5_sheet 43 = .ok (.iconst 4, 1) := by decide +kernel
theorem dX5_sheet_44 : decode cX5_sheet 44 = .ok (.invokevirtual 108, 3) := by decide +kernel
theorem dX5_sheet_47 : decode cX5_sheet 47 = .ok (.ireturn, 1) := by decide +kernel
theorem dX5_sheet_48 : decode cX5_sheet 48 = .ok (.aload_n 0, 1) := by decide +kernel
theorem dX5_sheet_49 : decode cX5_sheet 49 = .ok (.getfield 41, 3) := by decide +kernel
theorem dX5_sheet_52 : decode cX5_sheet 52 = .ok (.iload_n 1, 1) := by decide +kernel
theorem dX5_sheet_53 : decode cX5_sheet 53 = .ok (.iload_n 3, 1) := by decide +kernel
theorem dX5_sheet_54 : decode cX5_sheet 54 = .ok (.iastore, 1) := by decide +kernel
theorem dX5_sheet_55 : decode cX5_sheet 55 = .ok (.aload_n 0, 1) := by decide +kernel
theorem dX5_sheet_56 : decode cX5_sheet 56 = .ok (.getfield 44, 3) := by decide +kernel
theorem dX5_sheet_59 : decode cX5_sheet 59 = .ok (.iload_n 1, 1) := by decide +kernel
theorem dX5_sheet_60 : decode cX5_sheet 60 = .ok (.iload_n 2, 1) := by decide +kernel
theorem dX5_sheet_61 : decode cX5_sheet 61 = .ok (.iastore, 1) := by decide +kernel
theorem dX5_sheet_62 : decode cX5_sheet 62 = .ok (.iconst 0, 1) := by decide +kernel
theorem dX5_sheet_63 : decode cX5_sheet 63 = .ok (.istore 4, 2) := by decide +kernel
theorem dX5_sheet_65 : decode cX5_sheet 65 = .ok (.iload 4, 2) := by decide +kernel
theorem dX5_sheet_67 : decode cX5_sheet 67 = .ok (.iload_n 3, 1) := by decide +kernel
theorem dX5_sheet_68 : decode cX5_sheet 68 = .ok (.if_icmp .ge 22, 3) := by decide +kernel
theorem dX5_sheet_71 : decode cX5_sheet 71 = .ok (.aload_n 0, 1) := by decide +kernel
theorem dX5_sheet_72 : decode cX5_sheet 72 = .ok (.getfield 47, 3) := by decide +kernel
theorem dX5_sheet_75 : decode cX5_sheet 75 = .ok (.bipush 60, 2) := by decide +kernel
theorem dX5_sheet_77 : decode cX5_sheet 77 = .ok (.iload_n 1, 1) := by decide +kernel
theorem dX5_sheet_78 : decode cX5_sheet 78 = .ok (.imul, 1) := by decide +kernel
theorem dX5_sheet_79 : decode cX5_sheet 79 = .ok (.iload 4, 2) := by decide +kernel
theorem dX5_sheet_81 : decode cX5_sheet 81 = .ok (.iadd, 1) := by decide +kernel
theorem dX5_sheet_82 : decode cX5_sheet 82 = .ok (.iconst 0, 1) := by decide +kernel
theorem dX5_sheet_83 : decode cX5_sheet 83 = .ok (.iastore, 1) := by decide +kernel
theorem dX5_sheet_84 : decode cX5_sheet 84 = .ok (.iinc 4 1, 3) := by decide +kernel
theorem dX5_sheet_87 : decode cX5_sheet 87 = .ok (.goto (-22), 3) := by decide +kernel
theorem dX5_sheet_90 : decode cX5_sheet 90 = .ok (.aload_n 0, 1) := by decide +kernel
theorem dX5_sheet_91 : decode cX5_sheet 91 = .ok (.iconst 1, 1) := by decide +kernel
theorem dX5_sheet_92 : decode cX5_sheet 92 = .ok (.invokevirtual 119, 3) := by decide +kernel
theorem dX5_sheet_95 : decode cX5_sheet 95 = .ok (.ireturn, 1) := by decide +kernel
set_option maxRecDepth 20000 in
theorem ggX5_lose_X5_noSheet : GoodIn wsX5_lose wsX5_noSheet := goodIn_r _ [5, 6, 7, 8, 4, 9] (by decide +kernel) (by decide +kernel)
set_option maxRecDepth 20000 in
theorem gX5_lose_X5_noSheet : GoodIn wsX5_lose (va_wsS RX5 116 yX5_noSheet wsX5_noSheet) := goodIn_app (goodIn_of _ (by decide +kernel)) ggX5_lose_X5_noSheet
theorem dX5_lose_0 : decode cX5_lose 0 = .ok (.iload_n 1, 1) := by decide +kernel
theorem dX5_lose_1 : decode cX5_lose 1 = .ok (.invokestatic 116, 3) := by decide +kernel
theorem dX5_lose_4 : decode cX5_lose 4 = .ok (.ifCond .eq 5, 3) := by decide +kernel
theorem dX5_lose_7 : decode cX5_lose 7 = .ok (.iconst (-1), 1) := by decide +kernel
theorem dX5_lose_8 : decode cX5_lose 8 = .ok (.ireturn, 1) := by decide +kernel
theorem dX5_lose_9 : decode cX5_lose 9 = .ok (.aload_n 0, 1) := by decide +kernel
theorem dX5_lose_10 : decode cX5_lose 10 = .ok (.getfield 41, 3) := by decide +kernel
theorem dX5_lose_13 : decode cX5_lose 13 = .ok (.iload_n 1, 1) := by decide +kernel
theorem dX5_lose_14 : decode cX5_lose 14 = .ok (.iaload, 1) := by decide +kernel
theorem dX5_lose_15 : decode cX5_lose 15 = .ok (.ifCond .ge 7, 3) := by decide +kernel
theorem dX5_lose_18 : decode cX5_lose 18 = .ok (.iconst 0, 1) := by decide +kernel
theorem dX5_lose_19 : decode cX5_lose 19 = .ok (.goto 4, 3) := by decide +kernel
theorem dX5_lose_22 : decode cX5_lose 22 = .ok (.iconst 1, 1) := by decide +kernel
theorem dX5_lose_23 : decode cX5_lose 23 = .ok (.istore_n 2, 1) := by decide +kernel
theorem dX5_lose_24 : decode cX5_lose 24 = .ok (.aload_n 0, 1) := by decide +kernel
theorem dX5_lose_25 : decode cX5_lose 25 = .ok (.getfield 41, 3) := by decide +kernel
theorem dX5_lose_28 : decode cX5_lose 28 = .ok (.iload_n 1, 1) := by decide +kernel
theorem dX5_lose_29 : decode cX5_lose 29 = .ok (.iconst (-1), 1) := by decide +kernel
theorem dX5_lose_30 : decode cX5_lose 30 = .ok (.iastore, 1) := by decide +kernel
theorem dX5_lose_31 : decode cX5_lose 31 = .ok (.iload_n 2, 1) := by decide +kernel
theorem dX5_lose_32 : decode cX5_lose 32 = .ok (.ireturn, 1) := by decide +kernel
set_option maxRecDepth 20000 in
theorem ggX5_noCell_X5_in : GoodIn wsX5_noCell wsX5_in := goodIn_r _ [5] (by decide +kernel) (by decide +kernel)
set_option maxRecDepth 20000 in
theorem gX5_noCell_X5_in : GoodIn wsX5_noCell (va_wsS RX5 73 yX5_in wsX5_in) := goodIn_app (goodIn_of _ (by decide +kernel)) ggX5_noCell_X5_in
theorem dX5_noCell_0 : decode cX5_noCell 0 = .ok (.aload_n 0, 1) := by decide +kernel
theorem dX5_noCell_1 : decode cX5_noCell 1 = .ok (.getfield 41, 3) := by decide +kernel
theorem dX5_noCell_4 : decode cX5_noCell 4 = .ok (.iload_n 1, 1) := by decide +kernel
theorem dX5_noCell_5 : decode cX5_noCell 5 = .ok (.iaload, 1) := by decide +kernel
theorem dX5_noCell_6 : decode cX5_noCell 6 = .ok (.ifCond .ge 7, 3) := by decide +kernel
theorem dX5_noCell_9 : decode cX5_noCell 9 = .ok (.iconst 1, 1) := by decide +kernel
theorem dX5_noCell_10 : decode cX5_noCell 10 = .ok (.goto 26, 3) := by decide +kernel
theorem dX5_noCell_13 : decode cX5_noCell 13 = .ok (.iload_n 2, 1) := by decide +kernel
theorem dX5_noCell_14 : decode cX5_noCell 14 = .ok (.i2l, 1) := by decide +kernel
theorem dX5_noCell_15 : decode cX5_noCell 15 = .ok (.lconst 0, 1) := by decide +kernel
theorem dX5_noCell_16 : decode cX5_noCell 16 = .ok (.aload_n 0, 1) := by decide +kernel
theorem dX5_noCell_17 : decode cX5_noCell 17 = .ok (.getfield 41, 3) := by decide +kernel
theorem dX5_noCell_20 : decode cX5_noCell 20 = .ok (.iload_n 1, 1) := by decide +kernel
theorem dX5_noCell_21 : decode cX5_noCell 21 = .ok (.iaload, 1) := by decide +kernel
theorem dX5_noCell_22 : decode cX5_noCell 22 = .ok (.i2l, 1) := by decide +kernel
theorem dX5_noCell_23 : decode cX5_noCell 23 = .ok (.lconst 1, 1) := by decide +kernel
theorem dX5_noCell_24 : decode cX5_noCell 24 = .ok (.lsub, 1) := by decide +kernel
theorem dX5_noCell_25 : decode cX5_noCell 25 = .ok (.invokestatic 73, 3) := by decide +kernel
theorem dX5_noCell_28 : decode cX5_noCell 28 = .ok (.ifCond .eq 7, 3) := by decide +kernel
theorem dX5_noCell_31 : decode cX5_noCell 31 = .ok (.iconst 0, 1) := by decide +kernel
theorem dX5_noCell_32 : decode cX5_noCell 32 = .ok (.goto 4, 3) := by decide +kernel
theorem dX5_noCell_35 : decode cX5_noCell 35 = .ok (.iconst 3, 1) := by decide +kernel
theorem dX5_noCell_36 : decode cX5_noCell 36 = .ok (.ireturn, 1) := by decide +kernel
set_option maxRecDepth 20000 in
theorem ggX5_put_X5_noSheet : GoodIn wsX5_put wsX5_noSheet := goodIn_r _ [6, 7, 8, 9, 5, 10] (by decide +kernel) (by decide +kernel)
set_option maxRecDepth 20000 in
theorem gX5_put_X5_noSheet : GoodIn wsX5_put (va_wsS RX5 116 yX5_noSheet wsX5_noSheet) := goodIn_app (goodIn_of _ (by decide +kernel)) ggX5_put_X5_noSheet
set_option maxRecDepth 20000 in
theorem ggX5_put_X5_refused : GoodIn wsX5_put wsX5_refused := goodIn_r _ [14, 15, 25, 26, 27, 28, 29, 30, 31, 32, 33, 34, 35, 36, 37, 38, 39, 40, 41, 42, 43, 44, 45, 46, 47, 48, 49, 50, 51, 52, 53, 54] (by decide +kernel) (by decide +kernel)
set_option maxRecDepth 20000 in
theorem gX5_put_X5_refused : GoodIn wsX5_put (wsV RX5 119 RX5 yX5_refused wsX5_refused) := goodIn_app (goodIn_of _ (by decide +kernel)) ggX5_put_X5_refused
set_option maxRecDepth 20000 in
theorem ggX5_put_X5_noCell : GoodIn wsX5_put wsX5_noCell := goodIn_r _ [19, 20, 8, 9, 5, 10, 25, 26, 27, 28, 29, 30, 31, 32, 33, 34, 35, 36, 37, 38, 39, 40, 41, 42, 43, 44, 45, 46, 47, 48, 49, 50, 51, 52, 53, 54] (by decide +kernel) (by decide +kernel)
set_option maxRecDepth 20000 in
theorem gX5_put_X5_noCell : GoodIn wsX5_put (wsV RX5 227 RX5 yX5_noCell wsX5_noCell) := goodIn_app (goodIn_of _ (by decide +kernel)) ggX5_put_X5_noCell
set_option maxRecDepth 20000 in
theorem ggX5_put_X5_failed : GoodIn wsX5_put wsX5_failed := goodIn_r _ [24, 15, 25, 26, 27, 28, 29, 30, 31, 32, 33, 34, 35, 36, 37, 38, 39, 40, 41, 42, 43, 44, 45, 46, 47, 48, 49, 50, 51, 52, 53, 54] (by decide +kernel) (by decide +kernel)
set_option maxRecDepth 20000 in
theorem gX5_put_X5_failed : GoodIn wsX5_put (wsV RX5 108 RX5 yX5_failed wsX5_failed) := goodIn_app (goodIn_of _ (by decide +kernel)) ggX5_put_X5_failed
theorem dX5_put_0 : decode cX5_put 0 = .ok (.iload_n 1, 1) := by decide +kernel
theorem dX5_put_1 : decode cX5_put 1 = .ok (.invokestatic 116, 3) := by decide +kernel
theorem dX5_put_4 : decode cX5_put 4 = .ok (.ifCond .eq 9, 3) := by decide +kernel
theorem dX5_put_7 : decode cX5_put 7 = .ok (.aload_n 0, 1) := by decide +kernel
theorem dX5_put_8 : decode cX5_put 8 = .ok (.iconst (-1), 1) := by decide +kernel
theorem dX5_put_9 : decode cX5_put 9 = .ok (.invokevirtual 119, 3) := by decide +kernel
theorem dX5_put_12 : decode cX5_put 12 = .ok (.ireturn, 1) := by decide +kernel
theorem dX5_put_13 : decode cX5_put 13 = .ok (.aload_n 0, 1) := by decide +kernel
theorem dX5_put_14 : decode cX5_put 14 = .ok (.iload_n 1, 1) := by decide +kernel
theorem dX5_put_15 : decode cX5_put 15 = .ok (.iload_n 2, 1) := by decide +kernel
theorem dX5_put_16 : decode cX5_put 16 = .ok (.invokevirtual 227, 3) := by decide +kernel
theorem dX5_put_19 : decode cX5_put 19 = .ok (.ifCond .le 14, 3) := by decide +kernel
theorem dX5_put_22 : decode cX5_put 22 = .ok (.aload_n 0, 1) := by decide +kernel
theorem dX5_put_23 : decode cX5_put 23 = .ok (.aload_n 0, 1) := by decide +kernel
theorem dX5_put_24 : decode cX5_put 24 = .ok (.iload_n 1, 1) := by decide +kernel
theorem dX5_put_25 : decode cX5_put 25 = .ok (.iload_n 2, 1) := by decide +kernel
theorem dX5_put_26 : decode cX5_put 26 = .ok (.invokevirtual 227, 3) := by decide +kernel
theorem dX5_put_29 : decode cX5_put 29 = .ok (.invokevirtual 108, 3) := by decide +kernel
theorem dX5_put_32 : decode cX5_put 32 = .ok (.ireturn, 1) := by decide +kernel
theorem dX5_put_33 : decode cX5_put 33 = .ok (.aload_n 0, 1) := by decide +kernel
theorem dX5_put_34 : decode cX5_put 34 = .ok (.getfield 47, 3) := by decide +kernel
theorem dX5_put_37 : decode cX5_put 37 = .ok (.bipush 60, 2) := by decide +kernel
theorem dX5_put_39 : decode cX5_put 39 = .ok (.iload_n 1, 1) := by decide +kernel
theorem dX5_put_40 : decode cX5_put 40 = .ok (.imul, 1) := by decide +kernel
theorem dX5_put_41 : decode cX5_put 41 = .ok (.iload_n 2, 1) := by decide +kernel
theorem dX5_put_42 : decode cX5_put 42 = .ok (.iadd, 1) := by decide +kernel
theorem dX5_put_43 : decode cX5_put 43 = .ok (.aload_n 0, 1) := by decide +kernel
theorem dX5_put_44 : decode cX5_put 44 = .ok (.getfield 44, 3) := by decide +kernel
theorem dX5_put_47 : decode cX5_put 47 = .ok (.iload_n 1, 1) := by decide +kernel
theorem dX5_put_48 : decode cX5_put 48 = .ok (.iaload, 1) := by decide +kernel
theorem dX5_put_49 : decode cX5_put 49 = .ok (.ifCond .ne 8, 3) := by decide +kernel
theorem dX5_put_52 : decode cX5_put 52 = .ok (.iload_n 3, 1) := by decide +kernel
theorem dX5_put_53 : decode cX5_put 53 = .ok (.i2b, 1) := by decide +kernel
theorem dX5_put_54 : decode cX5_put 54 = .ok (.goto 19, 3) := by decide +kernel
theorem dX5_put_57 : decode cX5_put 57 = .ok (.aload_n 0, 1) := by decide +kernel
theorem dX5_put_58 : decode cX5_put 58 = .ok (.getfield 44, 3) := by decide +kernel
theorem dX5_put_61 : decode cX5_put 61 = .ok (.iload_n 1, 1) := by decide +kernel
theorem dX5_put_62 : decode cX5_put 62 = .ok (.iaload, 1) := by decide +kernel
theorem dX5_put_63 : decode cX5_put 63 = .ok (.iconst 1, 1) := by decide +kernel
theorem dX5_put_64 : decode cX5_put 64 = .ok (.if_icmp .ne 8, 3) := by decide +kernel
theorem dX5_put_67 : decode cX5_put 67 = .ok (.iload_n 3, 1) := by decide +kernel
theorem dX5_put_68 : decode cX5_put 68 = .ok (.i2s, 1) := by decide +kernel
theorem dX5_put_69 : decode cX5_put 69 = .ok (.goto 4, 3) := by decide +kernel
theorem dX5_put_72 : decode cX5_put 72 = .ok (.iload_n 3, 1) := by decide +kernel
theorem dX5_put_73 : decode cX5_put 73 = .ok (.iastore, 1) := by decide +kernel
theorem dX5_put_74 : decode cX5_put 74 = .ok (.aload_n 0, 1) := by decide +kernel
theorem dX5_put_75 : decode cX5_put 75 = .ok (.iconst 1, 1) := by decide +kernel
theorem dX5_put_76 : decode cX5_put 76 = .ok (.invokevirtual 119, 3) := by decide +kernel
theorem dX5_put_79 : decode cX5_put 79 = .ok (.ireturn, 1) := by decide +kernel
set_option maxRecDepth 20000 in
theorem ggX5_cell_X5_noSheet : GoodIn wsX5_cell wsX5_noSheet := goodIn_r _ [9, 10, 11, 12, 8, 13] (by decide +kernel) (by decide +kernel)
set_option maxRecDepth 20000 in
theorem gX5_cell_X5_noSheet : GoodIn wsX5_cell (va_wsS RX5 116 yX5_noSheet wsX5_noSheet) := goodIn_app (goodIn_of _ (by decide +kernel)) ggX5_cell_X5_noSheet
set_option maxRecDepth 20000 in
theorem ggX5_cell_X5_in : GoodIn wsX5_cell wsX5_in := goodIn_r _ [13] (by decide +kernel) (by decide +kernel)
set_option maxRecDepth 20000 in
theorem gX5_cell_X5_in : GoodIn wsX5_cell (va_wsS RX5 73 yX5_in wsX5_in) := goodIn_app (goodIn_of _ (by decide +kernel)) ggX5_cell_X5_in
set_option maxRecDepth 20000 in
theorem ggX5_cell_X5_lost : GoodIn wsX5_cell wsX5_lost := goodIn_r _ [16, 17] (by decide +kernel) (by decide +kernel)
set_option maxRecDepth 20000 in
theorem gX5_cell_X5_lost : GoodIn wsX5_cell (va_wsS RX5 59 yX5_lost wsX5_lost) := goodIn_app (goodIn_of _ (by decide +kernel)) ggX5_cell_X5_lost
set_option maxRecDepth 20000 in
theorem ggX5_cell_X5_failedLong : GoodIn wsX5_cell wsX5_failedLong := goodIn_r _ [21, 1, 14, 15, 8, 16, 17, 26, 27, 28, 29, 30, 31, 32, 33, 34, 35, 36, 37, 38, 39, 40, 41, 42, 43, 44, 45, 46, 47, 48, 49, 50, 51, 52, 53, 54, 55] (by decide +kernel) (by decide +kernel)
set_option maxRecDepth 20000 in
theorem gX5_cell_X5_failedLong : GoodIn wsX5_cell (wsV RX5 230 RX5 yX5_failedLong wsX5_failedLong) := goodIn_app (goodIn_of _ (by decide +kernel)) ggX5_cell_X5_failedLong
set_option maxRecDepth 20000 in
theorem ggX5_cell_X5_noCell : GoodIn wsX5_cell wsX5_noCell := goodIn_r _ [25, 3, 11, 12, 8, 13, 26, 27, 28, 29, 30, 31, 32, 33, 34, 35, 36, 37, 38, 39, 40, 41, 42, 43, 44, 45, 46, 47, 48, 49, 50, 51, 52, 53, 54, 55] (by decide +kernel) (by decide +kernel)
set_option maxRecDepth 20000 in
theorem gX5_cell_X5_noCell : GoodIn wsX5_cell (wsV RX5 227 RX5 yX5_noCell wsX5_noCell) := goodIn_app (goodIn_of _ (by decide +kernel)) ggX5_cell_X5_noCell
theorem dX5_cell_0 : decode cX5_cell 0 = .ok (.aload_n 0, 1) := by decide +kernel
theorem dX5_cell_1 : decode cX5_cell 1 = .ok (.iconst 0, 1) := by decide +kernel
theorem dX5_cell_2 : decode cX5_cell 2 = .ok (.putfield 55, 3) := by decide +kernel
theorem dX5_cell_5 : decode cX5_cell 5 = .ok (.iload_n 1, 1) := by decide +kernel
theorem dX5_cell_6 : decode cX5_cell 6 = .ok (.invokestatic 116, 3) := by decide +kernel
theorem dX5_cell_9 : decode cX5_cell 9 = .ok (.ifCond .ne 15, 3) := by decide +kernel
theorem dX5_cell_12 : decode cX5_cell 12 = .ok (.iload_n 3, 1) := by decide +kernel
theorem dX5_cell_13 : decode cX5_cell 13 = .ok (.i2l, 1) := by decide +kernel
theorem dX5_cell_14 : decode cX5_cell 14 = .ok (.lconst 0, 1) := by decide +kernel
theorem dX5_cell_15 : decode cX5_cell 15 = .ok (.ldc2_w 122, 3) := by decide +kernel
theorem dX5_cell_18 : decode cX5_cell 18 = .ok (.invokestatic 73, 3) := by decide +kernel
theorem dX5_cell_21 : decode cX5_cell 21 = .ok (.ifCond .ne 7, 3) := by decide +kernel
theorem dX5_cell_24 : decode cX5_cell 24 = .ok (.invokestatic 59, 3) := by decide +kernel
theorem dX5_cell_27 : decode cX5_cell 27 = .ok (.lreturn, 1) := by decide +kernel
theorem dX5_cell_28 : decode cX5_cell 28 = .ok (.aload_n 0, 1) := by decide +kernel
theorem dX5_cell_29 : decode cX5_cell 29 = .ok (.getfield 41, 3) := by decide +kernel
theorem dX5_cell_32 : decode cX5_cell 32 = .ok (.iload_n 1, 1) := by decide +kernel
theorem dX5_cell_33 : decode cX5_cell 33 = .ok (.iaload, 1) := by decide +kernel
theorem dX5_cell_34 : decode cX5_cell 34 = .ok (.ifCond .lt 19, 3) := by decide +kernel
theorem dX5_cell_37 : decode cX5_cell 37 = .ok (.aload_n 0, 1) := by decide +kernel
theorem dX5_cell_38 : decode cX5_cell 38 = .ok (.getfield 44, 3) := by decide +kernel
theorem dX5_cell_41 : decode cX5_cell 41 = .ok (.iload_n 1, 1) := by decide +kernel
theorem dX5_cell_42 : decode cX5_cell 42 = .ok (.iaload, 1) := by decide +kernel
theorem dX5_cell_43 : decode cX5_cell 43 = .ok (.iload_n 3, 1) := by decide +kernel
theorem dX5_cell_44 : decode cX5_cell 44 = .ok (.if_icmp .eq 9, 3) := by decide +kernel
theorem dX5_cell_47 : decode cX5_cell 47 = .ok (.aload_n 0, 1) := by decide +kernel
theorem dX5_cell_48 : decode cX5_cell 48 = .ok (.iconst 2, 1) := by decide +kernel
theorem dX5_cell_49 : decode cX5_cell 49 = .ok (.invokevirtual 230, 3) := by decide +kernel
theorem dX5_cell_52 : decode cX5_cell 52 = .ok (.lreturn, 1) := by decide +kernel
theorem dX5_cell_53 : decode cX5_cell 53 = .ok (.aload_n 0, 1) := by decide +kernel
theorem dX5_cell_54 : decode cX5_cell 54 = .ok (.iload_n 1, 1) := by decide +kernel
theorem dX5_cell_55 : decode cX5_cell 55 = .ok (.iload_n 2, 1) := by decide +kernel
theorem dX5_cell_56 : decode cX5_cell 56 = .ok (.invokevirtual 227, 3) := by decide +kernel
theorem dX5_cell_59 : decode cX5_cell 59 = .ok (.ifCond .le 16, 3) := by decide +kernel
theorem dX5_cell_62 : decode cX5_cell 62 = .ok (.aload_n 0, 1) := by decide +kernel
theorem dX5_cell_63 : decode cX5_cell 63 = .ok (.aload_n 0, 1) := by decide +kernel
theorem dX5_cell_64 : decode cX5_cell 64 = .ok (.iload_n 1, 1) := by decide +kernel
theorem dX5_cell_65 : decode cX5_cell 65 = .ok (.iload_n 2, 1) := by decide +kernel
theorem dX5_cell_66 : decode cX5_cell 66 = .ok (.invokevirtual 227, 3) := by decide +kernel
theorem dX5_cell_69 : decode cX5_cell 69 = .ok (.invokevirtual 230, 3) := by decide +kernel
theorem dX5_cell_72 : decode cX5_cell 72 = .ok (.goto 15, 3) := by decide +kernel
theorem dX5_cell_75 : decode cX5_cell 75 = .ok (.aload_n 0, 1) := by decide +kernel
theorem dX5_cell_76 : decode cX5_cell 76 = .ok (.getfield 47, 3) := by decide +kernel
theorem dX5_cell_79 : decode cX5_cell 79 = .ok (.bipush 60, 2) := by decide +kernel
theorem dX5_cell_81 : decode cX5_cell 81 = .ok (.iload_n 1, 1) := by decide +kernel
theorem dX5_cell_82 : decode cX5_cell 82 = .ok (.imul, 1) := by decide +kernel
theorem dX5_cell_83 : decode cX5_cell 83 = .ok (.iload_n 2, 1) := by decide +kernel
theorem dX5_cell_84 : decode cX5_cell 84 = .ok (.iadd, 1) := by decide +kernel
theorem dX5_cell_85 : decode cX5_cell 85 = .ok (.iaload, 1) := by decide +kernel
theorem dX5_cell_86 : decode cX5_cell 86 = .ok (.i2l, 1) := by decide +kernel
theorem dX5_cell_87 : decode cX5_cell 87 = .ok (.lreturn, 1) := by decide +kernel
theorem dX5_isBeyond_0 : decode cX5_isBeyond 0 = .ok (.iload_n 0, 1) := by decide +kernel
theorem dX5_isBeyond_1 : decode cX5_isBeyond 1 = .ok (.ifCond .lt 19, 3) := by decide +kernel
theorem dX5_isBeyond_4 : decode cX5_isBeyond 4 = .ok (.lload_n 1, 1) := by decide +kernel
theorem dX5_isBeyond_5 : decode cX5_isBeyond 5 = .ok (.lconst 0, 1) := by decide +kernel
theorem dX5_isBeyond_6 : decode cX5_isBeyond 6 = .ok (.lcmp, 1) := by decide +kernel
theorem dX5_isBeyond_7 : decode cX5_isBeyond 7 = .ok (.ifCond .lt 13, 3) := by decide +kernel
theorem dX5_isBeyond_10 : decode cX5_isBeyond 10 = .ok (.iload_n 0, 1) := by decide +kernel
theorem dX5_isBeyond_11 : decode cX5_isBeyond 11 = .ok (.i2l, 1) := by decide +kernel
theorem dX5_isBeyond_12 : decode cX5_isBeyond 12 = .ok (.lload_n 1, 1) := by decide +kernel
theorem dX5_isBeyond_13 : decode cX5_isBeyond 13 = .ok (.ladd, 1) := by decide +kernel
theorem dX5_isBeyond_14 : decode cX5_isBeyond 14 = .ok (.iload_n 3, 1) := by decide +kernel
theorem dX5_isBeyond_15 : decode cX5_isBeyond 15 = .ok (.i2l, 1) := by decide +kernel
theorem dX5_isBeyond_16 : decode cX5_isBeyond 16 = .ok (.lcmp, 1) := by decide +kernel
theorem dX5_isBeyond_17 : decode cX5_isBeyond 17 = .ok (.ifCond .le 7, 3) := by decide +kernel
theorem dX5_isBeyond_20 : decode cX5_isBeyond 20 = .ok (.iconst 1, 1) := by decide +kernel
theorem dX5_isBeyond_21 : decode cX5_isBeyond 21 = .ok (.goto 4, 3) := by decide +kernel
theorem dX5_isBeyond_24 : decode cX5_isBeyond 24 = .ok (.iconst 0, 1) := by decide +kernel
theorem dX5_isBeyond_25 : decode cX5_isBeyond 25 = .ok (.ireturn, 1) := by decide +kernel
set_option maxRecDepth 20000 in
theorem ggX5_copy_X5_noSheet : GoodIn wsX5_copy wsX5_noSheet := goodIn_r _ [8, 9, 10, 11, 7, 12] (by decide +kernel) (by decide +kernel)
set_option maxRecDepth 20000 in
theorem gX5_copy_X5_noSheet : GoodIn wsX5_copy (va_wsS RX5 116 yX5_noSheet wsX5_noSheet) := goodIn_app (goodIn_of _ (by decide +kernel)) ggX5_copy_X5_noSheet
set_option maxRecDepth 20000 in
theorem ggX5_copy_X5_refused : GoodIn wsX5_copy wsX5_refused := goodIn_r _ [16, 17, 25, 26, 27, 28, 29, 30, 31, 32, 33, 34, 35, 36, 37, 38, 39, 40, 41, 42, 43, 44, 45, 46, 47, 48, 49, 50, 51, 52, 53, 54] (by decide +kernel) (by decide +kernel)
set_option maxRecDepth 20000 in
theorem gX5_copy_X5_refused : GoodIn wsX5_copy (wsV RX5 119 RX5 yX5_refused wsX5_refused) := goodIn_app (goodIn_of _ (by decide +kernel)) ggX5_copy_X5_refused
set_option maxRecDepth 20000 in
theorem ggX5_copy_X5_failed : GoodIn wsX5_copy wsX5_failed := goodIn_r _ [21, 17, 25, 26, 27, 28, 29, 30, 31, 32, 33, 34, 35, 36, 37, 38, 39, 40, 41, 42, 43, 44, 45, 46, 47, 48, 49, 50, 51, 52, 53, 54] (by decide +kernel) (by decide +kernel)
set_option maxRecDepth 20000 in
theorem gX5_copy_X5_failed : GoodIn wsX5_copy (wsV RX5 108 RX5 yX5_failed wsX5_failed) := goodIn_app (goodIn_of _ (by decide +kernel)) ggX5_copy_X5_failed
set_option maxRecDepth 20000 in
theorem ggX5_copy_X5_isBeyond : GoodIn wsX5_copy wsX5_isBeyond := goodIn_r _ [24] (by decide +kernel) (by decide +kernel)
set_option maxRecDepth 20000 in
theorem gX5_copy_X5_isBeyond : GoodIn wsX5_copy (va_wsS RX5 112 yX5_isBeyond wsX5_isBeyond) := goodIn_app (goodIn_of _ (by decide +kernel)) ggX5_copy_X5_isBeyond
theorem dX5_copy_0 : decode cX5_copy 0 = .ok (.iload_n 1, 1) := by decide +kernel
theorem dX5_copy_1 : decode cX5_copy 1 = .ok (.invokestatic 116, 3) := by decide +kernel
theorem dX5_copy_4 : decode cX5_copy 4 = .ok (.ifCond .ne 10, 3) := by decide +kernel
theorem dX5_copy_7 : decode cX5_copy 7 = .ok (.iload_n 3, 1) := by decide +kernel
theorem dX5_copy_8 : decode cX5_copy 8 = .ok (.invokestatic 116, 3) := by decide +kernel
theorem dX5_copy_11 : decode cX5_copy 11 = .ok (.ifCond .eq 9, 3) := by decide +kernel
theorem dX5_copy_14 : decode cX5_copy 14 = .ok (.aload_n 0, 1) := by decide +kernel
theorem dX5_copy_15 : decode cX5_copy 15 = .ok (.iconst (-1), 1) := by decide +kernel
theorem dX5_copy_16 : decode cX5_copy 16 = .ok (.invokevirtual 119, 3) := by decide +kernel
theorem dX5_copy_19 : decode cX5_copy 19 = .ok (.ireturn, 1) := by decide +kernel
theorem dX5_copy_20 : decode cX5_copy 20 = .ok (.aload_n 0, 1) := by decide +kernel
theorem dX5_copy_21 : decode cX5_copy 21 = .ok (.getfield 41, 3) := by decide +kernel
theorem dX5_copy_24 : decode cX5_copy 24 = .ok (.iload_n 1, 1) := by decide +kernel
theorem dX5_copy_25 : decode cX5_copy 25 = .ok (.iaload, 1) := by decide +kernel
theorem dX5_copy_26 : decode cX5_copy 26 = .ok (.ifCond .lt 12, 3) := by decide +kernel
theorem dX5_copy_29 : decode cX5_copy 29 = .ok (.aload_n 0, 1) := by decide +kernel
theorem dX5_copy_30 : decode cX5_copy 30 = .ok (.getfield 41, 3) := by decide +kernel
theorem dX5_copy_33 : decode cX5_copy 33 = .ok (.iload_n 3, 1) := by decide +kernel
theorem dX5_copy_34 : decode cX5_copy 34 = .ok (.iaload, 1) := by decide +kernel
theorem dX5_copy_35 : decode cX5_copy 35 = .ok (.ifCond .ge 9, 3) := by decide +kernel
theorem dX5_copy_38 : decode cX5_copy 38 = .ok (.aload_n 0, 1) := by decide +kernel
theorem dX5_copy_39 : decode cX5_copy 39 = .ok (.iconst 1, 1) := by decide +kernel
theorem dX5_copy_40 : decode cX5_copy 40 = .ok (.invokevirtual 108, 3) := by decide +kernel
theorem dX5_copy_43 : decode cX5_copy 43 = .ok (.ireturn, 1) := by decide +kernel
theorem dX5_copy_44 : decode cX5_copy 44 = .ok (.aload_n 0, 1) := by decide +kernel
theorem dX5_copy_45 : decode cX5_copy 45 = .ok (.getfield 44, 3) := by decide +kernel
theorem dX5_copy_48 : decode cX5_copy 48 = .ok (.iload_n 1, 1) := by decide +kernel
theorem dX5_copy_49 : decode cX5_copy 49 = .ok (.iaload, 1) := by decide +kernel
theorem dX5_copy_50 : decode cX5_copy 50 = .ok (.aload_n 0, 1) := by decide +kernel
theorem dX5_copy_51 : decode cX5_copy 51 = .ok (.getfield 44, 3) := by decide +kernel
theorem dX5_copy_54 : decode cX5_copy 54 = .ok (.iload_n 3, 1) := by decide +kernel
theorem dX5_copy_55 : decode cX5_copy 55 = .ok (.iaload, 1) := by decide +kernel
theorem dX5_copy_56 : decode cX5_copy 56 = .ok (.if_icmp .eq 9, 3) := by decide +kernel
theorem dX5_copy_59 : decode cX5_copy 59 = .ok (.aload_n 0, 1) := by decide +kernel
theorem dX5_copy_60 : decode cX5_copy 60 = .ok (.iconst 2, 1) := by decide +kernel
theorem dX5_copy_61 : decode cX5_copy 61 = .ok (.invokevirtual 108, 3) := by decide +kernel
theorem dX5_copy_64 : decode cX5_copy 64 = .ok (.ireturn, 1) := by decide +kernel
theorem dX5_copy_65 : decode cX5_copy 65 = .ok (.iload_n 2, 1) := by decide +kernel
theorem dX5_copy_66 : decode cX5_copy 66 = .ok (.iload 5, 2) := by decide +kernel
theorem dX5_copy_68 : decode cX5_copy 68 = .ok (.i2l, 1) := by decide +kernel
theorem dX5_copy_69 : decode cX5_copy 69 = .ok (.aload_n 0, 1) := by decide +kernel
theorem dX5_copy_70 : decode cX5_copy 70 = .ok (.getfield 41, 3) := by decide +kernel
theorem dX5_copy_73 : decode cX5_copy 73 = .ok (.iload_n 1, 1) := by decide +kernel
theorem dX5_copy_74 : decode cX5_copy 74 = .ok (.iaload, 1) := by decide +kernel
theorem dX5_copy_75 : decode cX5_copy 75 = .ok (.invokestatic 112, 3) := by decide +kernel
theorem dX5_copy_78 : decode cX5_copy 78 = .ok (.ifCond .ne 20, 3) := by decide +kernel
theorem dX5_copy_81 : decode cX5_copy 81 = .ok (.iload 4, 2) := by decide +kernel
theorem dX5_copy_83 : decode cX5_copy 83 = .ok (.iload 5, 2) := by decide +kernel
theorem dX5_copy_85 : decode cX5_copy 85 = .ok (.i2l, 1) := by decide +kernel
theorem dX5_copy_86 : decode cX5_copy 86 = .ok (.aload_n 0, 1) := by decide +kernel
theorem dX5_copy_87 : decode cX5_copy 87 = .ok (.getfield 41, 3) := by decide +kernel
theorem dX5_copy_90 : decode cX5_copy 90 = .ok (.iload_n 3, 1) := by decide +kernel
theorem dX5_copy_91 : decode cX5_copy 91 = .ok (.iaload, 1) := by decide +kernel
theorem dX5_copy_92 : decode cX5_copy 92 = .ok (.invokestatic 112, 3) := by decide +kernel
theorem dX5_copy_95 : decode cX5_copy 95 = .ok (.ifCond .eq 9, 3) := by decide +kernel
theorem dX5_copy_98 : decode cX5_copy 98 = .ok (.aload_n 0, 1) := by decide +kernel
theorem dX5_copy_99 : decode cX5_copy 99 = .ok (.iconst 3, 1) := by decide +kernel
theorem dX5_copy_100 : decode cX5_copy 100 = .ok (.invokevirtual 108, 3) := by decide +kernel
theorem dX5_copy_103 : decode cX5_copy 103 = .ok (.ireturn, 1) := by decide +kernel
theorem dX5_copy_104 : decode cX5_copy 104 = .ok (.iconst 0, 1) := by decide +kernel
theorem dX5_copy_105 : decode cX5_copy 105 = .ok (.istore 6, 2) := by decide +kernel
theorem dX5_copy_107 : decode cX5_copy 107 = .ok (.iload 6, 2) := by decide +kernel
theorem dX5_copy_109 : decode cX5_copy 109 = .ok (.iload 5, 2) := by decide +kernel
theorem dX5_copy_111 : decode cX5_copy 111 = .ok (.if_icmp .ge 30, 3) := by decide +kernel
theorem dX5_copy_114 : decode cX5_copy 114 = .ok (.aload_n 0, 1) := by decide +kernel
theorem dX5_copy_115 : decode cX5_copy 115 = .ok (.getfield 50, 3) := by decide +kernel
theorem dX5_copy_118 : decode cX5_copy 118 = .ok (.iload 6, 2) := by decide +kernel
theorem dX5_copy_120 : decode cX5_copy 120 = .ok (.aload_n 0, 1) := by decide +kernel
theorem dX5_copy_121 : decode cX5_copy 121 = .ok (.getfield 47, 3) := by decide +kernel
theorem dX5_copy_124 : decode cX5_copy 124 = .ok (.bipush 60, 2) := by decide +kernel
theorem dX5_copy_126 : decode cX5_copy 126 = .ok (.iload_n 1, 1) := by decide +kernel
theorem dX5_copy_127 : decode cX5_copy 127 = .ok (.imul, 1) := by decide +kernel
theorem dX5_copy_128 : decode cX5_copy 128 = .ok (.iload_n 2, 1) := by decide +kernel
theorem dX5_copy_129 : decode cX5_copy 129 = .ok (.iadd, 1) := by decide +kernel
theorem dX5_copy_130 : decode cX5_copy 130 = .ok (.iload 6, 2) := by decide +kernel
theorem dX5_copy_132 : decode cX5_copy 132 = .ok (.iadd, 1) := by decide +kernel
theorem dX5_copy_133 : decode cX5_copy 133 = .ok (.iaload, 1) := by decide +kernel
theorem dX5_copy_134 : decode cX5_copy 134 = .ok (.iastore, 1) := by decide +kernel
theorem dX5_copy_135 : decode cX5_copy 135 = .ok (.iinc 6 1, 3) := by decide +kernel
theorem dX5_copy_138 : decode cX5_copy 138 = .ok (.goto (-31), 3) := by decide +kernel
theorem dX5_copy_141 : decode cX5_copy 141 = .ok (.iconst 0, 1) := by decide +kernel
theorem dX5_copy_142 : decode cX5_copy 142 = .ok (.istore 6, 2) := by decide +kernel
theorem dX5_copy_144 : decode cX5_copy 144 = .ok (.iload 6, 2) := by decide +kernel
theorem dX5_copy_146 : decode cX5_copy 146 = .ok (.iload 5, 2) := by decide +kernel
theorem dX5_copy_148 : decode cX5_copy 148 = .ok (.if_icmp .ge 31, 3) := by decide +kernel
theorem dX5_copy_151 : decode cX5_copy 151 = .ok (.aload_n 0, 1) := by decide +kernel
theorem dX5_copy_152 : decode cX5_copy 152 = .ok (.getfield 47, 3) := by decide +kernel
theorem dX5_copy_155 : decode cX5_copy 155 = .ok (.bipush 60, 2) := by decide +kernel
theorem dX5_copy_157 : decode cX5_copy 157 = .ok (.iload_n 3, 1) := by decide +kernel
theorem dX5_copy_158 : decode cX5_copy 158 = .ok (.imul, 1) := by decide +kernel
theorem dX5_copy_159 : decode cX5_copy 159 = .ok (.iload 4, 2) := by decide +kernel
theorem dX5_copy_161 : decode cX5_copy 161 = .ok (.iadd, 1) := by decide +kernel
theorem dX5_copy_162 : decode cX5_copy 162 = .ok (.iload 6, 2) := by decide +kernel
theorem dX5_copy_164 : decode cX5_copy 164 = .ok (.iadd, 1) := by decide +kernel
theorem dX5_copy_165 : decode cX5_copy 165 = .ok (.aload_n 0, 1) := by decide +kernel
theorem dX5_copy_166 : decode cX5_copy 166 = .ok (.getfield 50, 3) := by decide +kernel
theorem dX5_copy_169 : decode cX5_copy 169 = .ok (.iload 6, 2) := by decide +kernel
theorem dX5_copy_171 : decode cX5_copy 171 = .ok (.iaload, 1) := by decide +kernel
theorem dX5_copy_172 : decode cX5_copy 172 = .ok (.iastore, 1) := by decide +kernel
theorem dX5_copy_173 : decode cX5_copy 173 = .ok (.iinc 6 1, 3) := by decide +kernel
theorem dX5_copy_176 : decode cX5_copy 176 = .ok (.goto (-32), 3) := by decide +kernel
theorem dX5_copy_179 : decode cX5_copy 179 = .ok (.aload_n 0, 1) := by decide +kernel
theorem dX5_copy_180 : decode cX5_copy 180 = .ok (.iload 5, 2) := by decide +kernel
theorem dX5_copy_182 : decode cX5_copy 182 = .ok (.invokevirtual 119, 3) := by decide +kernel
theorem dX5_copy_185 : decode cX5_copy 185 = .ok (.ireturn, 1) := by decide +kernel
theorem dX5_traced_0 : decode cX5_traced 0 = .ok (.aload_n 0, 1) := by decide +kernel
theorem dX5_traced_1 : decode cX5_traced 1 = .ok (.bipush 31, 2) := by decide +kernel
theorem dX5_traced_3 : decode cX5_traced 3 = .ok (.aload_n 0, 1) := by decide +kernel
theorem dX5_traced_4 : decode cX5_traced 4 = .ok (.getfield 234, 3) := by decide +kernel
theorem dX5_traced_7 : decode cX5_traced 7 = .ok (.imul, 1) := by decide +kernel
theorem dX5_traced_8 : decode cX5_traced 8 = .ok (.iload_n 1, 1) := by decide +kernel
theorem dX5_traced_9 : decode cX5_traced 9 = .ok (.iadd, 1) := by decide +kernel
theorem dX5_traced_10 : decode cX5_traced 10 = .ok (.putfield 234, 3) := by decide +kernel
theorem dX5_traced_13 : decode cX5_traced 13 = .ok (.return_, 1) := by decide +kernel
set_option maxRecDepth 20000 in
theorem ggX5_tell_X5_noGrass : GoodIn wsX5_tell wsX5_noGrass := goodIn_r _ [7, 1, 8, 9, 10, 6, 11, 12, 13, 14, 15, 16, 17, 18, 19, 20, 26, 27, 28, 29, 30, 31, 32, 33, 34, 35, 36, 37, 38, 39, 40, 41, 42, 43, 44, 45, 46, 47, 48, 49, 50, 51, 52, 53, 54, 55] (by decide +kernel) (by decide +kernel)
set_option maxRecDepth 20000 in
theorem gX5_tell_X5_noGrass : GoodIn wsX5_tell (wsV RX5 152 RX5 yX5_noGrass wsX5_noGrass) := goodIn_app (goodIn_of _ (by decide +kernel)) ggX5_tell_X5_noGrass
set_option maxRecDepth 20000 in
theorem ggX5_tell_X5_traced : GoodIn wsX5_tell wsX5_traced := goodIn_r _ [24, 25, 26, 27, 28, 29, 30, 31, 32, 33, 34, 35, 36, 37, 38, 39, 40, 41, 42, 43, 44, 45, 46, 47, 48, 49, 50, 51, 52, 53, 54, 55] (by decide +kernel) (by decide +kernel)
set_option maxRecDepth 20000 in
theorem gX5_tell_X5_traced : GoodIn wsX5_tell (wsV RX5 237 RX5 yX5_traced wsX5_traced) := goodIn_app (goodIn_of _ (by decide +kernel)) ggX5_tell_X5_traced
theorem dX5_tell_0 : decode cX5_tell 0 = .ok (.aload_n 0, 1) := by decide +kernel
theorem dX5_tell_1 : decode cX5_tell 1 = .ok (.iload_n 1, 1) := by decide +kernel
theorem dX5_tell_2 : decode cX5_tell 2 = .ok (.invokevirtual 152, 3) := by decide +kernel
theorem dX5_tell_5 : decode cX5_tell 5 = .ok (.ifCond .eq 5, 3) := by decide +kernel
theorem dX5_tell_8 : decode cX5_tell 8 = .ok (.iconst (-1), 1) := by decide +kernel
theorem dX5_tell_9 : decode cX5_tell 9 = .ok (.ireturn, 1) := by decide +kernel
theorem dX5_tell_10 : decode cX5_tell 10 = .ok (.aload_n 0, 1) := by decide +kernel
theorem dX5_tell_11 : decode cX5_tell 11 = .ok (.getfield 7, 3) := by decide +kernel
theorem dX5_tell_14 : decode cX5_tell 14 = .ok (.iload_n 1, 1) := by decide +kernel
theorem dX5_tell_15 : decode cX5_tell 15 = .ok (.iaload, 1) := by decide +kernel
theorem dX5_tell_16 : decode cX5_tell 16 = .ok (.istore_n 2, 1) := by decide +kernel
theorem dX5_tell_17 : decode cX5_tell 17 = .ok (.iload_n 2, 1) := by decide +kernel
theorem dX5_tell_18 : decode cX5_tell 18 = .ok (.iconst 2, 1) := by decide +kernel
theorem dX5_tell_19 : decode cX5_tell 19 = .ok (.if_icmp .ne 8, 3) := by decide +kernel
theorem dX5_tell_22 : decode cX5_tell 22 = .ok (.aload_n 0, 1) := by decide +kernel
theorem dX5_tell_23 : decode cX5_tell 23 = .ok (.iconst 3, 1) := by decide +kernel
theorem dX5_tell_24 : decode cX5_tell 24 = .ok (.invokevirtual 237, 3) := by decide +kernel
theorem dX5_tell_27 : decode cX5_tell 27 = .ok (.iload_n 2, 1) := by decide +kernel
theorem dX5_tell_28 : decode cX5_tell 28 = .ok (.ifCond .le 8, 3) := by decide +kernel
theorem dX5_tell_31 : decode cX5_tell 31 = .ok (.aload_n 0, 1) := by decide +kernel
theorem dX5_tell_32 : decode cX5_tell 32 = .ok (.iconst 2, 1) := by decide +kernel
theorem dX5_tell_33 : decode cX5_tell 33 = .ok (.invokevirtual 237, 3) := by decide +kernel
theorem dX5_tell_36 : decode cX5_tell 36 = .ok (.aload_n 0, 1) := by decide +kernel
theorem dX5_tell_37 : decode cX5_tell 37 = .ok (.iconst 1, 1) := by decide +kernel
theorem dX5_tell_38 : decode cX5_tell 38 = .ok (.invokevirtual 237, 3) := by decide +kernel
theorem dX5_tell_41 : decode cX5_tell 41 = .ok (.iload_n 2, 1) := by decide +kernel
theorem dX5_tell_42 : decode cX5_tell 42 = .ok (.iconst 2, 1) := by decide +kernel
theorem dX5_tell_43 : decode cX5_tell 43 = .ok (.if_icmp .ne 8, 3) := by decide +kernel
theorem dX5_tell_46 : decode cX5_tell 46 = .ok (.aload_n 0, 1) := by decide +kernel
theorem dX5_tell_47 : decode cX5_tell 47 = .ok (.iconst 1, 1) := by decide +kernel
theorem dX5_tell_48 : decode cX5_tell 48 = .ok (.invokevirtual 237, 3) := by decide +kernel
theorem dX5_tell_51 : decode cX5_tell 51 = .ok (.aload_n 0, 1) := by decide +kernel
theorem dX5_tell_52 : decode cX5_tell 52 = .ok (.getfield 13, 3) := by decide +kernel
theorem dX5_tell_55 : decode cX5_tell 55 = .ok (.iload_n 1, 1) := by decide +kernel
theorem dX5_tell_56 : decode cX5_tell 56 = .ok (.iaload, 1) := by decide +kernel
theorem dX5_tell_57 : decode cX5_tell 57 = .ok (.istore_n 3, 1) := by decide +kernel
theorem dX5_tell_58 : decode cX5_tell 58 = .ok (.iload_n 2, 1) := by decide +kernel
theorem dX5_tell_59 : decode cX5_tell 59 = .ok (.ifCond .ne 7, 3) := by decide +kernel
theorem dX5_tell_62 : decode cX5_tell 62 = .ok (.iload_n 3, 1) := by decide +kernel
theorem dX5_tell_63 : decode cX5_tell 63 = .ok (.goto 21, 3) := by decide +kernel
theorem dX5_tell_66 : decode cX5_tell 66 = .ok (.iload_n 2, 1) := by decide +kernel
theorem dX5_tell_67 : decode cX5_tell 67 = .ok (.iconst 1, 1) := by decide +kernel
theorem dX5_tell_68 : decode cX5_tell 68 = .ok (.if_icmp .ne 10, 3) := by decide +kernel
theorem dX5_tell_71 : decode cX5_tell 71 = .ok (.iload_n 3, 1) := by decide +kernel
theorem dX5_tell_72 : decode cX5_tell 72 = .ok (.bipush 100, 2) := by decide +kernel
theorem dX5_tell_74 : decode cX5_tell 74 = .ok (.iadd, 1) := by decide +kernel
theorem dX5_tell_75 : decode cX5_tell 75 = .ok (.goto 9, 3) := by decide +kernel
theorem dX5_tell_78 : decode cX5_tell 78 = .ok (.iconst 2, 1) := by decide +kernel
theorem dX5_tell_79 : decode cX5_tell 79 = .ok (.iload_n 3, 1) := by decide +kernel
theorem dX5_tell_80 : decode cX5_tell 80 = .ok (.imul, 1) := by decide +kernel
theorem dX5_tell_81 : decode cX5_tell 81 = .ok (.bipush 100, 2) := by decide +kernel
theorem dX5_tell_83 : decode cX5_tell 83 = .ok (.iadd, 1) := by decide +kernel
theorem dX5_tell_84 : decode cX5_tell 84 = .ok (.ireturn, 1) := by decide +kernel
set_option maxRecDepth 20000 in
theorem ggX5_trod_X5_noGrass : GoodIn wsX5_trod wsX5_noGrass := goodIn_r _ [6, 1, 7, 8, 9, 5, 10, 11, 12, 13, 14, 15, 16, 17, 18, 19, 25, 26, 27, 28, 29, 30, 31, 32, 33, 34, 35, 36, 37, 38, 39, 40, 41, 42, 43, 44, 45, 46, 47, 48, 49, 50, 51, 52, 53, 54] (by decide +kernel) (by decide +kernel)
set_option maxRecDepth 20000 in
theorem gX5_trod_X5_noGrass : GoodIn wsX5_trod (wsV RX5 152 RX5 yX5_noGrass wsX5_noGrass) := goodIn_app (goodIn_of _ (by decide +kernel)) ggX5_trod_X5_noGrass
set_option maxRecDepth 20000 in
theorem ggX5_trod_X5_traced : GoodIn wsX5_trod wsX5_traced := goodIn_r _ [23, 24, 25, 26, 27, 28, 29, 30, 31, 32, 33, 34, 35, 36, 37, 38, 39, 40, 41, 42, 43, 44, 45, 46, 47, 48, 49, 50, 51, 52, 53, 54] (by decide +kernel) (by decide +kernel)
set_option maxRecDepth 20000 in
theorem gX5_trod_X5_traced : GoodIn wsX5_trod (wsV RX5 237 RX5 yX5_traced wsX5_traced) := goodIn_app (goodIn_of _ (by decide +kernel)) ggX5_trod_X5_traced
theorem dX5_trod_0 : decode cX5_trod 0 = .ok (.aload_n 0, 1) := by decide +kernel
theorem dX5_trod_1 : decode cX5_trod 1 = .ok (.iload_n 1, 1) := by decide +kernel
theorem dX5_trod_2 : decode cX5_trod 2 = .ok (.invokevirtual 152, 3) := by decide +kernel
theorem dX5_trod_5 : decode cX5_trod 5 = .ok (.ifCond .eq 5, 3) := by decide +kernel
theorem dX5_trod_8 : decode cX5_trod 8 = .ok (.iconst (-1), 1) := by decide +kernel
theorem dX5_trod_9 : decode cX5_trod 9 = .ok (.ireturn, 1) := by decide +kernel
theorem dX5_trod_10 : decode cX5_trod 10 = .ok (.aload_n 0, 1) := by decide +kernel
theorem dX5_trod_11 : decode cX5_trod 11 = .ok (.aload_n 0, 1) := by decide +kernel
theorem dX5_trod_12 : decode cX5_trod 12 = .ok (.getfield 7, 3) := by decide +kernel
theorem dX5_trod_15 : decode cX5_trod 15 = .ok (.iload_n 1, 1) := by decide +kernel
theorem dX5_trod_16 : decode cX5_trod 16 = .ok (.iaload, 1) := by decide +kernel
theorem dX5_trod_17 : decode cX5_trod 17 = .ok (.iconst 2, 1) := by decide +kernel
theorem dX5_trod_18 : decode cX5_trod 18 = .ok (.if_icmp .ne 7, 3) := by decide +kernel
theorem dX5_trod_21 : decode cX5_trod 21 = .ok (.iconst 5, 1) := by decide +kernel
theorem dX5_trod_22 : decode cX5_trod 22 = .ok (.goto 4, 3) := by decide +kernel
theorem dX5_trod_25 : decode cX5_trod 25 = .ok (.iconst 4, 1) := by decide +kernel
theorem dX5_trod_26 : decode cX5_trod 26 = .ok (.invokevirtual 237, 3) := by decide +kernel
theorem dX5_trod_29 : decode cX5_trod 29 = .ok (.aload_n 0, 1) := by decide +kernel
theorem dX5_trod_30 : decode cX5_trod 30 = .ok (.getfield 7, 3) := by decide +kernel
theorem dX5_trod_33 : decode cX5_trod 33 = .ok (.iload_n 1, 1) := by decide +kernel
theorem dX5_trod_34 : decode cX5_trod 34 = .ok (.iaload, 1) := by decide +kernel
theorem dX5_trod_35 : decode cX5_trod 35 = .ok (.iconst 2, 1) := by decide +kernel
theorem dX5_trod_36 : decode cX5_trod 36 = .ok (.if_icmp .ne 8, 3) := by decide +kernel
theorem dX5_trod_39 : decode cX5_trod 39 = .ok (.bipush 40, 2) := by decide +kernel
theorem dX5_trod_41 : decode cX5_trod 41 = .ok (.goto 4, 3) := by decide +kernel
theorem dX5_trod_44 : decode cX5_trod 44 = .ok (.iload_n 1, 1) := by decide +kernel
theorem dX5_trod_45 : decode cX5_trod 45 = .ok (.ireturn, 1) := by decide +kernel
set_option maxRecDepth 20000 in
theorem ggX5_as_X5_noGrass : GoodIn wsX5_as wsX5_noGrass := goodIn_r _ [7, 2, 8, 9, 10, 6, 11, 12, 13, 14, 15, 16, 17, 18, 19, 20, 30, 31, 32, 33, 34, 35, 36, 37, 38, 39, 40, 41, 42, 43, 44, 45, 46, 47, 48, 49, 50, 51, 52, 53, 54, 55, 56, 57, 58, 59] (by decide +kernel) (by decide +kernel)
set_option maxRecDepth 20000 in
theorem gX5_as_X5_noGrass : GoodIn wsX5_as (wsV RX5 152 RX5 yX5_noGrass wsX5_noGrass) := goodIn_app (goodIn_of _ (by decide +kernel)) ggX5_as_X5_noGrass
set_option maxRecDepth 20000 in
theorem ggX5_as_X5_refused : GoodIn wsX5_as wsX5_refused := goodIn_r _ [24, 25, 30, 31, 32, 33, 34, 35, 36, 37, 38, 39, 40, 41, 42, 43, 44, 45, 46, 47, 48, 49, 50, 51, 52, 53, 54, 55, 56, 57, 58, 59] (by decide +kernel) (by decide +kernel)
set_option maxRecDepth 20000 in
theorem gX5_as_X5_refused : GoodIn wsX5_as (wsV RX5 119 RX5 yX5_refused wsX5_refused) := goodIn_app (goodIn_of _ (by decide +kernel)) ggX5_as_X5_refused
set_option maxRecDepth 20000 in
theorem ggX5_as_X5_in : GoodIn wsX5_as wsX5_in := goodIn_r _ [20] (by decide +kernel) (by decide +kernel)
set_option maxRecDepth 20000 in
theorem gX5_as_X5_in : GoodIn wsX5_as (va_wsS RX5 73 yX5_in wsX5_in) := goodIn_app (goodIn_of _ (by decide +kernel)) ggX5_as_X5_in
set_option maxRecDepth 20000 in
theorem ggX5_as_X5_failed : GoodIn wsX5_as wsX5_failed := goodIn_r _ [29, 25, 30, 31, 32, 33, 34, 35, 36, 37, 38, 39, 40, 41, 42, 43, 44, 45, 46, 47, 48, 49, 50, 51, 52, 53, 54, 55, 56, 57, 58, 59] (by decide +kernel) (by decide +kernel)
set_option maxRecDepth 20000 in
theorem gX5_as_X5_failed : GoodIn wsX5_as (wsV RX5 108 RX5 yX5_failed wsX5_failed) := goodIn_app (goodIn_of _ (by decide +kernel)) ggX5_as_X5_failed
theorem dX5_as_0 : decode cX5_as 0 = .ok (.aload_n 0, 1) := by decide +kernel
theorem dX5_as_1 : decode cX5_as 1 = .ok (.iload_n 1, 1) := by decide +kernel
theorem dX5_as_2 : decode cX5_as 2 = .ok (.invokevirtual 152, 3) := by decide +kernel
theorem dX5_as_5 : decode cX5_as 5 = .ok (.ifCond .eq 9, 3) := by decide +kernel
theorem dX5_as_8 : decode cX5_as 8 = .ok (.aload_n 0, 1) := by decide +kernel
theorem dX5_as_9 : decode cX5_as 9 = .ok (.iconst (-1), 1) := by decide +kernel
theorem dX5_as_10 : decode cX5_as 10 = .ok (.invokevirtual 119, 3) := by decide +kernel
theorem dX5_as_13 : decode cX5_as 13 = .ok (.ireturn, 1) := by decide +kernel
theorem dX5_as_14 : decode cX5_as 14 = .ok (.iload_n 2, 1) := by decide +kernel
theorem dX5_as_15 : decode cX5_as 15 = .ok (.i2l, 1) := by decide +kernel
theorem dX5_as_16 : decode cX5_as 16 = .ok (.lconst 0, 1) := by decide +kernel
theorem dX5_as_17 : decode cX5_as 17 = .ok (.ldc2_w 122, 3) := by decide +kernel
theorem dX5_as_20 : decode cX5_as 20 = .ok (.invokestatic 73, 3) := by decide +kernel
theorem dX5_as_23 : decode cX5_as 23 = .ok (.ifCond .ne 10, 3) := by decide +kernel
theorem dX5_as_26 : decode cX5_as 26 = .ok (.aload_n 0, 1) := by decide +kernel
theorem dX5_as_27 : decode cX5_as 27 = .ok (.bipush (-2), 2) := by decide +kernel
theorem dX5_as_29 : decode cX5_as 29 = .ok (.invokevirtual 119, 3) := by decide +kernel
theorem dX5_as_32 : decode cX5_as 32 = .ok (.ireturn, 1) := by decide +kernel
theorem dX5_as_33 : decode cX5_as 33 = .ok (.aload_n 0, 1) := by decide +kernel
theorem dX5_as_34 : decode cX5_as 34 = .ok (.getfield 7, 3) := by decide +kernel
theorem dX5_as_37 : decode cX5_as 37 = .ok (.iload_n 1, 1) := by decide +kernel
theorem dX5_as_38 : decode cX5_as 38 = .ok (.iaload, 1) := by decide +kernel
theorem dX5_as_39 : decode cX5_as 39 = .ok (.iload_n 2, 1) := by decide +kernel
theorem dX5_as_40 : decode cX5_as 40 = .ok (.if_icmp .lt 11, 3) := by decide +kernel
theorem dX5_as_43 : decode cX5_as 43 = .ok (.aload_n 0, 1) := by decide +kernel
theorem dX5_as_44 : decode cX5_as 44 = .ok (.iconst 1, 1) := by decide +kernel
theorem dX5_as_45 : decode cX5_as 45 = .ok (.invokevirtual 119, 3) := by decide +kernel
theorem dX5_as_48 : decode cX5_as 48 = .ok (.goto 8, 3) := by decide +kernel
theorem dX5_as_51 : decode cX5_as 51 = .ok (.aload_n 0, 1) := by decide +kernel
theorem dX5_as_52 : decode cX5_as 52 = .ok (.iconst 2, 1) := by decide +kernel
theorem dX5_as_53 : decode cX5_as 53 = .ok (.invokevirtual 108, 3) := by decide +kernel
theorem dX5_as_56 : decode cX5_as 56 = .ok (.ireturn, 1) := by decide +kernel
theorem dX5_trace_0 : decode cX5_trace 0 = .ok (.aload_n 0, 1) := by decide +kernel
theorem dX5_trace_1 : decode cX5_trace 1 = .ok (.getfield 234, 3) := by decide +kernel
theorem dX5_trace_4 : decode cX5_trace 4 = .ok (.ireturn, 1) := by decide +kernel
theorem dX5_fault_0 : decode cX5_fault 0 = .ok (.aload_n 0, 1) := by decide +kernel
theorem dX5_fault_1 : decode cX5_fault 1 = .ok (.getfield 55, 3) := by decide +kernel
theorem dX5_fault_4 : decode cX5_fault 4 = .ok (.ireturn, 1) := by decide +kernel
set_option maxRecDepth 20000 in
theorem ggX5_many_X5_cells : GoodIn wsX5_many wsX5_cells := goodIn_r _ [9, 10, 1, 16, 17, 18, 19, 20, 21, 22, 23, 24, 25, 26, 27, 28, 29, 30, 31, 32, 33, 34, 35, 36, 37, 38, 39, 40, 41, 42, 43, 44, 45] (by decide +kernel) (by decide +kernel)
set_option maxRecDepth 20000 in
theorem gX5_many_X5_cells : GoodIn wsX5_many (wsV RX5 69 RX5 yX5_cells wsX5_cells) := goodIn_app (goodIn_of _ (by decide +kernel)) ggX5_many_X5_cells
set_option maxRecDepth 20000 in
theorem ggX5_many_X5_thornsNow : GoodIn wsX5_many wsX5_thornsNow := goodIn_r _ [14, 15, 5, 6, 7, 8, 9, 10, 1, 16, 17, 18, 19, 20, 21, 22, 23, 24, 25, 26, 27, 28, 29, 30, 31, 32, 33, 34, 35, 36, 37, 38, 39, 40, 41, 42, 43, 44, 45] (by decide +kernel) (by decide +kernel)
set_option maxRecDepth 20000 in
theorem gX5_many_X5_thornsNow : GoodIn wsX5_many (wsV RX5 141 RX5 yX5_thornsNow wsX5_thornsNow) := goodIn_app (goodIn_of _ (by decide +kernel)) ggX5_many_X5_thornsNow
theorem dX5_many_0 : decode cX5_many 0 = .ok (.iload_n 1, 1) := by decide +kernel
theorem dX5_many_1 : decode cX5_many 1 = .ok (.tableswitch 69 0 5 #[39, 44, 49, 54, 59, 64], 39) := by decide +kernel
theorem dX5_many_40 : decode cX5_many 40 = .ok (.aload_n 0, 1) := by decide +kernel
theorem dX5_many_41 : decode cX5_many 41 = .ok (.invokevirtual 69, 3) := by decide +kernel
theorem dX5_many_44 : decode cX5_many 44 = .ok (.ireturn, 1) := by decide +kernel
theorem dX5_many_45 : decode cX5_many 45 = .ok (.aload_n 0, 1) := by decide +kernel
theorem dX5_many_46 : decode cX5_many 46 = .ok (.getfield 66, 3) := by decide +kernel
theorem dX5_many_49 : decode cX5_many 49 = .ok (.ireturn, 1) := by decide +kernel
theorem dX5_many_50 : decode cX5_many 50 = .ok (.aload_n 0, 1) := by decide +kernel
theorem dX5_many_51 : decode cX5_many 51 = .ok (.getfield 132, 3) := by decide +kernel
theorem dX5_many_54 : decode cX5_many 54 = .ok (.ireturn, 1) := by decide +kernel
theorem dX5_many_55 : decode cX5_many 55 = .ok (.aload_n 0, 1) := by decide +kernel
theorem dX5_many_56 : decode cX5_many 56 = .ok (.getfield 135, 3) := by decide +kernel
theorem dX5_many_59 : decode cX5_many 59 = .ok (.ireturn, 1) := by decide +kernel
theorem dX5_many_60 : decode cX5_many 60 = .ok (.aload_n 0, 1) := by decide +kernel
theorem dX5_many_61 : decode cX5_many 61 = .ok (.invokevirtual 141, 3) := by decide +kernel
theorem dX5_many_64 : decode cX5_many 64 = .ok (.ireturn, 1) := by decide +kernel
theorem dX5_many_65 : decode cX5_many 65 = .ok (.aload_n 0, 1) := by decide +kernel
theorem dX5_many_66 : decode cX5_many 66 = .ok (.getfield 138, 3) := by decide +kernel
theorem dX5_many_69 : decode cX5_many 69 = .ok (.ireturn, 1) := by decide +kernel
theorem dX5_many_70 : decode cX5_many 70 = .ok (.bipush (-2), 2) := by decide +kernel
theorem dX5_many_72 : decode cX5_many 72 = .ok (.ireturn, 1) := by decide +kernel
