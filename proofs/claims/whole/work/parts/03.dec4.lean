theorem dX0_init_0 : decode cX0_init 0 = .ok (.aload_n 0, 1) := by decide +kernel
theorem dX0_init_1 : decode cX0_init 1 = .ok (.invokespecial 3, 3) := by decide +kernel
theorem dX0_init_4 : decode cX0_init 4 = .ok (.aload_n 0, 1) := by decide +kernel
theorem dX0_init_5 : decode cX0_init 5 = .ok (.iconst 0, 1) := by decide +kernel
theorem dX0_init_6 : decode cX0_init 6 = .ok (.putfield 9, 3) := by decide +kernel
theorem dX0_init_9 : decode cX0_init 9 = .ok (.aload_n 0, 1) := by decide +kernel
theorem dX0_init_10 : decode cX0_init 10 = .ok (.iconst 0, 1) := by decide +kernel
theorem dX0_init_11 : decode cX0_init 11 = .ok (.putfield 15, 3) := by decide +kernel
theorem dX0_init_14 : decode cX0_init 14 = .ok (.aload_n 0, 1) := by decide +kernel
theorem dX0_init_15 : decode cX0_init 15 = .ok (.iconst 0, 1) := by decide +kernel
theorem dX0_init_16 : decode cX0_init 16 = .ok (.putfield 18, 3) := by decide +kernel
theorem dX0_init_19 : decode cX0_init 19 = .ok (.aload_n 0, 1) := by decide +kernel
theorem dX0_init_20 : decode cX0_init 20 = .ok (.iconst 0, 1) := by decide +kernel
theorem dX0_init_21 : decode cX0_init 21 = .ok (.putfield 21, 3) := by decide +kernel
theorem dX0_init_24 : decode cX0_init 24 = .ok (.aload_n 0, 1) := by decide +kernel
theorem dX0_init_25 : decode cX0_init 25 = .ok (.bipush 16, 2) := by decide +kernel
theorem dX0_init_27 : decode cX0_init 27 = .ok (.newarray .int, 2) := by decide +kernel
theorem dX0_init_29 : decode cX0_init 29 = .ok (.putfield 24, 3) := by decide +kernel
theorem dX0_init_32 : decode cX0_init 32 = .ok (.aload_n 0, 1) := by decide +kernel
theorem dX0_init_33 : decode cX0_init 33 = .ok (.bipush 16, 2) := by decide +kernel
theorem dX0_init_35 : decode cX0_init 35 = .ok (.newarray .int, 2) := by decide +kernel
theorem dX0_init_37 : decode cX0_init 37 = .ok (.putfield 28, 3) := by decide +kernel
theorem dX0_init_40 : decode cX0_init 40 = .ok (.aload_n 0, 1) := by decide +kernel
theorem dX0_init_41 : decode cX0_init 41 = .ok (.bipush 64, 2) := by decide +kernel
theorem dX0_init_43 : decode cX0_init 43 = .ok (.newarray .int, 2) := by decide +kernel
theorem dX0_init_45 : decode cX0_init 45 = .ok (.putfield 31, 3) := by decide +kernel
theorem dX0_init_48 : decode cX0_init 48 = .ok (.return_, 1) := by decide +kernel
theorem dX0_stands_0 : decode cX0_stands 0 = .ok (.aload_n 0, 1) := by decide +kernel
theorem dX0_stands_1 : decode cX0_stands 1 = .ok (.getfield 9, 3) := by decide +kernel
theorem dX0_stands_4 : decode cX0_stands 4 = .ok (.ifCond .le 7, 3) := by decide +kernel
theorem dX0_stands_7 : decode cX0_stands 7 = .ok (.iconst 1, 1) := by decide +kernel
theorem dX0_stands_8 : decode cX0_stands 8 = .ok (.goto 4, 3) := by decide +kernel
theorem dX0_stands_11 : decode cX0_stands 11 = .ok (.iconst 0, 1) := by decide +kernel
theorem dX0_stands_12 : decode cX0_stands 12 = .ok (.ireturn, 1) := by decide +kernel
theorem dX0_cells_0 : decode cX0_cells 0 = .ok (.aload_n 0, 1) := by decide +kernel
theorem dX0_cells_1 : decode cX0_cells 1 = .ok (.getfield 9, 3) := by decide +kernel
theorem dX0_cells_4 : decode cX0_cells 4 = .ok (.aload_n 0, 1) := by decide +kernel
theorem dX0_cells_5 : decode cX0_cells 5 = .ok (.getfield 15, 3) := by decide +kernel
theorem dX0_cells_8 : decode cX0_cells 8 = .ok (.imul, 1) := by decide +kernel
theorem dX0_cells_9 : decode cX0_cells 9 = .ok (.ireturn, 1) := by decide +kernel
set_option maxRecDepth 20000 in
theorem ggX0_has_X0_cells : GoodIn wsX0_has wsX0_cells := goodIn_r _ [5, 6, 7, 8, 9, 10, 11, 12, 13, 14] (by decide +kernel) (by decide +kernel)
set_option maxRecDepth 20000 in
theorem gX0_has_X0_cells : GoodIn wsX0_has (wsV RX0 34 RX0 yX0_cells wsX0_cells) := goodIn_app (goodIn_of _ (by decide +kernel)) ggX0_has_X0_cells
theorem dX0_has_0 : decode cX0_has 0 = .ok (.iload_n 1, 1) := by decide +kernel
theorem dX0_has_1 : decode cX0_has 1 = .ok (.ifCond .lt 15, 3) := by decide +kernel
theorem dX0_has_4 : decode cX0_has 4 = .ok (.iload_n 1, 1) := by decide +kernel
theorem dX0_has_5 : decode cX0_has 5 = .ok (.aload_n 0, 1) := by decide +kernel
theorem dX0_has_6 : decode cX0_has 6 = .ok (.invokevirtual 34, 3) := by decide +kernel
theorem dX0_has_9 : decode cX0_has 9 = .ok (.if_icmp .ge 7, 3) := by decide +kernel
theorem dX0_has_12 : decode cX0_has 12 = .ok (.iconst 1, 1) := by decide +kernel
theorem dX0_has_13 : decode cX0_has 13 = .ok (.goto 4, 3) := by decide +kernel
theorem dX0_has_16 : decode cX0_has 16 = .ok (.iconst 0, 1) := by decide +kernel
theorem dX0_has_17 : decode cX0_has 17 = .ok (.ireturn, 1) := by decide +kernel
set_option maxRecDepth 20000 in
theorem ggX0_isSoft_X0_has : GoodIn wsX0_isSoft wsX0_has := goodIn_r _ [6, 7, 8, 9, 5, 10, 11, 12, 13, 14, 15, 16, 17, 18, 19] (by decide +kernel) (by decide +kernel)
set_option maxRecDepth 20000 in
theorem gX0_isSoft_X0_has : GoodIn wsX0_isSoft (wsV RX0 38 RX0 yX0_has wsX0_has) := goodIn_app (goodIn_of _ (by decide +kernel)) ggX0_isSoft_X0_has
theorem dX0_isSoft_0 : decode cX0_isSoft 0 = .ok (.aload_n 0, 1) := by decide +kernel
theorem dX0_isSoft_1 : decode cX0_isSoft 1 = .ok (.iload_n 1, 1) := by decide +kernel
theorem dX0_isSoft_2 : decode cX0_isSoft 2 = .ok (.invokevirtual 38, 3) := by decide +kernel
theorem dX0_isSoft_5 : decode cX0_isSoft 5 = .ok (.ifCond .eq 17, 3) := by decide +kernel
theorem dX0_isSoft_8 : decode cX0_isSoft 8 = .ok (.aload_n 0, 1) := by decide +kernel
theorem dX0_isSoft_9 : decode cX0_isSoft 9 = .ok (.getfield 24, 3) := by decide +kernel
theorem dX0_isSoft_12 : decode cX0_isSoft 12 = .ok (.iload_n 1, 1) := by decide +kernel
theorem dX0_isSoft_13 : decode cX0_isSoft 13 = .ok (.iaload, 1) := by decide +kernel
theorem dX0_isSoft_14 : decode cX0_isSoft 14 = .ok (.iconst 3, 1) := by decide +kernel
theorem dX0_isSoft_15 : decode cX0_isSoft 15 = .ok (.if_icmp .eq 7, 3) := by decide +kernel
theorem dX0_isSoft_18 : decode cX0_isSoft 18 = .ok (.iconst 1, 1) := by decide +kernel
theorem dX0_isSoft_19 : decode cX0_isSoft 19 = .ok (.goto 4, 3) := by decide +kernel
theorem dX0_isSoft_22 : decode cX0_isSoft 22 = .ok (.iconst 0, 1) := by decide +kernel
theorem dX0_isSoft_23 : decode cX0_isSoft 23 = .ok (.ireturn, 1) := by decide +kernel
set_option maxRecDepth 20000 in
theorem ggX0_grow_X4_kindOf : GoodIn wsX0_grow wsX4_kindOf := goodIn_r _ [9] (by decide +kernel) (by decide +kernel)
set_option maxRecDepth 20000 in
theorem gX0_grow_X4_kindOf_n42 : GoodIn wsX0_grow (wsX4_kindOf) := ggX0_grow_X4_kindOf
set_option maxRecDepth 20000 in
theorem ggX0_grow_X0_meet : GoodIn wsX0_grow wsX0_meet := goodIn_r _ [14, 15, 2, 1, 16, 17, 18, 19, 20, 21, 22] (by decide +kernel) (by decide +kernel)
set_option maxRecDepth 20000 in
theorem gX0_grow_X0_meet : GoodIn wsX0_grow (wsV RX0 46 RX0 yX0_meet wsX0_meet) := goodIn_app (goodIn_of _ (by decide +kernel)) ggX0_grow_X0_meet
theorem dX0_grow_0 : decode cX0_grow 0 = .ok (.aload_n 0, 1) := by decide +kernel
theorem dX0_grow_1 : decode cX0_grow 1 = .ok (.aload_n 1, 1) := by decide +kernel
theorem dX0_grow_2 : decode cX0_grow 2 = .ok (.iload_n 2, 1) := by decide +kernel
theorem dX0_grow_3 : decode cX0_grow 3 = .ok (.iconst 1, 1) := by decide +kernel
theorem dX0_grow_4 : decode cX0_grow 4 = .ok (.iadd, 1) := by decide +kernel
theorem dX0_grow_5 : decode cX0_grow 5 = .ok (.iaload, 1) := by decide +kernel
theorem dX0_grow_6 : decode cX0_grow 6 = .ok (.bipush 48, 2) := by decide +kernel
theorem dX0_grow_8 : decode cX0_grow 8 = .ok (.isub, 1) := by decide +kernel
theorem dX0_grow_9 : decode cX0_grow 9 = .ok (.putfield 9, 3) := by decide +kernel
theorem dX0_grow_12 : decode cX0_grow 12 = .ok (.aload_n 0, 1) := by decide +kernel
theorem dX0_grow_13 : decode cX0_grow 13 = .ok (.aload_n 1, 1) := by decide +kernel
theorem dX0_grow_14 : decode cX0_grow 14 = .ok (.iload_n 2, 1) := by decide +kernel
theorem dX0_grow_15 : decode cX0_grow 15 = .ok (.iconst 2, 1) := by decide +kernel
theorem dX0_grow_16 : decode cX0_grow 16 = .ok (.iadd, 1) := by decide +kernel
theorem dX0_grow_17 : decode cX0_grow 17 = .ok (.iaload, 1) := by decide +kernel
theorem dX0_grow_18 : decode cX0_grow 18 = .ok (.bipush 48, 2) := by decide +kernel
theorem dX0_grow_20 : decode cX0_grow 20 = .ok (.isub, 1) := by decide +kernel
theorem dX0_grow_21 : decode cX0_grow 21 = .ok (.putfield 15, 3) := by decide +kernel
theorem dX0_grow_24 : decode cX0_grow 24 = .ok (.aload_n 0, 1) := by decide +kernel
theorem dX0_grow_25 : decode cX0_grow 25 = .ok (.aload_n 1, 1) := by decide +kernel
theorem dX0_grow_26 : decode cX0_grow 26 = .ok (.iload_n 2, 1) := by decide +kernel
theorem dX0_grow_27 : decode cX0_grow 27 = .ok (.iconst 3, 1) := by decide +kernel
theorem dX0_grow_28 : decode cX0_grow 28 = .ok (.iadd, 1) := by decide +kernel
theorem dX0_grow_29 : decode cX0_grow 29 = .ok (.iaload, 1) := by decide +kernel
theorem dX0_grow_30 : decode cX0_grow 30 = .ok (.bipush 48, 2) := by decide +kernel
theorem dX0_grow_32 : decode cX0_grow 32 = .ok (.isub, 1) := by decide +kernel
theorem dX0_grow_33 : decode cX0_grow 33 = .ok (.putfield 18, 3) := by decide +kernel
theorem dX0_grow_36 : decode cX0_grow 36 = .ok (.aload_n 0, 1) := by decide +kernel
theorem dX0_grow_37 : decode cX0_grow 37 = .ok (.aload_n 1, 1) := by decide +kernel
theorem dX0_grow_38 : decode cX0_grow 38 = .ok (.iload_n 2, 1) := by decide +kernel
theorem dX0_grow_39 : decode cX0_grow 39 = .ok (.iconst 4, 1) := by decide +kernel
theorem dX0_grow_40 : decode cX0_grow 40 = .ok (.iadd, 1) := by decide +kernel
theorem dX0_grow_41 : decode cX0_grow 41 = .ok (.iaload, 1) := by decide +kernel
theorem dX0_grow_42 : decode cX0_grow 42 = .ok (.bipush 48, 2) := by decide +kernel
theorem dX0_grow_44 : decode cX0_grow 44 = .ok (.isub, 1) := by decide +kernel
theorem dX0_grow_45 : decode cX0_grow 45 = .ok (.putfield 21, 3) := by decide +kernel
theorem dX0_grow_48 : decode cX0_grow 48 = .ok (.iconst 0, 1) := by decide +kernel
theorem dX0_grow_49 : decode cX0_grow 49 = .ok (.istore_n 3, 1) := by decide +kernel
theorem dX0_grow_50 : decode cX0_grow 50 = .ok (.iconst 0, 1) := by decide +kernel
theorem dX0_grow_51 : decode cX0_grow 51 = .ok (.istore 4, 2) := by decide +kernel
theorem dX0_grow_53 : decode cX0_grow 53 = .ok (.iload 4, 2) := by decide +kernel
theorem dX0_grow_55 : decode cX0_grow 55 = .ok (.aload_n 0, 1) := by decide +kernel
theorem dX0_grow_56 : decode cX0_grow 56 = .ok (.getfield 9, 3) := by decide +kernel
theorem dX0_grow_59 : decode cX0_grow 59 = .ok (.if_icmp .ge 79, 3) := by decide +kernel
theorem dX0_grow_62 : decode cX0_grow 62 = .ok (.iload_n 2, 1) := by decide +kernel
theorem dX0_grow_63 : decode cX0_grow 63 = .ok (.iconst 5, 1) := by decide +kernel
theorem dX0_grow_64 : decode cX0_grow 64 = .ok (.iadd, 1) := by decide +kernel
theorem dX0_grow_65 : decode cX0_grow 65 = .ok (.iload 4, 2) := by decide +kernel
theorem dX0_grow_67 : decode cX0_grow 67 = .ok (.aload_n 0, 1) := by decide +kernel
theorem dX0_grow_68 : decode cX0_grow 68 = .ok (.getfield 15, 3) := by decide +kernel
theorem dX0_grow_71 : decode cX0_grow 71 = .ok (.iconst 1, 1) := by decide +kernel
theorem dX0_grow_72 : decode cX0_grow 72 = .ok (.iadd, 1) := by decide +kernel
theorem dX0_grow_73 : decode cX0_grow 73 = .ok (.imul, 1) := by decide +kernel
theorem dX0_grow_74 : decode cX0_grow 74 = .ok (.iadd, 1) := by decide +kernel
theorem dX0_grow_75 : decode cX0_grow 75 = .ok (.iconst 1, 1) := by decide +kernel
theorem dX0_grow_76 : decode cX0_grow 76 = .ok (.iadd, 1) := by decide +kernel
theorem dX0_grow_77 : decode cX0_grow 77 = .ok (.istore 5, 2) := by decide +kernel
theorem dX0_grow_79 : decode cX0_grow 79 = .ok (.iconst 0, 1) := by decide +kernel
theorem dX0_grow_80 : decode cX0_grow 80 = .ok (.istore 6, 2) := by decide +kernel
theorem dX0_grow_82 : decode cX0_grow 82 = .ok (.iload 6, 2) := by decide +kernel
theorem dX0_grow_84 : decode cX0_grow 84 = .ok (.aload_n 0, 1) := by decide +kernel
theorem dX0_grow_85 : decode cX0_grow 85 = .ok (.getfield 15, 3) := by decide +kernel
theorem dX0_grow_88 : decode cX0_grow 88 = .ok (.if_icmp .ge 44, 3) := by decide +kernel
theorem dX0_grow_91 : decode cX0_grow 91 = .ok (.aload_n 0, 1) := by decide +kernel
theorem dX0_grow_92 : decode cX0_grow 92 = .ok (.getfield 24, 3) := by decide +kernel
theorem dX0_grow_95 : decode cX0_grow 95 = .ok (.iload_n 3, 1) := by decide +kernel
theorem dX0_grow_96 : decode cX0_grow 96 = .ok (.aload_n 1, 1) := by decide +kernel
theorem dX0_grow_97 : decode cX0_grow 97 = .ok (.iload 5, 2) := by decide +kernel
theorem dX0_grow_99 : decode cX0_grow 99 = .ok (.iload 6, 2) := by decide +kernel
theorem dX0_grow_101 : decode cX0_grow 101 = .ok (.iadd, 1) := by decide +kernel
theorem dX0_grow_102 : decode cX0_grow 102 = .ok (.iaload, 1) := by decide +kernel
theorem dX0_grow_103 : decode cX0_grow 103 = .ok (.invokestatic 42, 3) := by decide +kernel
theorem dX0_grow_106 : decode cX0_grow 106 = .ok (.iastore, 1) := by decide +kernel
theorem dX0_grow_107 : decode cX0_grow 107 = .ok (.aload_n 0, 1) := by decide +kernel
theorem dX0_grow_108 : decode cX0_grow 108 = .ok (.getfield 28, 3) := by decide +kernel
theorem dX0_grow_111 : decode cX0_grow 111 = .ok (.iload_n 3, 1) := by decide +kernel
theorem dX0_grow_112 : decode cX0_grow 112 = .ok (.iconst 0, 1) := by decide +kernel
theorem dX0_grow_113 : decode cX0_grow 113 = .ok (.iastore, 1) := by decide +kernel
theorem dX0_grow_114 : decode cX0_grow 114 = .ok (.aload_n 0, 1) := by decide +kernel
theorem dX0_grow_115 : decode cX0_grow 115 = .ok (.iload_n 3, 1) := by decide +kernel
theorem dX0_grow_116 : decode cX0_grow 116 = .ok (.iload 4, 2) := by decide +kernel
theorem dX0_grow_118 : decode cX0_grow 118 = .ok (.iload 6, 2) := by decide +kernel
theorem dX0_grow_120 : decode cX0_grow 120 = .ok (.invokevirtual 46, 3) := by decide +kernel
theorem dX0_grow_123 : decode cX0_grow 123 = .ok (.iinc 3 1, 3) := by decide +kernel
theorem dX0_grow_126 : decode cX0_grow 126 = .ok (.iinc 6 1, 3) := by decide +kernel
theorem dX0_grow_129 : decode cX0_grow 129 = .ok (.goto (-47), 3) := by decide +kernel
theorem dX0_grow_132 : decode cX0_grow 132 = .ok (.iinc 4 1, 3) := by decide +kernel
theorem dX0_grow_135 : decode cX0_grow 135 = .ok (.goto (-82), 3) := by decide +kernel
theorem dX0_grow_138 : decode cX0_grow 138 = .ok (.return_, 1) := by decide +kernel
theorem dX0_meet_0 : decode cX0_meet 0 = .ok (.aload_n 0, 1) := by decide +kernel
theorem dX0_meet_1 : decode cX0_meet 1 = .ok (.getfield 31, 3) := by decide +kernel
theorem dX0_meet_4 : decode cX0_meet 4 = .ok (.iconst 4, 1) := by decide +kernel
theorem dX0_meet_5 : decode cX0_meet 5 = .ok (.iload_n 1, 1) := by decide +kernel
theorem dX0_meet_6 : decode cX0_meet 6 = .ok (.imul, 1) := by decide +kernel
theorem dX0_meet_7 : decode cX0_meet 7 = .ok (.iload_n 2, 1) := by decide +kernel
theorem dX0_meet_8 : decode cX0_meet 8 = .ok (.ifCond .le 12, 3) := by decide +kernel
theorem dX0_meet_11 : decode cX0_meet 11 = .ok (.iload_n 1, 1) := by decide +kernel
theorem dX0_meet_12 : decode cX0_meet 12 = .ok (.aload_n 0, 1) := by decide +kernel
theorem dX0_meet_13 : decode cX0_meet 13 = .ok (.getfield 15, 3) := by decide +kernel
theorem dX0_meet_16 : decode cX0_meet 16 = .ok (.isub, 1) := by decide +kernel
theorem dX0_meet_17 : decode cX0_meet 17 = .ok (.goto 5, 3) := by decide +kernel
theorem dX0_meet_20 : decode cX0_meet 20 = .ok (.bipush (-9), 2) := by decide +kernel
theorem dX0_meet_22 : decode cX0_meet 22 = .ok (.iastore, 1) := by decide +kernel
theorem dX0_meet_23 : decode cX0_meet 23 = .ok (.aload_n 0, 1) := by decide +kernel
theorem dX0_meet_24 : decode cX0_meet 24 = .ok (.getfield 31, 3) := by decide +kernel
theorem dX0_meet_27 : decode cX0_meet 27 = .ok (.iconst 4, 1) := by decide +kernel
theorem dX0_meet_28 : decode cX0_meet 28 = .ok (.iload_n 1, 1) := by decide +kernel
theorem dX0_meet_29 : decode cX0_meet 29 = .ok (.imul, 1) := by decide +kernel
theorem dX0_meet_30 : decode cX0_meet 30 = .ok (.iconst 1, 1) := by decide +kernel
theorem dX0_meet_31 : decode cX0_meet 31 = .ok (.iadd, 1) := by decide +kernel
theorem dX0_meet_32 : decode cX0_meet 32 = .ok (.iload_n 3, 1) := by decide +kernel
theorem dX0_meet_33 : decode cX0_meet 33 = .ok (.aload_n 0, 1) := by decide +kernel
theorem dX0_meet_34 : decode cX0_meet 34 = .ok (.getfield 15, 3) := by decide +kernel
theorem dX0_meet_37 : decode cX0_meet 37 = .ok (.iconst 1, 1) := by decide +kernel
theorem dX0_meet_38 : decode cX0_meet 38 = .ok (.isub, 1) := by decide +kernel
theorem dX0_meet_39 : decode cX0_meet 39 = .ok (.if_icmp .ge 9, 3) := by decide +kernel
theorem dX0_meet_42 : decode cX0_meet 42 = .ok (.iload_n 1, 1) := by decide +kernel
theorem dX0_meet_43 : decode cX0_meet 43 = .ok (.iconst 1, 1) := by decide +kernel
theorem dX0_meet_44 : decode cX0_meet 44 = .ok (.iadd, 1) := by decide +kernel
theorem dX0_meet_45 : decode cX0_meet 45 = .ok (.goto 5, 3) := by decide +kernel
theorem dX0_meet_48 : decode cX0_meet 48 = .ok (.bipush (-9), 2) := by decide +kernel
theorem dX0_meet_50 : decode cX0_meet 50 = .ok (.iastore, 1) := by decide +kernel
theorem dX0_meet_51 : decode cX0_meet 51 = .ok (.aload_n 0, 1) := by decide +kernel
theorem dX0_meet_52 : decode cX0_meet 52 = .ok (.getfield 31, 3) := by decide +kernel
theorem dX0_meet_55 : decode cX0_meet 55 = .ok (.iconst 4, 1) := by decide +kernel
theorem dX0_meet_56 : decode cX0_meet 56 = .ok (.iload_n 1, 1) := by decide +kernel
theorem dX0_meet_57 : decode cX0_meet 57 = .ok (.imul, 1) := by decide +kernel
theorem dX0_meet_58 : decode cX0_meet 58 = .ok (.iconst 2, 1) := by decide +kernel
theorem dX0_meet_59 : decode cX0_meet 59 = .ok (.iadd, 1) := by decide +kernel
theorem dX0_meet_60 : decode cX0_meet 60 = .ok (.iload_n 2, 1) := by decide +kernel
theorem dX0_meet_61 : decode cX0_meet 61 = .ok (.aload_n 0, 1) := by decide +kernel
theorem dX0_meet_62 : decode cX0_meet 62 = .ok (.getfield 9, 3) := by decide +kernel
theorem dX0_meet_65 : decode cX0_meet 65 = .ok (.iconst 1, 1) := by decide +kernel
theorem dX0_meet_66 : decode cX0_meet 66 = .ok (.isub, 1) := by decide +kernel
theorem dX0_meet_67 : decode cX0_meet 67 = .ok (.if_icmp .ge 12, 3) := by decide +kernel
theorem dX0_meet_70 : decode cX0_meet 70 = .ok (.iload_n 1, 1) := by decide +kernel
theorem dX0_meet_71 : decode cX0_meet 71 = .ok (.aload_n 0, 1) := by decide +kernel
theorem dX0_meet_72 : decode cX0_meet 72 = .ok (.getfield 15, 3) := by decide +kernel
theorem dX0_meet_75 : decode cX0_meet 75 = .ok (.iadd, 1) := by decide +kernel
theorem dX0_meet_76 : decode cX0_meet 76 = .ok (.goto 5, 3) := by decide +kernel
theorem dX0_meet_79 : decode cX0_meet 79 = .ok (.bipush (-9), 2) := by decide +kernel
theorem dX0_meet_81 : decode cX0_meet 81 = .ok (.iastore, 1) := by decide +kernel
theorem dX0_meet_82 : decode cX0_meet 82 = .ok (.aload_n 0, 1) := by decide +kernel
theorem dX0_meet_83 : decode cX0_meet 83 = .ok (.getfield 31, 3) := by decide +kernel
theorem dX0_meet_86 : decode cX0_meet 86 = .ok (.iconst 4, 1) := by decide +kernel
theorem dX0_meet_87 : decode cX0_meet 87 = .ok (.iload_n 1, 1) := by decide +kernel
theorem dX0_meet_88 : decode cX0_meet 88 = .ok (.imul, 1) := by decide +kernel
theorem dX0_meet_89 : decode cX0_meet 89 = .ok (.iconst 3, 1) := by decide +kernel
theorem dX0_meet_90 : decode cX0_meet 90 = .ok (.iadd, 1) := by decide +kernel
theorem dX0_meet_91 : decode cX0_meet 91 = .ok (.iload_n 3, 1) := by decide +kernel
theorem dX0_meet_92 : decode cX0_meet 92 = .ok (.ifCond .le 9, 3) := by decide +kernel
theorem dX0_meet_95 : decode cX0_meet 95 = .ok (.iload_n 1, 1) := by decide +kernel
theorem dX0_meet_96 : decode cX0_meet 96 = .ok (.iconst 1, 1) := by decide +kernel
theorem dX0_meet_97 : decode cX0_meet 97 = .ok (.isub, 1) := by decide +kernel
theorem dX0_meet_98 : decode cX0_meet 98 = .ok (.goto 5, 3) := by decide +kernel
theorem dX0_meet_101 : decode cX0_meet 101 = .ok (.bipush (-9), 2) := by decide +kernel
theorem dX0_meet_103 : decode cX0_meet 103 = .ok (.iastore, 1) := by decide +kernel
theorem dX0_meet_104 : decode cX0_meet 104 = .ok (.return_, 1) := by decide +kernel
theorem dX0_beside_0 : decode cX0_beside 0 = .ok (.aload_n 0, 1) := by decide +kernel
theorem dX0_beside_1 : decode cX0_beside 1 = .ok (.getfield 31, 3) := by decide +kernel
theorem dX0_beside_4 : decode cX0_beside 4 = .ok (.iconst 4, 1) := by decide +kernel
theorem dX0_beside_5 : decode cX0_beside 5 = .ok (.iload_n 1, 1) := by decide +kernel
theorem dX0_beside_6 : decode cX0_beside 6 = .ok (.imul, 1) := by decide +kernel
theorem dX0_beside_7 : decode cX0_beside 7 = .ok (.iload_n 2, 1) := by decide +kernel
theorem dX0_beside_8 : decode cX0_beside 8 = .ok (.iadd, 1) := by decide +kernel
theorem dX0_beside_9 : decode cX0_beside 9 = .ok (.iaload, 1) := by decide +kernel
theorem dX0_beside_10 : decode cX0_beside 10 = .ok (.ireturn, 1) := by decide +kernel
theorem dX0_weekly_0 : decode cX0_weekly 0 = .ok (.aload_n 0, 1) := by decide +kernel
theorem dX0_weekly_1 : decode cX0_weekly 1 = .ok (.getfield 24, 3) := by decide +kernel
theorem dX0_weekly_4 : decode cX0_weekly 4 = .ok (.iload_n 1, 1) := by decide +kernel
theorem dX0_weekly_5 : decode cX0_weekly 5 = .ok (.iaload, 1) := by decide +kernel
theorem dX0_weekly_6 : decode cX0_weekly 6 = .ok (.tableswitch 47 0 2 #[26, 31, 38], 26) := by decide +kernel
theorem dX0_weekly_32 : decode cX0_weekly 32 = .ok (.aload_n 0, 1) := by decide +kernel
theorem dX0_weekly_33 : decode cX0_weekly 33 = .ok (.getfield 18, 3) := by decide +kernel
theorem dX0_weekly_36 : decode cX0_weekly 36 = .ok (.ireturn, 1) := by decide +kernel
theorem dX0_weekly_37 : decode cX0_weekly 37 = .ok (.aload_n 0, 1) := by decide +kernel
theorem dX0_weekly_38 : decode cX0_weekly 38 = .ok (.getfield 18, 3) := by decide +kernel
theorem dX0_weekly_41 : decode cX0_weekly 41 = .ok (.iconst 1, 1) := by decide +kernel
theorem dX0_weekly_42 : decode cX0_weekly 42 = .ok (.iadd, 1) := by decide +kernel
theorem dX0_weekly_43 : decode cX0_weekly 43 = .ok (.ireturn, 1) := by decide +kernel
theorem dX0_weekly_44 : decode cX0_weekly 44 = .ok (.iconst 2, 1) := by decide +kernel
theorem dX0_weekly_45 : decode cX0_weekly 45 = .ok (.aload_n 0, 1) := by decide +kernel
theorem dX0_weekly_46 : decode cX0_weekly 46 = .ok (.getfield 18, 3) := by decide +kernel
theorem dX0_weekly_49 : decode cX0_weekly 49 = .ok (.iconst 1, 1) := by decide +kernel
theorem dX0_weekly_50 : decode cX0_weekly 50 = .ok (.iadd, 1) := by decide +kernel
theorem dX0_weekly_51 : decode cX0_weekly 51 = .ok (.imul, 1) := by decide +kernel
theorem dX0_weekly_52 : decode cX0_weekly 52 = .ok (.ireturn, 1) := by decide +kernel
theorem dX0_weekly_53 : decode cX0_weekly 53 = .ok (.iconst 0, 1) := by decide +kernel
theorem dX0_weekly_54 : decode cX0_weekly 54 = .ok (.ireturn, 1) := by decide +kernel
set_option maxRecDepth 20000 in
theorem ggX0_inches_X0_weekly : GoodIn wsX0_inches wsX0_weekly := goodIn_r _ [13, 14, 15, 16, 17, 18, 19, 20, 21, 22] (by decide +kernel) (by decide +kernel)
set_option maxRecDepth 20000 in
theorem gX0_inches_X0_weekly : GoodIn wsX0_inches (wsV RX0 50 RX0 yX0_weekly wsX0_weekly) := goodIn_app (goodIn_of _ (by decide +kernel)) ggX0_inches_X0_weekly
theorem dX0_inches_0 : decode cX0_inches 0 = .ok (.iload_n 2, 1) := by decide +kernel
theorem dX0_inches_1 : decode cX0_inches 1 = .ok (.aload_n 0, 1) := by decide +kernel
theorem dX0_inches_2 : decode cX0_inches 2 = .ok (.iload_n 1, 1) := by decide +kernel
theorem dX0_inches_3 : decode cX0_inches 3 = .ok (.invokevirtual 50, 3) := by decide +kernel
theorem dX0_inches_6 : decode cX0_inches 6 = .ok (.imul, 1) := by decide +kernel
theorem dX0_inches_7 : decode cX0_inches 7 = .ok (.aload_n 0, 1) := by decide +kernel
theorem dX0_inches_8 : decode cX0_inches 8 = .ok (.getfield 28, 3) := by decide +kernel
theorem dX0_inches_11 : decode cX0_inches 11 = .ok (.iload_n 1, 1) := by decide +kernel
theorem dX0_inches_12 : decode cX0_inches 12 = .ok (.iaload, 1) := by decide +kernel
theorem dX0_inches_13 : decode cX0_inches 13 = .ok (.isub, 1) := by decide +kernel
theorem dX0_inches_14 : decode cX0_inches 14 = .ok (.istore_n 3, 1) := by decide +kernel
theorem dX0_inches_15 : decode cX0_inches 15 = .ok (.iconst 0, 1) := by decide +kernel
theorem dX0_inches_16 : decode cX0_inches 16 = .ok (.bipush 9, 2) := by decide +kernel
theorem dX0_inches_18 : decode cX0_inches 18 = .ok (.iload_n 3, 1) := by decide +kernel
theorem dX0_inches_19 : decode cX0_inches 19 = .ok (.invokestatic 53, 3) := by decide +kernel
theorem dX0_inches_22 : decode cX0_inches 22 = .ok (.invokestatic 59, 3) := by decide +kernel
theorem dX0_inches_25 : decode cX0_inches 25 = .ok (.ireturn, 1) := by decide +kernel
set_option maxRecDepth 20000 in
theorem ggX0_inchesOfAll_X0_cells : GoodIn wsX0_inchesOfAll wsX0_cells := goodIn_r _ [5, 6, 7, 32, 33, 34, 35, 36, 37, 38] (by decide +kernel) (by decide +kernel)
set_option maxRecDepth 20000 in
theorem gX0_inchesOfAll_X0_cells : GoodIn wsX0_inchesOfAll (wsV RX0 34 RX0 yX0_cells wsX0_cells) := goodIn_app (goodIn_of _ (by decide +kernel)) ggX0_inchesOfAll_X0_cells
set_option maxRecDepth 20000 in
theorem ggX0_inchesOfAll_X4_isIn : GoodIn wsX0_inchesOfAll wsX4_isIn := goodIn_r _ [10, 11, 12, 9, 13] (by decide +kernel) (by decide +kernel)
set_option maxRecDepth 20000 in
theorem gX0_inchesOfAll_X4_isIn_n62 : GoodIn wsX0_inchesOfAll (wsX4_isIn) := ggX0_inchesOfAll_X4_isIn
set_option maxRecDepth 20000 in
theorem ggX0_inchesOfAll_X0_inches : GoodIn wsX0_inchesOfAll wsX0_inches := goodIn_r _ [17, 18, 19, 20, 21, 22, 23, 24, 25, 26, 27, 28, 4, 29, 30, 31, 32, 33, 34, 35, 36, 37, 38] (by decide +kernel) (by decide +kernel)
set_option maxRecDepth 20000 in
theorem gX0_inchesOfAll_X0_inches : GoodIn wsX0_inchesOfAll (wsV RX0 66 RX0 yX0_inches wsX0_inches) := goodIn_app (goodIn_of _ (by decide +kernel)) ggX0_inchesOfAll_X0_inches
theorem dX0_inchesOfAll_0 : decode cX0_inchesOfAll 0 = .ok (.iconst 0, 1) := by decide +kernel
theorem dX0_inchesOfAll_1 : decode cX0_inchesOfAll 1 = .ok (.istore_n 3, 1) := by decide +kernel
theorem dX0_inchesOfAll_2 : decode cX0_inchesOfAll 2 = .ok (.iconst 0, 1) := by decide +kernel
theorem dX0_inchesOfAll_3 : decode cX0_inchesOfAll 3 = .ok (.istore 4, 2) := by decide +kernel
theorem dX0_inchesOfAll_5 : decode cX0_inchesOfAll 5 = .ok (.iload 4, 2) := by decide +kernel
theorem dX0_inchesOfAll_7 : decode cX0_inchesOfAll 7 = .ok (.aload_n 0, 1) := by decide +kernel
theorem dX0_inchesOfAll_8 : decode cX0_inchesOfAll 8 = .ok (.invokevirtual 34, 3) := by decide +kernel
theorem dX0_inchesOfAll_11 : decode cX0_inchesOfAll 11 = .ok (.if_icmp .ge 32, 3) := by decide +kernel
theorem dX0_inchesOfAll_14 : decode cX0_inchesOfAll 14 = .ok (.iload_n 3, 1) := by decide +kernel
theorem dX0_inchesOfAll_15 : decode cX0_inchesOfAll 15 = .ok (.iload_n 1, 1) := by decide +kernel
theorem dX0_inchesOfAll_16 : decode cX0_inchesOfAll 16 = .ok (.iload 4, 2) := by decide +kernel
theorem dX0_inchesOfAll_18 : decode cX0_inchesOfAll 18 = .ok (.invokestatic 62, 3) := by decide +kernel
theorem dX0_inchesOfAll_21 : decode cX0_inchesOfAll 21 = .ok (.ifCond .eq 13, 3) := by decide +kernel
theorem dX0_inchesOfAll_24 : decode cX0_inchesOfAll 24 = .ok (.aload_n 0, 1) := by decide +kernel
theorem dX0_inchesOfAll_25 : decode cX0_inchesOfAll 25 = .ok (.iload 4, 2) := by decide +kernel
theorem dX0_inchesOfAll_27 : decode cX0_inchesOfAll 27 = .ok (.iload_n 2, 1) := by decide +kernel
theorem dX0_inchesOfAll_28 : decode cX0_inchesOfAll 28 = .ok (.invokevirtual 66, 3) := by decide +kernel
theorem dX0_inchesOfAll_31 : decode cX0_inchesOfAll 31 = .ok (.goto 4, 3) := by decide +kernel
theorem dX0_inchesOfAll_34 : decode cX0_inchesOfAll 34 = .ok (.iconst 0, 1) := by decide +kernel
theorem dX0_inchesOfAll_35 : decode cX0_inchesOfAll 35 = .ok (.iadd, 1) := by decide +kernel
theorem dX0_inchesOfAll_36 : decode cX0_inchesOfAll 36 = .ok (.istore_n 3, 1) := by decide +kernel
theorem dX0_inchesOfAll_37 : decode cX0_inchesOfAll 37 = .ok (.iinc 4 1, 3) := by decide +kernel
theorem dX0_inchesOfAll_40 : decode cX0_inchesOfAll 40 = .ok (.goto (-35), 3) := by decide +kernel
theorem dX0_inchesOfAll_43 : decode cX0_inchesOfAll 43 = .ok (.iload_n 3, 1) := by decide +kernel
theorem dX0_inchesOfAll_44 : decode cX0_inchesOfAll 44 = .ok (.ireturn, 1) := by decide +kernel
set_option maxRecDepth 20000 in
theorem ggX0_isRipe_X0_inches : GoodIn wsX0_isRipe wsX0_inches := goodIn_r _ [7, 8, 9, 10, 11, 12, 13, 14, 15, 16, 17, 18, 6, 19, 1, 20, 21, 22, 23, 24, 25, 26, 27] (by decide +kernel) (by decide +kernel)
set_option maxRecDepth 20000 in
theorem gX0_isRipe_X0_inches : GoodIn wsX0_isRipe (wsV RX0 66 RX0 yX0_inches wsX0_inches) := goodIn_app (goodIn_of _ (by decide +kernel)) ggX0_isRipe_X0_inches
theorem dX0_isRipe_0 : decode cX0_isRipe 0 = .ok (.aload_n 0, 1) := by decide +kernel
theorem dX0_isRipe_1 : decode cX0_isRipe 1 = .ok (.getfield 24, 3) := by decide +kernel
theorem dX0_isRipe_4 : decode cX0_isRipe 4 = .ok (.iload_n 1, 1) := by decide +kernel
theorem dX0_isRipe_5 : decode cX0_isRipe 5 = .ok (.iaload, 1) := by decide +kernel
theorem dX0_isRipe_6 : decode cX0_isRipe 6 = .ok (.iconst 3, 1) := by decide +kernel
theorem dX0_isRipe_7 : decode cX0_isRipe 7 = .ok (.if_icmp .eq 20, 3) := by decide +kernel
theorem dX0_isRipe_10 : decode cX0_isRipe 10 = .ok (.aload_n 0, 1) := by decide +kernel
theorem dX0_isRipe_11 : decode cX0_isRipe 11 = .ok (.iload_n 1, 1) := by decide +kernel
theorem dX0_isRipe_12 : decode cX0_isRipe 12 = .ok (.iload_n 2, 1) := by decide +kernel
theorem dX0_isRipe_13 : decode cX0_isRipe 13 = .ok (.invokevirtual 66, 3) := by decide +kernel
theorem dX0_isRipe_16 : decode cX0_isRipe 16 = .ok (.aload_n 0, 1) := by decide +kernel
theorem dX0_isRipe_17 : decode cX0_isRipe 17 = .ok (.getfield 21, 3) := by decide +kernel
theorem dX0_isRipe_20 : decode cX0_isRipe 20 = .ok (.if_icmp .lt 7, 3) := by decide +kernel
theorem dX0_isRipe_23 : decode cX0_isRipe 23 = .ok (.iconst 1, 1) := by decide +kernel
theorem dX0_isRipe_24 : decode cX0_isRipe 24 = .ok (.goto 4, 3) := by decide +kernel
theorem dX0_isRipe_27 : decode cX0_isRipe 27 = .ok (.iconst 0, 1) := by decide +kernel
theorem dX0_isRipe_28 : decode cX0_isRipe 28 = .ok (.ireturn, 1) := by decide +kernel
set_option maxRecDepth 20000 in
theorem ggX0_ripeCells_X0_cells : GoodIn wsX0_ripeCells wsX0_cells := goodIn_r _ [5, 6, 7, 34, 35, 36, 37, 38, 39, 40] (by decide +kernel) (by decide +kernel)
set_option maxRecDepth 20000 in
theorem gX0_ripeCells_X0_cells : GoodIn wsX0_ripeCells (wsV RX0 34 RX0 yX0_cells wsX0_cells) := goodIn_app (goodIn_of _ (by decide +kernel)) ggX0_ripeCells_X0_cells
set_option maxRecDepth 20000 in
theorem ggX0_ripeCells_X0_isRipe : GoodIn wsX0_ripeCells wsX0_isRipe := goodIn_r _ [11, 12, 13, 14, 15, 16, 4, 17, 18, 19, 20, 21, 22, 23, 24, 25, 26, 27, 28, 29, 30, 34, 35, 36, 37, 38, 39, 40] (by decide +kernel) (by decide +kernel)
set_option maxRecDepth 20000 in
theorem gX0_ripeCells_X0_isRipe : GoodIn wsX0_ripeCells (wsV RX0 69 RX0 yX0_isRipe wsX0_isRipe) := goodIn_app (goodIn_of _ (by decide +kernel)) ggX0_ripeCells_X0_isRipe
set_option maxRecDepth 20000 in
theorem ggX0_ripeCells_X4_bit : GoodIn wsX0_ripeCells wsX4_bit := goodIn_r _ [33] (by decide +kernel) (by decide +kernel)
set_option maxRecDepth 20000 in
theorem gX0_ripeCells_X4_bit_n72 : GoodIn wsX0_ripeCells (wsX4_bit) := ggX0_ripeCells_X4_bit
theorem dX0_ripeCells_0 : decode cX0_ripeCells 0 = .ok (.iconst 0, 1) := by decide +kernel
theorem dX0_ripeCells_1 : decode cX0_ripeCells 1 = .ok (.istore_n 2, 1) := by decide +kernel
theorem dX0_ripeCells_2 : decode cX0_ripeCells 2 = .ok (.iconst 0, 1) := by decide +kernel
theorem dX0_ripeCells_3 : decode cX0_ripeCells 3 = .ok (.istore_n 3, 1) := by decide +kernel
theorem dX0_ripeCells_4 : decode cX0_ripeCells 4 = .ok (.iload_n 3, 1) := by decide +kernel
theorem dX0_ripeCells_5 : decode cX0_ripeCells 5 = .ok (.aload_n 0, 1) := by decide +kernel
theorem dX0_ripeCells_6 : decode cX0_ripeCells 6 = .ok (.invokevirtual 34, 3) := by decide +kernel
theorem dX0_ripeCells_9 : decode cX0_ripeCells 9 = .ok (.if_icmp .ge 29, 3) := by decide +kernel
theorem dX0_ripeCells_12 : decode cX0_ripeCells 12 = .ok (.iload_n 2, 1) := by decide +kernel
theorem dX0_ripeCells_13 : decode cX0_ripeCells 13 = .ok (.aload_n 0, 1) := by decide +kernel
theorem dX0_ripeCells_14 : decode cX0_ripeCells 14 = .ok (.iload_n 3, 1) := by decide +kernel
theorem dX0_ripeCells_15 : decode cX0_ripeCells 15 = .ok (.iload_n 1, 1) := by decide +kernel
theorem dX0_ripeCells_16 : decode cX0_ripeCells 16 = .ok (.invokevirtual 69, 3) := by decide +kernel
theorem dX0_ripeCells_19 : decode cX0_ripeCells 19 = .ok (.ifCond .eq 10, 3) := by decide +kernel
theorem dX0_ripeCells_22 : decode cX0_ripeCells 22 = .ok (.iload_n 3, 1) := by decide +kernel
theorem dX0_ripeCells_23 : decode cX0_ripeCells 23 = .ok (.invokestatic 72, 3) := by decide +kernel
theorem dX0_ripeCells_26 : decode cX0_ripeCells 26 = .ok (.goto 4, 3) := by decide +kernel
theorem dX0_ripeCells_29 : decode cX0_ripeCells 29 = .ok (.iconst 0, 1) := by decide +kernel
theorem dX0_ripeCells_30 : decode cX0_ripeCells 30 = .ok (.ior, 1) := by decide +kernel
theorem dX0_ripeCells_31 : decode cX0_ripeCells 31 = .ok (.istore_n 2, 1) := by decide +kernel
theorem dX0_ripeCells_32 : decode cX0_ripeCells 32 = .ok (.iinc 3 1, 3) := by decide +kernel
theorem dX0_ripeCells_35 : decode cX0_ripeCells 35 = .ok (.goto (-31), 3) := by decide +kernel
theorem dX0_ripeCells_38 : decode cX0_ripeCells 38 = .ok (.iload_n 2, 1) := by decide +kernel
theorem dX0_ripeCells_39 : decode cX0_ripeCells 39 = .ok (.ireturn, 1) := by decide +kernel
set_option maxRecDepth 20000 in
theorem ggX0_isAllRipe_X0_ripeCells : GoodIn wsX0_isAllRipe wsX0_ripeCells := goodIn_r _ [5, 6, 7, 8, 4, 9, 10, 11, 12, 13, 14, 15, 16, 17, 18, 19, 20, 21, 22, 23, 24, 25, 26, 27, 28, 29, 30, 31, 32, 33, 34, 35, 36, 37, 42, 43, 44, 45, 46, 47, 48] (by decide +kernel) (by decide +kernel)
set_option maxRecDepth 20000 in
theorem gX0_isAllRipe_X0_ripeCells : GoodIn wsX0_isAllRipe (wsV RX0 75 RX0 yX0_ripeCells wsX0_ripeCells) := goodIn_app (goodIn_of _ (by decide +kernel)) ggX0_isAllRipe_X0_ripeCells
set_option maxRecDepth 20000 in
theorem ggX0_isAllRipe_X0_softCells : GoodIn wsX0_isAllRipe wsX0_softCells := goodIn_r _ [41, 16, 6, 7, 8, 4, 9, 10, 11, 35, 36, 37, 42, 43, 44, 45, 46, 47, 48] (by decide +kernel) (by decide +kernel)
set_option maxRecDepth 20000 in
theorem gX0_isAllRipe_X0_softCells : GoodIn wsX0_isAllRipe (wsV RX0 78 RX0 yX0_softCells wsX0_softCells) := goodIn_app (goodIn_of _ (by decide +kernel)) ggX0_isAllRipe_X0_softCells
theorem dX0_isAllRipe_0 : decode cX0_isAllRipe 0 = .ok (.aload_n 0, 1) := by decide +kernel
theorem dX0_isAllRipe_1 : decode cX0_isAllRipe 1 = .ok (.iload_n 1, 1) := by decide +kernel
theorem dX0_isAllRipe_2 : decode cX0_isAllRipe 2 = .ok (.invokevirtual 75, 3) := by decide +kernel
theorem dX0_isAllRipe_5 : decode cX0_isAllRipe 5 = .ok (.aload_n 0, 1) := by decide +kernel
theorem dX0_isAllRipe_6 : decode cX0_isAllRipe 6 = .ok (.invokevirtual 78, 3) := by decide +kernel
theorem dX0_isAllRipe_9 : decode cX0_isAllRipe 9 = .ok (.if_icmp .ne 7, 3) := by decide +kernel
theorem dX0_isAllRipe_12 : decode cX0_isAllRipe 12 = .ok (.iconst 1, 1) := by decide +kernel
theorem dX0_isAllRipe_13 : decode cX0_isAllRipe 13 = .ok (.goto 4, 3) := by decide +kernel
theorem dX0_isAllRipe_16 : decode cX0_isAllRipe 16 = .ok (.iconst 0, 1) := by decide +kernel
theorem dX0_isAllRipe_17 : decode cX0_isAllRipe 17 = .ok (.ireturn, 1) := by decide +kernel
set_option maxRecDepth 20000 in
theorem ggX0_softCells_X0_cells : GoodIn wsX0_softCells wsX0_cells := goodIn_r _ [6, 7, 8, 12, 13, 14, 15, 16, 17, 18] (by decide +kernel) (by decide +kernel)
set_option maxRecDepth 20000 in
theorem gX0_softCells_X0_cells : GoodIn wsX0_softCells (wsV RX0 34 RX0 yX0_cells wsX0_cells) := goodIn_app (goodIn_of _ (by decide +kernel)) ggX0_softCells_X0_cells
set_option maxRecDepth 20000 in
theorem ggX0_softCells_X4_bit : GoodIn wsX0_softCells wsX4_bit := goodIn_r _ [11] (by decide +kernel) (by decide +kernel)
set_option maxRecDepth 20000 in
theorem gX0_softCells_X4_bit_n72 : GoodIn wsX0_softCells (wsX4_bit) := ggX0_softCells_X4_bit
theorem dX0_softCells_0 : decode cX0_softCells 0 = .ok (.iconst 0, 1) := by decide +kernel
theorem dX0_softCells_1 : decode cX0_softCells 1 = .ok (.istore_n 1, 1) := by decide +kernel
theorem dX0_softCells_2 : decode cX0_softCells 2 = .ok (.iconst 0, 1) := by decide +kernel
theorem dX0_softCells_3 : decode cX0_softCells 3 = .ok (.istore_n 2, 1) := by decide +kernel
theorem dX0_softCells_4 : decode cX0_softCells 4 = .ok (.iload_n 2, 1) := by decide +kernel
theorem dX0_softCells_5 : decode cX0_softCells 5 = .ok (.aload_n 0, 1) := by decide +kernel
theorem dX0_softCells_6 : decode cX0_softCells 6 = .ok (.invokevirtual 34, 3) := by decide +kernel
theorem dX0_softCells_9 : decode cX0_softCells 9 = .ok (.if_icmp .ge 30, 3) := by decide +kernel
theorem dX0_softCells_12 : decode cX0_softCells 12 = .ok (.iload_n 1, 1) := by decide +kernel
theorem dX0_softCells_13 : decode cX0_softCells 13 = .ok (.aload_n 0, 1) := by decide +kernel
theorem dX0_softCells_14 : decode cX0_softCells 14 = .ok (.getfield 24, 3) := by decide +kernel
theorem dX0_softCells_17 : decode cX0_softCells 17 = .ok (.iload_n 2, 1) := by decide +kernel
theorem dX0_softCells_18 : decode cX0_softCells 18 = .ok (.iaload, 1) := by decide +kernel
theorem dX0_softCells_19 : decode cX0_softCells 19 = .ok (.iconst 3, 1) := by decide +kernel
theorem dX0_softCells_20 : decode cX0_softCells 20 = .ok (.if_icmp .eq 10, 3) := by decide +kernel
theorem dX0_softCells_23 : decode cX0_softCells 23 = .ok (.iload_n 2, 1) := by decide +kernel
theorem dX0_softCells_24 : decode cX0_softCells 24 = .ok (.invokestatic 72, 3) := by decide +kernel
theorem dX0_softCells_27 : decode cX0_softCells 27 = .ok (.goto 4, 3) := by decide +kernel
theorem dX0_softCells_30 : decode cX0_softCells 30 = .ok (.iconst 0, 1) := by decide +kernel
theorem dX0_softCells_31 : decode cX0_softCells 31 = .ok (.ior, 1) := by decide +kernel
theorem dX0_softCells_32 : decode cX0_softCells 32 = .ok (.istore_n 1, 1) := by decide +kernel
theorem dX0_softCells_33 : decode cX0_softCells 33 = .ok (.iinc 2 1, 3) := by decide +kernel
theorem dX0_softCells_36 : decode cX0_softCells 36 = .ok (.goto (-32), 3) := by decide +kernel
theorem dX0_softCells_39 : decode cX0_softCells 39 = .ok (.iload_n 1, 1) := by decide +kernel
theorem dX0_softCells_40 : decode cX0_softCells 40 = .ok (.ireturn, 1) := by decide +kernel
theorem dX1_init_0 : decode cX1_init 0 = .ok (.aload_n 0, 1) := by decide +kernel
theorem dX1_init_1 : decode cX1_init 1 = .ok (.invokespecial 3, 3) := by decide +kernel
theorem dX1_init_4 : decode cX1_init 4 = .ok (.aload_n 0, 1) := by decide +kernel
theorem dX1_init_5 : decode cX1_init 5 = .ok (.iconst 0, 1) := by decide +kernel
theorem dX1_init_6 : decode cX1_init 6 = .ok (.putfield 9, 3) := by decide +kernel
theorem dX1_init_9 : decode cX1_init 9 = .ok (.aload_n 0, 1) := by decide +kernel
theorem dX1_init_10 : decode cX1_init 10 = .ok (.bipush 8, 2) := by decide +kernel
theorem dX1_init_12 : decode cX1_init 12 = .ok (.newarray .int, 2) := by decide +kernel
theorem dX1_init_14 : decode cX1_init 14 = .ok (.putfield 15, 3) := by decide +kernel
theorem dX1_init_17 : decode cX1_init 17 = .ok (.aload_n 0, 1) := by decide +kernel
theorem dX1_init_18 : decode cX1_init 18 = .ok (.bipush 8, 2) := by decide +kernel
theorem dX1_init_20 : decode cX1_init 20 = .ok (.newarray .int, 2) := by decide +kernel
theorem dX1_init_22 : decode cX1_init 22 = .ok (.putfield 19, 3) := by decide +kernel
theorem dX1_init_25 : decode cX1_init 25 = .ok (.aload_n 0, 1) := by decide +kernel
theorem dX1_init_26 : decode cX1_init 26 = .ok (.bipush 8, 2) := by decide +kernel
theorem dX1_init_28 : decode cX1_init 28 = .ok (.newarray .int, 2) := by decide +kernel
theorem dX1_init_30 : decode cX1_init 30 = .ok (.putfield 22, 3) := by decide +kernel
theorem dX1_init_33 : decode cX1_init 33 = .ok (.return_, 1) := by decide +kernel
theorem dX1_add_0 : decode cX1_add 0 = .ok (.aload_n 0, 1) := by decide +kernel
theorem dX1_add_1 : decode cX1_add 1 = .ok (.getfield 15, 3) := by decide +kernel
theorem dX1_add_4 : decode cX1_add 4 = .ok (.aload_n 0, 1) := by decide +kernel
theorem dX1_add_5 : decode cX1_add 5 = .ok (.getfield 9, 3) := by decide +kernel
theorem dX1_add_8 : decode cX1_add 8 = .ok (.iload_n 1, 1) := by decide +kernel
theorem dX1_add_9 : decode cX1_add 9 = .ok (.iastore, 1) := by decide +kernel
theorem dX1_add_10 : decode cX1_add 10 = .ok (.aload_n 0, 1) := by decide +kernel
theorem dX1_add_11 : decode cX1_add 11 = .ok (.getfield 19, 3) := by decide +kernel
theorem dX1_add_14 : decode cX1_add 14 = .ok (.aload_n 0, 1) := by decide +kernel
theorem dX1_add_15 : decode cX1_add 15 = .ok (.getfield 9, 3) := by decide +kernel
theorem dX1_add_18 : decode cX1_add 18 = .ok (.iload_n 2, 1) := by decide +kernel
theorem dX1_add_19 : decode cX1_add 19 = .ok (.iastore, 1) := by decide +kernel
theorem dX1_add_20 : decode cX1_add 20 = .ok (.aload_n 0, 1) := by decide +kernel
theorem dX1_add_21 : decode cX1_add 21 = .ok (.getfield 22, 3) := by decide +kernel
theorem dX1_add_24 : decode cX1_add 24 = .ok (.aload_n 0, 1) := by decide +kernel
theorem dX1_add_25 : decode cX1_add 25 = .ok (.getfield 9, 3) := by decide +kernel
theorem dX1_add_28 : decode cX1_add 28 = .ok (.iload_n 3, 1) := by decide +kernel
theorem dX1_add_29 : decode cX1_add 29 = .ok (.iastore, 1) := by decide +kernel
theorem dX1_add_30 : decode cX1_add 30 = .ok (.aload_n 0, 1) := by decide +kernel
theorem dX1_add_31 : decode cX1_add 31 = .ok (.dup, 1) := by decide +kernel
theorem dX1_add_32 : decode cX1_add 32 = .ok (.getfield 9, 3) := by decide +kernel
theorem dX1_add_35 : decode cX1_add 35 = .ok (.iconst 1, 1) := by decide +kernel
theorem dX1_add_36 : decode cX1_add 36 = .ok (.iadd, 1) := by decide +kernel
theorem dX1_add_37 : decode cX1_add 37 = .ok (.putfield 9, 3) := by decide +kernel
theorem dX1_add_40 : decode cX1_add 40 = .ok (.aload_n 0, 1) := by decide +kernel
theorem dX1_add_41 : decode cX1_add 41 = .ok (.getfield 9, 3) := by decide +kernel
theorem dX1_add_44 : decode cX1_add 44 = .ok (.iconst 1, 1) := by decide +kernel
theorem dX1_add_45 : decode cX1_add 45 = .ok (.isub, 1) := by decide +kernel
theorem dX1_add_46 : decode cX1_add 46 = .ok (.ireturn, 1) := by decide +kernel
set_option maxRecDepth 20000 in
theorem ggX1_areSo_X0_inches : GoodIn wsX1_areSo wsX0_inches := goodIn_r _ [8, 9, 10, 11, 12, 13, 14, 15, 16, 17, 18, 19, 6, 20, 21, 22, 27, 28, 29, 30, 31, 32, 33] (by decide +kernel) (by decide +kernel)
set_option maxRecDepth 20000 in
theorem gX1_areSo_X0_inches_n25 : GoodIn wsX1_areSo (wsX0_inches) := ggX1_areSo_X0_inches
theorem dX1_areSo_0 : decode cX1_areSo 0 = .ok (.iconst 0, 1) := by decide +kernel
theorem dX1_areSo_1 : decode cX1_areSo 1 = .ok (.istore_n 2, 1) := by decide +kernel
theorem dX1_areSo_2 : decode cX1_areSo 2 = .ok (.iload_n 2, 1) := by decide +kernel
theorem dX1_areSo_3 : decode cX1_areSo 3 = .ok (.aload_n 0, 1) := by decide +kernel
theorem dX1_areSo_4 : decode cX1_areSo 4 = .ok (.getfield 9, 3) := by decide +kernel
theorem dX1_areSo_7 : decode cX1_areSo 7 = .ok (.if_icmp .ge 36, 3) := by decide +kernel
theorem dX1_areSo_10 : decode cX1_areSo 10 = .ok (.aload_n 1, 1) := by decide +kernel
theorem dX1_areSo_11 : decode cX1_areSo 11 = .ok (.aload_n 0, 1) := by decide +kernel
theorem dX1_areSo_12 : decode cX1_areSo 12 = .ok (.getfield 15, 3) := by decide +kernel
theorem dX1_areSo_15 : decode cX1_areSo 15 = .ok (.iload_n 2, 1) := by decide +kernel
theorem dX1_areSo_16 : decode cX1_areSo 16 = .ok (.iaload, 1) := by decide +kernel
theorem dX1_areSo_17 : decode cX1_areSo 17 = .ok (.aload_n 0, 1) := by decide +kernel
theorem dX1_areSo_18 : decode cX1_areSo 18 = .ok (.getfield 19, 3) := by decide +kernel
theorem dX1_areSo_21 : decode cX1_areSo 21 = .ok (.iload_n 2, 1) := by decide +kernel
theorem dX1_areSo_22 : decode cX1_areSo 22 = .ok (.iaload, 1) := by decide +kernel
theorem dX1_areSo_23 : decode cX1_areSo 23 = .ok (.invokevirtual 25, 3) := by decide +kernel
theorem dX1_areSo_26 : decode cX1_areSo 26 = .ok (.aload_n 0, 1) := by decide +kernel
theorem dX1_areSo_27 : decode cX1_areSo 27 = .ok (.getfield 22, 3) := by decide +kernel
theorem dX1_areSo_30 : decode cX1_areSo 30 = .ok (.iload_n 2, 1) := by decide +kernel
theorem dX1_areSo_31 : decode cX1_areSo 31 = .ok (.iaload, 1) := by decide +kernel
theorem dX1_areSo_32 : decode cX1_areSo 32 = .ok (.if_icmp .eq 5, 3) := by decide +kernel
theorem dX1_areSo_35 : decode cX1_areSo 35 = .ok (.iconst 0, 1) := by decide +kernel
theorem dX1_areSo_36 : decode cX1_areSo 36 = .ok (.ireturn, 1) := by decide +kernel
theorem dX1_areSo_37 : decode cX1_areSo 37 = .ok (.iinc 2 1, 3) := by decide +kernel
theorem dX1_areSo_40 : decode cX1_areSo 40 = .ok (.goto (-38), 3) := by decide +kernel
theorem dX1_areSo_43 : decode cX1_areSo 43 = .ok (.iconst 1, 1) := by decide +kernel
theorem dX1_areSo_44 : decode cX1_areSo 44 = .ok (.ireturn, 1) := by decide +kernel
theorem dX2_init_0 : decode cX2_init 0 = .ok (.aload_n 0, 1) := by decide +kernel
theorem dX2_init_1 : decode cX2_init 1 = .ok (.invokespecial 3, 3) := by decide +kernel
theorem dX2_init_4 : decode cX2_init 4 = .ok (.aload_n 0, 1) := by decide +kernel
theorem dX2_init_5 : decode cX2_init 5 = .ok (.bipush 15, 2) := by decide +kernel
theorem dX2_init_7 : decode cX2_init 7 = .ok (.newarray .int, 2) := by decide +kernel
theorem dX2_init_9 : decode cX2_init 9 = .ok (.putfield 9, 3) := by decide +kernel
theorem dX2_init_12 : decode cX2_init 12 = .ok (.aload_n 0, 1) := by decide +kernel
theorem dX2_init_13 : decode cX2_init 13 = .ok (.bipush 15, 2) := by decide +kernel
theorem dX2_init_15 : decode cX2_init 15 = .ok (.newarray .int, 2) := by decide +kernel
theorem dX2_init_17 : decode cX2_init 17 = .ok (.putfield 15, 3) := by decide +kernel
theorem dX2_init_20 : decode cX2_init 20 = .ok (.aload_n 0, 1) := by decide +kernel
theorem dX2_init_21 : decode cX2_init 21 = .ok (.iconst 0, 1) := by decide +kernel
theorem dX2_init_22 : decode cX2_init 22 = .ok (.putfield 18, 3) := by decide +kernel
theorem dX2_init_25 : decode cX2_init 25 = .ok (.aload_n 0, 1) := by decide +kernel
theorem dX2_init_26 : decode cX2_init 26 = .ok (.iconst 0, 1) := by decide +kernel
theorem dX2_init_27 : decode cX2_init 27 = .ok (.putfield 22, 3) := by decide +kernel
theorem dX2_init_30 : decode cX2_init 30 = .ok (.return_, 1) := by decide +kernel
theorem dX2_keep_0 : decode cX2_keep 0 = .ok (.aload_n 0, 1) := by decide +kernel
theorem dX2_keep_1 : decode cX2_keep 1 = .ok (.iload_n 1, 1) := by decide +kernel
theorem dX2_keep_2 : decode cX2_keep 2 = .ok (.putfield 18, 3) := by decide +kernel
theorem dX2_keep_5 : decode cX2_keep 5 = .ok (.aload_n 0, 1) := by decide +kernel
theorem dX2_keep_6 : decode cX2_keep 6 = .ok (.getfield 9, 3) := by decide +kernel
theorem dX2_keep_9 : decode cX2_keep 9 = .ok (.iconst 0, 1) := by decide +kernel
theorem dX2_keep_10 : decode cX2_keep 10 = .ok (.aload_n 0, 1) := by decide +kernel
theorem dX2_keep_11 : decode cX2_keep 11 = .ok (.getfield 15, 3) := by decide +kernel
theorem dX2_keep_14 : decode cX2_keep 14 = .ok (.iconst 0, 1) := by decide +kernel
theorem dX2_keep_15 : decode cX2_keep 15 = .ok (.iload_n 1, 1) := by decide +kernel
theorem dX2_keep_16 : decode cX2_keep 16 = .ok (.iconst 1, 1) := by decide +kernel
theorem dX2_keep_17 : decode cX2_keep 17 = .ok (.isub, 1) := by decide +kernel
theorem dX2_keep_18 : decode cX2_keep 18 = .ok (.invokestatic 25, 3) := by decide +kernel
theorem dX2_keep_21 : decode cX2_keep 21 = .ok (.return_, 1) := by decide +kernel
theorem dX3_init_0 : decode cX3_init 0 = .ok (.aload_n 0, 1) := by decide +kernel
theorem dX3_init_1 : decode cX3_init 1 = .ok (.invokespecial 3, 3) := by decide +kernel
theorem dX3_init_4 : decode cX3_init 4 = .ok (.aload_n 0, 1) := by decide +kernel
theorem dX3_init_5 : decode cX3_init 5 = .ok (.iconst 0, 1) := by decide +kernel
theorem dX3_init_6 : decode cX3_init 6 = .ok (.putfield 9, 3) := by decide +kernel
theorem dX3_init_9 : decode cX3_init 9 = .ok (.aload_n 0, 1) := by decide +kernel
theorem dX3_init_10 : decode cX3_init 10 = .ok (.iconst 0, 1) := by decide +kernel
theorem dX3_init_11 : decode cX3_init 11 = .ok (.putfield 15, 3) := by decide +kernel
theorem dX3_init_14 : decode cX3_init 14 = .ok (.aload_n 0, 1) := by decide +kernel
theorem dX3_init_15 : decode cX3_init 15 = .ok (.iconst 0, 1) := by decide +kernel
theorem dX3_init_16 : decode cX3_init 16 = .ok (.putfield 19, 3) := by decide +kernel
theorem dX3_init_19 : decode cX3_init 19 = .ok (.aload_n 0, 1) := by decide +kernel
theorem dX3_init_20 : decode cX3_init 20 = .ok (.bipush 60, 2) := by decide +kernel
theorem dX3_init_22 : decode cX3_init 22 = .ok (.newarray .int, 2) := by decide +kernel
theorem dX3_init_24 : decode cX3_init 24 = .ok (.putfield 22, 3) := by decide +kernel
theorem dX3_init_27 : decode cX3_init 27 = .ok (.return_, 1) := by decide +kernel
theorem dX3_renew_0 : decode cX3_renew 0 = .ok (.aload_n 0, 1) := by decide +kernel
theorem dX3_renew_1 : decode cX3_renew 1 = .ok (.iconst 1, 1) := by decide +kernel
theorem dX3_renew_2 : decode cX3_renew 2 = .ok (.putfield 9, 3) := by decide +kernel
theorem dX3_renew_5 : decode cX3_renew 5 = .ok (.aload_n 0, 1) := by decide +kernel
theorem dX3_renew_6 : decode cX3_renew 6 = .ok (.iload_n 1, 1) := by decide +kernel
theorem dX3_renew_7 : decode cX3_renew 7 = .ok (.putfield 15, 3) := by decide +kernel
theorem dX3_renew_10 : decode cX3_renew 10 = .ok (.aload_n 0, 1) := by decide +kernel
theorem dX3_renew_11 : decode cX3_renew 11 = .ok (.iload_n 2, 1) := by decide +kernel
theorem dX3_renew_12 : decode cX3_renew 12 = .ok (.putfield 19, 3) := by decide +kernel
theorem dX3_renew_15 : decode cX3_renew 15 = .ok (.iconst 0, 1) := by decide +kernel
theorem dX3_renew_16 : decode cX3_renew 16 = .ok (.istore_n 3, 1) := by decide +kernel
theorem dX3_renew_17 : decode cX3_renew 17 = .ok (.iload_n 3, 1) := by decide +kernel
theorem dX3_renew_18 : decode cX3_renew 18 = .ok (.iload_n 2, 1) := by decide +kernel
theorem dX3_renew_19 : decode cX3_renew 19 = .ok (.if_icmp .ge 16, 3) := by decide +kernel
theorem dX3_renew_22 : decode cX3_renew 22 = .ok (.aload_n 0, 1) := by decide +kernel
theorem dX3_renew_23 : decode cX3_renew 23 = .ok (.getfield 22, 3) := by decide +kernel
theorem dX3_renew_26 : decode cX3_renew 26 = .ok (.iload_n 3, 1) := by decide +kernel
theorem dX3_renew_27 : decode cX3_renew 27 = .ok (.iconst 0, 1) := by decide +kernel
theorem dX3_renew_28 : decode cX3_renew 28 = .ok (.iastore, 1) := by decide +kernel
theorem dX3_renew_29 : decode cX3_renew 29 = .ok (.iinc 3 1, 3) := by decide +kernel
theorem dX3_renew_32 : decode cX3_renew 32 = .ok (.goto (-15), 3) := by decide +kernel
theorem dX3_renew_35 : decode cX3_renew 35 = .ok (.return_, 1) := by decide +kernel
theorem dX3_faultAs_0 : decode cX3_faultAs 0 = .ok (.aload_n 0, 1) := by decide +kernel
theorem dX3_faultAs_1 : decode cX3_faultAs 1 = .ok (.getfield 9, 3) := by decide +kernel
theorem dX3_faultAs_4 : decode cX3_faultAs 4 = .ok (.ifCond .ne 5, 3) := by decide +kernel
theorem dX3_faultAs_7 : decode cX3_faultAs 7 = .ok (.iconst 1, 1) := by decide +kernel
theorem dX3_faultAs_8 : decode cX3_faultAs 8 = .ok (.ireturn, 1) := by decide +kernel
theorem dX3_faultAs_9 : decode cX3_faultAs 9 = .ok (.aload_n 0, 1) := by decide +kernel
theorem dX3_faultAs_10 : decode cX3_faultAs 10 = .ok (.getfield 15, 3) := by decide +kernel
theorem dX3_faultAs_13 : decode cX3_faultAs 13 = .ok (.iload_n 1, 1) := by decide +kernel
theorem dX3_faultAs_14 : decode cX3_faultAs 14 = .ok (.if_icmp .ne 7, 3) := by decide +kernel
theorem dX3_faultAs_17 : decode cX3_faultAs 17 = .ok (.iconst 0, 1) := by decide +kernel
theorem dX3_faultAs_18 : decode cX3_faultAs 18 = .ok (.goto 4, 3) := by decide +kernel
theorem dX3_faultAs_21 : decode cX3_faultAs 21 = .ok (.iconst 2, 1) := by decide +kernel
theorem dX3_faultAs_22 : decode cX3_faultAs 22 = .ok (.ireturn, 1) := by decide +kernel
theorem dX3_holds_0 : decode cX3_holds 0 = .ok (.iload_n 1, 1) := by decide +kernel
theorem dX3_holds_1 : decode cX3_holds 1 = .ok (.ifCond .lt 15, 3) := by decide +kernel
theorem dX3_holds_4 : decode cX3_holds 4 = .ok (.iload_n 1, 1) := by decide +kernel
theorem dX3_holds_5 : decode cX3_holds 5 = .ok (.aload_n 0, 1) := by decide +kernel
theorem dX3_holds_6 : decode cX3_holds 6 = .ok (.getfield 19, 3) := by decide +kernel
theorem dX3_holds_9 : decode cX3_holds 9 = .ok (.if_icmp .ge 7, 3) := by decide +kernel
theorem dX3_holds_12 : decode cX3_holds 12 = .ok (.iconst 1, 1) := by decide +kernel
theorem dX3_holds_13 : decode cX3_holds 13 = .ok (.goto 4, 3) := by decide +kernel
theorem dX3_holds_16 : decode cX3_holds 16 = .ok (.iconst 0, 1) := by decide +kernel
theorem dX3_holds_17 : decode cX3_holds 17 = .ok (.ireturn, 1) := by decide +kernel
theorem dX3_spans_0 : decode cX3_spans 0 = .ok (.iload_n 1, 1) := by decide +kernel
theorem dX3_spans_1 : decode cX3_spans 1 = .ok (.ifCond .lt 29, 3) := by decide +kernel
theorem dX3_spans_4 : decode cX3_spans 4 = .ok (.iload_n 2, 1) := by decide +kernel
theorem dX3_spans_5 : decode cX3_spans 5 = .ok (.ifCond .lt 25, 3) := by decide +kernel
theorem dX3_spans_8 : decode cX3_spans 8 = .ok (.iload_n 1, 1) := by decide +kernel
theorem dX3_spans_9 : decode cX3_spans 9 = .ok (.aload_n 0, 1) := by decide +kernel
theorem dX3_spans_10 : decode cX3_spans 10 = .ok (.getfield 19, 3) := by decide +kernel
theorem dX3_spans_13 : decode cX3_spans 13 = .ok (.if_icmp .gt 17, 3) := by decide +kernel
theorem dX3_spans_16 : decode cX3_spans 16 = .ok (.iload_n 2, 1) := by decide +kernel
theorem dX3_spans_17 : decode cX3_spans 17 = .ok (.aload_n 0, 1) := by decide +kernel
theorem dX3_spans_18 : decode cX3_spans 18 = .ok (.getfield 19, 3) := by decide +kernel
theorem dX3_spans_21 : decode cX3_spans 21 = .ok (.iload_n 1, 1) := by decide +kernel
theorem dX3_spans_22 : decode cX3_spans 22 = .ok (.isub, 1) := by decide +kernel
theorem dX3_spans_23 : decode cX3_spans 23 = .ok (.if_icmp .gt 7, 3) := by decide +kernel
theorem dX3_spans_26 : decode cX3_spans 26 = .ok (.iconst 1, 1) := by decide +kernel
theorem dX3_spans_27 : decode cX3_spans 27 = .ok (.goto 4, 3) := by decide +kernel
theorem dX3_spans_30 : decode cX3_spans 30 = .ok (.iconst 0, 1) := by decide +kernel
theorem dX3_spans_31 : decode cX3_spans 31 = .ok (.ireturn, 1) := by decide +kernel
theorem dX3_cut_0 : decode cX3_cut 0 = .ok (.aload_n 0, 1) := by decide +kernel
theorem dX3_cut_1 : decode cX3_cut 1 = .ok (.getfield 15, 3) := by decide +kernel
theorem dX3_cut_4 : decode cX3_cut 4 = .ok (.lookupswitch 34 #[(0, 28), (1, 31)], 28) := by decide +kernel
theorem dX3_cut_32 : decode cX3_cut 32 = .ok (.iload_n 1, 1) := by decide +kernel
theorem dX3_cut_33 : decode cX3_cut 33 = .ok (.i2b, 1) := by decide +kernel
theorem dX3_cut_34 : decode cX3_cut 34 = .ok (.ireturn, 1) := by decide +kernel
theorem dX3_cut_35 : decode cX3_cut 35 = .ok (.iload_n 1, 1) := by decide +kernel
theorem dX3_cut_36 : decode cX3_cut 36 = .ok (.i2s, 1) := by decide +kernel
theorem dX3_cut_37 : decode cX3_cut 37 = .ok (.ireturn, 1) := by decide +kernel
theorem dX3_cut_38 : decode cX3_cut 38 = .ok (.iload_n 1, 1) := by decide +kernel
theorem dX3_cut_39 : decode cX3_cut 39 = .ok (.ireturn, 1) := by decide +kernel
set_option maxRecDepth 20000 in
theorem ggX4_init_X0_init : GoodIn wsX4_init wsX0_init := goodIn_r _ [23, 24, 2, 3, 25, 26, 27, 28, 29, 30, 31, 32, 54, 55, 56, 57, 58, 59, 60] (by decide +kernel) (by decide +kernel)
set_option maxRecDepth 20000 in
theorem gX4_init_X0_init_n13 : GoodIn wsX4_init (wsX0_init) := ggX4_init_X0_init
set_option maxRecDepth 20000 in
theorem ggX4_init_X1_init : GoodIn wsX4_init wsX1_init := goodIn_r _ [34, 35, 2, 3, 36, 29, 37, 38, 39, 67, 68, 69, 70] (by decide +kernel) (by decide +kernel)
set_option maxRecDepth 20000 in
theorem gX4_init_X1_init_n20 : GoodIn wsX4_init (wsX1_init) := ggX4_init_X1_init
set_option maxRecDepth 20000 in
theorem ggX4_init_X2_init : GoodIn wsX4_init wsX2_init := goodIn_r _ [41, 42, 2, 3, 29, 43, 44, 45, 46, 71, 72, 73, 74] (by decide +kernel) (by decide +kernel)
set_option maxRecDepth 20000 in
theorem gX4_init_X2_init_n27 : GoodIn wsX4_init (wsX2_init) := ggX4_init_X2_init
set_option maxRecDepth 20000 in
theorem ggX4_init_X3_init : GoodIn wsX4_init wsX3_init := goodIn_r _ [48, 49, 2, 3, 50, 51, 52, 29, 53, 75, 76, 77, 78] (by decide +kernel) (by decide +kernel)
set_option maxRecDepth 20000 in
theorem gX4_init_X3_init_n45 : GoodIn wsX4_init (wsX3_init) := ggX4_init_X3_init
theorem dX4_init_0 : decode cX4_init 0 = .ok (.aload_n 0, 1) := by decide +kernel
theorem dX4_init_1 : decode cX4_init 1 = .ok (.invokespecial 5, 3) := by decide +kernel
theorem dX4_init_4 : decode cX4_init 4 = .ok (.aload_n 0, 1) := by decide +kernel
theorem dX4_init_5 : decode cX4_init 5 = .ok (.new 11, 3) := by decide +kernel
theorem dX4_init_8 : decode cX4_init 8 = .ok (.dup, 1) := by decide +kernel
theorem dX4_init_9 : decode cX4_init 9 = .ok (.invokespecial 13, 3) := by decide +kernel
theorem dX4_init_12 : decode cX4_init 12 = .ok (.putfield 14, 3) := by decide +kernel
theorem dX4_init_15 : decode cX4_init 15 = .ok (.aload_n 0, 1) := by decide +kernel
theorem dX4_init_16 : decode cX4_init 16 = .ok (.new 18, 3) := by decide +kernel
theorem dX4_init_19 : decode cX4_init 19 = .ok (.dup, 1) := by decide +kernel
theorem dX4_init_20 : decode cX4_init 20 = .ok (.invokespecial 20, 3) := by decide +kernel
theorem dX4_init_23 : decode cX4_init 23 = .ok (.putfield 21, 3) := by decide +kernel
theorem dX4_init_26 : decode cX4_init 26 = .ok (.aload_n 0, 1) := by decide +kernel
theorem dX4_init_27 : decode cX4_init 27 = .ok (.new 25, 3) := by decide +kernel
theorem dX4_init_30 : decode cX4_init 30 = .ok (.dup, 1) := by decide +kernel
theorem dX4_init_31 : decode cX4_init 31 = .ok (.invokespecial 27, 3) := by decide +kernel
theorem dX4_init_34 : decode cX4_init 34 = .ok (.putfield 28, 3) := by decide +kernel
theorem dX4_init_37 : decode cX4_init 37 = .ok (.aload_n 0, 1) := by decide +kernel
theorem dX4_init_38 : decode cX4_init 38 = .ok (.iconst 4, 1) := by decide +kernel
theorem dX4_init_39 : decode cX4_init 39 = .ok (.anewarray 32, 3) := by decide +kernel
theorem dX4_init_42 : decode cX4_init 42 = .ok (.putfield 34, 3) := by decide +kernel
theorem dX4_init_45 : decode cX4_init 45 = .ok (.aload_n 0, 1) := by decide +kernel
theorem dX4_init_46 : decode cX4_init 46 = .ok (.iconst 0, 1) := by decide +kernel
theorem dX4_init_47 : decode cX4_init 47 = .ok (.putfield 38, 3) := by decide +kernel
theorem dX4_init_50 : decode cX4_init 50 = .ok (.aload_n 0, 1) := by decide +kernel
theorem dX4_init_51 : decode cX4_init 51 = .ok (.iconst 0, 1) := by decide +kernel
theorem dX4_init_52 : decode cX4_init 52 = .ok (.putfield 42, 3) := by decide +kernel
theorem dX4_init_55 : decode cX4_init 55 = .ok (.iconst 0, 1) := by decide +kernel
theorem dX4_init_56 : decode cX4_init 56 = .ok (.istore_n 1, 1) := by decide +kernel
theorem dX4_init_57 : decode cX4_init 57 = .ok (.iload_n 1, 1) := by decide +kernel
theorem dX4_init_58 : decode cX4_init 58 = .ok (.iconst 4, 1) := by decide +kernel
theorem dX4_init_59 : decode cX4_init 59 = .ok (.if_icmp .ge 22, 3) := by decide +kernel
theorem dX4_init_62 : decode cX4_init 62 = .ok (.aload_n 0, 1) := by decide +kernel
theorem dX4_init_63 : decode cX4_init 63 = .ok (.getfield 34, 3) := by decide +kernel
theorem dX4_init_66 : decode cX4_init 66 = .ok (.iload_n 1, 1) := by decide +kernel
theorem dX4_init_67 : decode cX4_init 67 = .ok (.new 32, 3) := by decide +kernel
theorem dX4_init_70 : decode cX4_init 70 = .ok (.dup, 1) := by decide +kernel
theorem dX4_init_71 : decode cX4_init 71 = .ok (.invokespecial 45, 3) := by decide +kernel
theorem dX4_init_74 : decode cX4_init 74 = .ok (.aastore, 1) := by decide +kernel
theorem dX4_init_75 : decode cX4_init 75 = .ok (.iinc 1 1, 3) := by decide +kernel
theorem dX4_init_78 : decode cX4_init 78 = .ok (.goto (-21), 3) := by decide +kernel
theorem dX4_init_81 : decode cX4_init 81 = .ok (.return_, 1) := by decide +kernel
set_option maxRecDepth 20000 in
theorem ggX4_hill_X4_isSheet : GoodIn wsX4_hill wsX4_isSheet := goodIn_r _ [8] (by decide +kernel) (by decide +kernel)
set_option maxRecDepth 20000 in
theorem gX4_hill_X4_isSheet : GoodIn wsX4_hill (va_wsS RX4 46 yX4_isSheet wsX4_isSheet) := goodIn_app (goodIn_of _ (by decide +kernel)) ggX4_hill_X4_isSheet
set_option maxRecDepth 20000 in
theorem ggX4_hill_X4_isLane : GoodIn wsX4_hill wsX4_isLane := goodIn_r _ [11] (by decide +kernel) (by decide +kernel)
set_option maxRecDepth 20000 in
theorem gX4_hill_X4_isLane : GoodIn wsX4_hill (va_wsS RX4 50 yX4_isLane wsX4_isLane) := goodIn_app (goodIn_of _ (by decide +kernel)) ggX4_hill_X4_isLane
set_option maxRecDepth 20000 in
theorem ggX4_hill_X3_faultAs : GoodIn wsX4_hill wsX3_faultAs := goodIn_r _ [15, 16, 17, 75, 76, 77, 78] (by decide +kernel) (by decide +kernel)
set_option maxRecDepth 20000 in
theorem gX4_hill_X3_faultAs_n53 : GoodIn wsX4_hill (wsX3_faultAs) := ggX4_hill_X3_faultAs
set_option maxRecDepth 20000 in
theorem ggX4_hill_X3_spans : GoodIn wsX4_hill wsX3_spans := goodIn_r _ [20, 21, 75, 76, 77, 78] (by decide +kernel) (by decide +kernel)
set_option maxRecDepth 20000 in
theorem gX4_hill_X3_spans_n57 : GoodIn wsX4_hill (wsX3_spans) := ggX4_hill_X3_spans
set_option maxRecDepth 20000 in
theorem ggX4_hill_X4_failed : GoodIn wsX4_hill wsX4_failed := goodIn_r _ [25, 1, 69, 70, 71, 72, 73, 74] (by decide +kernel) (by decide +kernel)
set_option maxRecDepth 20000 in
theorem gX4_hill_X4_failed : GoodIn wsX4_hill (wsV RX4 61 RX4 yX4_failed wsX4_failed) := goodIn_app (goodIn_of _ (by decide +kernel)) ggX4_hill_X4_failed
set_option maxRecDepth 20000 in
theorem ggX4_hill_X4_firstFault : GoodIn wsX4_hill wsX4_firstFault := goodIn_r _ [28, 29, 30, 7, 31, 32, 33, 34, 35, 36, 37] (by decide +kernel) (by decide +kernel)
set_option maxRecDepth 20000 in
theorem gX4_hill_X4_firstFault : GoodIn wsX4_hill (va_wsS RX4 68 yX4_firstFault wsX4_firstFault) := goodIn_app (goodIn_of _ (by decide +kernel)) ggX4_hill_X4_firstFault
set_option maxRecDepth 20000 in
theorem ggX4_hill_X0_grow : GoodIn wsX4_hill wsX0_grow := goodIn_r _ [41, 42, 43, 44, 45, 46, 47, 36, 7, 37, 48, 49, 50, 39, 51, 52, 83, 84, 85, 86, 87, 88, 89] (by decide +kernel) (by decide +kernel)
set_option maxRecDepth 20000 in
theorem gX4_hill_X0_grow_n72 : GoodIn wsX4_hill (wsX0_grow) := ggX4_hill_X0_grow
set_option maxRecDepth 20000 in
theorem ggX4_hill_X0_softCells : GoodIn wsX4_hill wsX0_softCells := goodIn_r _ [55, 46, 56, 57, 58, 39, 59, 42, 43, 60, 7, 61, 83, 84, 85, 86, 87, 88, 89] (by decide +kernel) (by decide +kernel)
set_option maxRecDepth 20000 in
theorem gX4_hill_X0_softCells_n79 : GoodIn wsX4_hill (wsX0_softCells) := ggX4_hill_X0_softCells
set_option maxRecDepth 20000 in
theorem ggX4_hill_J6_bitCount_0f7a4 : GoodIn wsX4_hill wsJ6_bitCount_0f7a4 := goodIn_r _ [65, 66, 67, 68] (by decide +kernel) (by decide +kernel)
set_option maxRecDepth 20000 in
theorem gX4_hill_J6_bitCount_0f7a4 : GoodIn wsX4_hill (va_wsS RX4 83 yJ6_bitCount_0f7a4 wsJ6_bitCount_0f7a4) := goodIn_app (goodIn_of _ (by decide +kernel)) ggX4_hill_J6_bitCount_0f7a4
theorem dX4_hill_0 : decode cX4_hill 0 = .ok (.aload_n 0, 1) := by decide +kernel
theorem dX4_hill_1 : decode cX4_hill 1 = .ok (.iconst 0, 1) := by decide +kernel
theorem dX4_hill_2 : decode cX4_hill 2 = .ok (.putfield 38, 3) := by decide +kernel
theorem dX4_hill_5 : decode cX4_hill 5 = .ok (.iload_n 1, 1) := by decide +kernel
theorem dX4_hill_6 : decode cX4_hill 6 = .ok (.invokestatic 46, 3) := by decide +kernel
theorem dX4_hill_9 : decode cX4_hill 9 = .ok (.ifCond .ne 5, 3) := by decide +kernel
theorem dX4_hill_12 : decode cX4_hill 12 = .ok (.iconst (-1), 1) := by decide +kernel
theorem dX4_hill_13 : decode cX4_hill 13 = .ok (.ireturn, 1) := by decide +kernel
theorem dX4_hill_14 : decode cX4_hill 14 = .ok (.iload_n 2, 1) := by decide +kernel
theorem dX4_hill_15 : decode cX4_hill 15 = .ok (.invokestatic 50, 3) := by decide +kernel
theorem dX4_hill_18 : decode cX4_hill 18 = .ok (.ifCond .ne 6, 3) := by decide +kernel
theorem dX4_hill_21 : decode cX4_hill 21 = .ok (.bipush (-2), 2) := by decide +kernel
theorem dX4_hill_23 : decode cX4_hill 23 = .ok (.ireturn, 1) := by decide +kernel
theorem dX4_hill_24 : decode cX4_hill 24 = .ok (.aload_n 0, 1) := by decide +kernel
theorem dX4_hill_25 : decode cX4_hill 25 = .ok (.getfield 34, 3) := by decide +kernel
theorem dX4_hill_28 : decode cX4_hill 28 = .ok (.iload_n 1, 1) := by decide +kernel
theorem dX4_hill_29 : decode cX4_hill 29 = .ok (.aaload, 1) := by decide +kernel
theorem dX4_hill_30 : decode cX4_hill 30 = .ok (.astore 5, 2) := by decide +kernel
theorem dX4_hill_32 : decode cX4_hill 32 = .ok (.aload 5, 2) := by decide +kernel
theorem dX4_hill_34 : decode cX4_hill 34 = .ok (.iload_n 2, 1) := by decide +kernel
theorem dX4_hill_35 : decode cX4_hill 35 = .ok (.invokevirtual 53, 3) := by decide +kernel
theorem dX4_hill_38 : decode cX4_hill 38 = .ok (.istore 6, 2) := by decide +kernel
theorem dX4_hill_40 : decode cX4_hill 40 = .ok (.iload 6, 2) := by decide +kernel
theorem dX4_hill_42 : decode cX4_hill 42 = .ok (.ifCond .ne 11, 3) := by decide +kernel
theorem dX4_hill_45 : decode cX4_hill 45 = .ok (.iload 4, 2) := by decide +kernel
theorem dX4_hill_47 : decode cX4_hill 47 = .ok (.ifCond .ge 6, 3) := by decide +kernel
theorem dX4_hill_50 : decode cX4_hill 50 = .ok (.iconst 4, 1) := by decide +kernel
theorem dX4_hill_51 : decode cX4_hill 51 = .ok (.istore 6, 2) := by decide +kernel
theorem dX4_hill_53 : decode cX4_hill 53 = .ok (.iload 6, 2) := by decide +kernel
theorem dX4_hill_55 : decode cX4_hill 55 = .ok (.ifCond .ne 17, 3) := by decide +kernel
theorem dX4_hill_58 : decode cX4_hill 58 = .ok (.aload 5, 2) := by decide +kernel
theorem dX4_hill_60 : decode cX4_hill 60 = .ok (.iload_n 3, 1) := by decide +kernel
theorem dX4_hill_61 : decode cX4_hill 61 = .ok (.iload 4, 2) := by decide +kernel
theorem dX4_hill_63 : decode cX4_hill 63 = .ok (.invokevirtual 57, 3) := by decide +kernel
theorem dX4_hill_66 : decode cX4_hill 66 = .ok (.ifCond .ne 6, 3) := by decide +kernel
theorem dX4_hill_69 : decode cX4_hill 69 = .ok (.iconst 3, 1) := by decide +kernel
theorem dX4_hill_70 : decode cX4_hill 70 = .ok (.istore 6, 2) := by decide +kernel
theorem dX4_hill_72 : decode cX4_hill 72 = .ok (.iload 6, 2) := by decide +kernel
theorem dX4_hill_74 : decode cX4_hill 74 = .ok (.ifCond .eq 10, 3) := by decide +kernel
theorem dX4_hill_77 : decode cX4_hill 77 = .ok (.aload_n 0, 1) := by decide +kernel
theorem dX4_hill_78 : decode cX4_hill 78 = .ok (.iload 6, 2) := by decide +kernel
theorem dX4_hill_80 : decode cX4_hill 80 = .ok (.invokevirtual 61, 3) := by decide +kernel
theorem dX4_hill_83 : decode cX4_hill 83 = .ok (.ireturn, 1) := by decide +kernel
theorem dX4_hill_84 : decode cX4_hill 84 = .ok (.aload 5, 2) := by decide +kernel
theorem dX4_hill_86 : decode cX4_hill 86 = .ok (.getfield 64, 3) := by decide +kernel
theorem dX4_hill_89 : decode cX4_hill 89 = .ok (.iload_n 3, 1) := by decide +kernel
theorem dX4_hill_90 : decode cX4_hill 90 = .ok (.iload 4, 2) := by decide +kernel
theorem dX4_hill_92 : decode cX4_hill 92 = .ok (.invokestatic 68, 3) := by decide +kernel
theorem dX4_hill_95 : decode cX4_hill 95 = .ok (.istore 7, 2) := by decide +kernel
theorem dX4_hill_97 : decode cX4_hill 97 = .ok (.iload 7, 2) := by decide +kernel
theorem dX4_hill_99 : decode cX4_hill 99 = .ok (.bipush (-9), 2) := by decide +kernel
theorem dX4_hill_101 : decode cX4_hill 101 = .ok (.if_icmp .eq 9, 3) := by decide +kernel
theorem dX4_hill_104 : decode cX4_hill 104 = .ok (.bipush (-100), 2) := by decide +kernel
theorem dX4_hill_106 : decode cX4_hill 106 = .ok (.iload 7, 2) := by decide +kernel
theorem dX4_hill_108 : decode cX4_hill 108 = .ok (.isub, 1) := by decide +kernel
theorem dX4_hill_109 : decode cX4_hill 109 = .ok (.ireturn, 1) := by decide +kernel
theorem dX4_hill_110 : decode cX4_hill 110 = .ok (.aload_n 0, 1) := by decide +kernel
theorem dX4_hill_111 : decode cX4_hill 111 = .ok (.getfield 14, 3) := by decide +kernel
theorem dX4_hill_114 : decode cX4_hill 114 = .ok (.aload 5, 2) := by decide +kernel
theorem dX4_hill_116 : decode cX4_hill 116 = .ok (.getfield 64, 3) := by decide +kernel
theorem dX4_hill_119 : decode cX4_hill 119 = .ok (.iload_n 3, 1) := by decide +kernel
theorem dX4_hill_120 : decode cX4_hill 120 = .ok (.invokevirtual 72, 3) := by decide +kernel
theorem dX4_hill_123 : decode cX4_hill 123 = .ok (.aload_n 0, 1) := by decide +kernel
theorem dX4_hill_124 : decode cX4_hill 124 = .ok (.getfield 21, 3) := by decide +kernel
theorem dX4_hill_127 : decode cX4_hill 127 = .ok (.iconst 0, 1) := by decide +kernel
theorem dX4_hill_128 : decode cX4_hill 128 = .ok (.putfield 76, 3) := by decide +kernel
theorem dX4_hill_131 : decode cX4_hill 131 = .ok (.aload_n 0, 1) := by decide +kernel
theorem dX4_hill_132 : decode cX4_hill 132 = .ok (.getfield 14, 3) := by decide +kernel
theorem dX4_hill_135 : decode cX4_hill 135 = .ok (.invokevirtual 79, 3) := by decide +kernel
theorem dX4_hill_138 : decode cX4_hill 138 = .ok (.invokestatic 83, 3) := by decide +kernel
theorem dX4_hill_141 : decode cX4_hill 141 = .ok (.ireturn, 1) := by decide +kernel
set_option maxRecDepth 20000 in
theorem ggX4_ofCell_X0_has : GoodIn wsX4_ofCell wsX0_has := goodIn_r _ [5, 6, 7, 8, 3, 9, 10, 11, 23, 24, 25, 26, 27, 28, 29] (by decide +kernel) (by decide +kernel)
set_option maxRecDepth 20000 in
theorem gX4_ofCell_X0_has_n88 : GoodIn wsX4_ofCell (wsX0_has) := ggX4_ofCell_X0_has
set_option maxRecDepth 20000 in
theorem ggX4_ofCell_X0_weekly : GoodIn wsX4_ofCell wsX0_weekly := goodIn_r _ [14, 15, 16, 23, 24, 25, 26, 27, 28, 29] (by decide +kernel) (by decide +kernel)
set_option maxRecDepth 20000 in
theorem gX4_ofCell_X0_weekly_n94 : GoodIn wsX4_ofCell (wsX0_weekly) := ggX4_ofCell_X0_weekly
theorem dX4_ofCell_0 : decode cX4_ofCell 0 = .ok (.aload_n 0, 1) := by decide +kernel
theorem dX4_ofCell_1 : decode cX4_ofCell 1 = .ok (.getfield 14, 3) := by decide +kernel
theorem dX4_ofCell_4 : decode cX4_ofCell 4 = .ok (.iload_n 1, 1) := by decide +kernel
theorem dX4_ofCell_5 : decode cX4_ofCell 5 = .ok (.invokevirtual 88, 3) := by decide +kernel
theorem dX4_ofCell_8 : decode cX4_ofCell 8 = .ok (.ifCond .ne 5, 3) := by decide +kernel
theorem dX4_ofCell_11 : decode cX4_ofCell 11 = .ok (.iconst (-1), 1) := by decide +kernel
theorem dX4_ofCell_12 : decode cX4_ofCell 12 = .ok (.ireturn, 1) := by decide +kernel
theorem dX4_ofCell_13 : decode cX4_ofCell 13 = .ok (.iload_n 2, 1) := by decide +kernel
theorem dX4_ofCell_14 : decode cX4_ofCell 14 = .ok (.tableswitch 55 0 2 #[26, 36, 45], 26) := by decide +kernel
theorem dX4_ofCell_40 : decode cX4_ofCell 40 = .ok (.aload_n 0, 1) := by decide +kernel
theorem dX4_ofCell_41 : decode cX4_ofCell 41 = .ok (.getfield 14, 3) := by decide +kernel
theorem dX4_ofCell_44 : decode cX4_ofCell 44 = .ok (.getfield 91, 3) := by decide +kernel
theorem dX4_ofCell_47 : decode cX4_ofCell 47 = .ok (.iload_n 1, 1) := by decide +kernel
theorem dX4_ofCell_48 : decode cX4_ofCell 48 = .ok (.iaload, 1) := by decide +kernel
theorem dX4_ofCell_49 : decode cX4_ofCell 49 = .ok (.ireturn, 1) := by decide +kernel
theorem dX4_ofCell_50 : decode cX4_ofCell 50 = .ok (.aload_n 0, 1) := by decide +kernel
theorem dX4_ofCell_51 : decode cX4_ofCell 51 = .ok (.getfield 14, 3) := by decide +kernel
theorem dX4_ofCell_54 : decode cX4_ofCell 54 = .ok (.iload_n 1, 1) := by decide +kernel
theorem dX4_ofCell_55 : decode cX4_ofCell 55 = .ok (.invokevirtual 94, 3) := by decide +kernel
theorem dX4_ofCell_58 : decode cX4_ofCell 58 = .ok (.ireturn, 1) := by decide +kernel
theorem dX4_ofCell_59 : decode cX4_ofCell 59 = .ok (.aload_n 0, 1) := by decide +kernel
theorem dX4_ofCell_60 : decode cX4_ofCell 60 = .ok (.getfield 14, 3) := by decide +kernel
theorem dX4_ofCell_63 : decode cX4_ofCell 63 = .ok (.getfield 97, 3) := by decide +kernel
theorem dX4_ofCell_66 : decode cX4_ofCell 66 = .ok (.iload_n 1, 1) := by decide +kernel
theorem dX4_ofCell_67 : decode cX4_ofCell 67 = .ok (.iaload, 1) := by decide +kernel
theorem dX4_ofCell_68 : decode cX4_ofCell 68 = .ok (.ireturn, 1) := by decide +kernel
theorem dX4_ofCell_69 : decode cX4_ofCell 69 = .ok (.bipush (-2), 2) := by decide +kernel
theorem dX4_ofCell_71 : decode cX4_ofCell 71 = .ok (.ireturn, 1) := by decide +kernel
set_option maxRecDepth 20000 in
theorem ggX4_goats_X0_isSoft : GoodIn wsX4_goats wsX0_isSoft := goodIn_r _ [5, 6, 7, 8, 9, 3, 10, 11, 12, 13, 14, 15, 16, 27, 28, 29, 30, 31, 32, 33] (by decide +kernel) (by decide +kernel)
set_option maxRecDepth 20000 in
theorem gX4_goats_X0_isSoft_n100 : GoodIn wsX4_goats (wsX0_isSoft) := ggX4_goats_X0_isSoft
set_option maxRecDepth 20000 in
theorem ggX4_goats_X4_isInches : GoodIn wsX4_goats wsX4_isInches := goodIn_r _ [20] (by decide +kernel) (by decide +kernel)
set_option maxRecDepth 20000 in
theorem gX4_goats_X4_isInches : GoodIn wsX4_goats (va_wsS RX4 103 yX4_isInches wsX4_isInches) := goodIn_app (goodIn_of _ (by decide +kernel)) ggX4_goats_X4_isInches
theorem dX4_goats_0 : decode cX4_goats 0 = .ok (.aload_n 0, 1) := by decide +kernel
theorem dX4_goats_1 : decode cX4_goats 1 = .ok (.getfield 14, 3) := by decide +kernel
theorem dX4_goats_4 : decode cX4_goats 4 = .ok (.iload_n 1, 1) := by decide +kernel
theorem dX4_goats_5 : decode cX4_goats 5 = .ok (.invokevirtual 100, 3) := by decide +kernel
theorem dX4_goats_8 : decode cX4_goats 8 = .ok (.ifCond .ne 5, 3) := by decide +kernel
theorem dX4_goats_11 : decode cX4_goats 11 = .ok (.iconst (-1), 1) := by decide +kernel
theorem dX4_goats_12 : decode cX4_goats 12 = .ok (.ireturn, 1) := by decide +kernel
theorem dX4_goats_13 : decode cX4_goats 13 = .ok (.iload_n 2, 1) := by decide +kernel
theorem dX4_goats_14 : decode cX4_goats 14 = .ok (.invokestatic 103, 3) := by decide +kernel
theorem dX4_goats_17 : decode cX4_goats 17 = .ok (.ifCond .ne 6, 3) := by decide +kernel
theorem dX4_goats_20 : decode cX4_goats 20 = .ok (.bipush (-2), 2) := by decide +kernel
theorem dX4_goats_22 : decode cX4_goats 22 = .ok (.ireturn, 1) := by decide +kernel
theorem dX4_goats_23 : decode cX4_goats 23 = .ok (.aload_n 0, 1) := by decide +kernel
theorem dX4_goats_24 : decode cX4_goats 24 = .ok (.getfield 14, 3) := by decide +kernel
theorem dX4_goats_27 : decode cX4_goats 27 = .ok (.getfield 97, 3) := by decide +kernel
theorem dX4_goats_30 : decode cX4_goats 30 = .ok (.iload_n 1, 1) := by decide +kernel
theorem dX4_goats_31 : decode cX4_goats 31 = .ok (.iaload, 1) := by decide +kernel
theorem dX4_goats_32 : decode cX4_goats 32 = .ok (.istore_n 3, 1) := by decide +kernel
theorem dX4_goats_33 : decode cX4_goats 33 = .ok (.aload_n 0, 1) := by decide +kernel
theorem dX4_goats_34 : decode cX4_goats 34 = .ok (.getfield 14, 3) := by decide +kernel
theorem dX4_goats_37 : decode cX4_goats 37 = .ok (.getfield 97, 3) := by decide +kernel
theorem dX4_goats_40 : decode cX4_goats 40 = .ok (.iload_n 1, 1) := by decide +kernel
theorem dX4_goats_41 : decode cX4_goats 41 = .ok (.iload_n 2, 1) := by decide +kernel
theorem dX4_goats_42 : decode cX4_goats 42 = .ok (.iastore, 1) := by decide +kernel
theorem dX4_goats_43 : decode cX4_goats 43 = .ok (.iload_n 3, 1) := by decide +kernel
theorem dX4_goats_44 : decode cX4_goats 44 = .ok (.ireturn, 1) := by decide +kernel
set_option maxRecDepth 20000 in
theorem ggX4_pace_X0_stands : GoodIn wsX4_pace wsX0_stands := goodIn_r _ [5, 6, 13, 14, 15, 16, 17, 18, 19] (by decide +kernel) (by decide +kernel)
set_option maxRecDepth 20000 in
theorem gX4_pace_X0_stands_n106 : GoodIn wsX4_pace (wsX0_stands) := ggX4_pace_X0_stands
theorem dX4_pace_0 : decode cX4_pace 0 = .ok (.iload_n 1, 1) := by decide +kernel
theorem dX4_pace_1 : decode cX4_pace 1 = .ok (.iconst 1, 1) := by decide +kernel
theorem dX4_pace_2 : decode cX4_pace 2 = .ok (.if_icmp .lt 8, 3) := by decide +kernel
theorem dX4_pace_5 : decode cX4_pace 5 = .ok (.iload_n 1, 1) := by decide +kernel
theorem dX4_pace_6 : decode cX4_pace 6 = .ok (.iconst 3, 1) := by decide +kernel
theorem dX4_pace_7 : decode cX4_pace 7 = .ok (.if_icmp .le 6, 3) := by decide +kernel
theorem dX4_pace_10 : decode cX4_pace 10 = .ok (.bipush (-2), 2) := by decide +kernel
theorem dX4_pace_12 : decode cX4_pace 12 = .ok (.ireturn, 1) := by decide +kernel
theorem dX4_pace_13 : decode cX4_pace 13 = .ok (.aload_n 0, 1) := by decide +kernel
theorem dX4_pace_14 : decode cX4_pace 14 = .ok (.getfield 14, 3) := by decide +kernel
theorem dX4_pace_17 : decode cX4_pace 17 = .ok (.invokevirtual 106, 3) := by decide +kernel
theorem dX4_pace_20 : decode cX4_pace 20 = .ok (.ifCond .ne 6, 3) := by decide +kernel
theorem dX4_pace_23 : decode cX4_pace 23 = .ok (.bipush (-3), 2) := by decide +kernel
theorem dX4_pace_25 : decode cX4_pace 25 = .ok (.ireturn, 1) := by decide +kernel
theorem dX4_pace_26 : decode cX4_pace 26 = .ok (.aload_n 0, 1) := by decide +kernel
theorem dX4_pace_27 : decode cX4_pace 27 = .ok (.getfield 14, 3) := by decide +kernel
theorem dX4_pace_30 : decode cX4_pace 30 = .ok (.getfield 110, 3) := by decide +kernel
theorem dX4_pace_33 : decode cX4_pace 33 = .ok (.istore_n 2, 1) := by decide +kernel
theorem dX4_pace_34 : decode cX4_pace 34 = .ok (.aload_n 0, 1) := by decide +kernel
theorem dX4_pace_35 : decode cX4_pace 35 = .ok (.getfield 14, 3) := by decide +kernel
theorem dX4_pace_38 : decode cX4_pace 38 = .ok (.iload_n 1, 1) := by decide +kernel
theorem dX4_pace_39 : decode cX4_pace 39 = .ok (.putfield 110, 3) := by decide +kernel
theorem dX4_pace_42 : decode cX4_pace 42 = .ok (.iload_n 2, 1) := by decide +kernel
theorem dX4_pace_43 : decode cX4_pace 43 = .ok (.ireturn, 1) := by decide +kernel
set_option maxRecDepth 20000 in
theorem ggX4_breadth_X0_stands : GoodIn wsX4_breadth wsX0_stands := goodIn_r _ [5, 6, 13, 14, 15, 16, 17, 18, 19] (by decide +kernel) (by decide +kernel)
set_option maxRecDepth 20000 in
theorem gX4_breadth_X0_stands_n106 : GoodIn wsX4_breadth (wsX0_stands) := ggX4_breadth_X0_stands
theorem dX4_breadth_0 : decode cX4_breadth 0 = .ok (.iload_n 1, 1) := by decide +kernel
theorem dX4_breadth_1 : decode cX4_breadth 1 = .ok (.iconst 1, 1) := by decide +kernel
theorem dX4_breadth_2 : decode cX4_breadth 2 = .ok (.if_icmp .lt 9, 3) := by decide +kernel
theorem dX4_breadth_5 : decode cX4_breadth 5 = .ok (.iload_n 1, 1) := by decide +kernel
theorem dX4_breadth_6 : decode cX4_breadth 6 = .ok (.bipush 9, 2) := by decide +kernel
theorem dX4_breadth_8 : decode cX4_breadth 8 = .ok (.if_icmp .le 6, 3) := by decide +kernel
theorem dX4_breadth_11 : decode cX4_breadth 11 = .ok (.bipush (-2), 2) := by decide +kernel
theorem dX4_breadth_13 : decode cX4_breadth 13 = .ok (.ireturn, 1) := by decide +kernel
theorem dX4_breadth_14 : decode cX4_breadth 14 = .ok (.aload_n 0, 1) := by decide +kernel
theorem dX4_breadth_15 : decode cX4_breadth 15 = .ok (.getfield 14, 3) := by decide +kernel
theorem dX4_breadth_18 : decode cX4_breadth 18 = .ok (.invokevirtual 106, 3) := by decide +kernel
theorem dX4_breadth_21 : decode cX4_breadth 21 = .ok (.ifCond .ne 6, 3) := by decide +kernel
theorem dX4_breadth_24 : decode cX4_breadth 24 = .ok (.bipush (-3), 2) := by decide +kernel
theorem dX4_breadth_26 : decode cX4_breadth 26 = .ok (.ireturn, 1) := by decide +kernel
theorem dX4_breadth_27 : decode cX4_breadth 27 = .ok (.aload_n 0, 1) := by decide +kernel
theorem dX4_breadth_28 : decode cX4_breadth 28 = .ok (.getfield 14, 3) := by decide +kernel
theorem dX4_breadth_31 : decode cX4_breadth 31 = .ok (.getfield 113, 3) := by decide +kernel
theorem dX4_breadth_34 : decode cX4_breadth 34 = .ok (.istore_n 2, 1) := by decide +kernel
theorem dX4_breadth_35 : decode cX4_breadth 35 = .ok (.aload_n 0, 1) := by decide +kernel
theorem dX4_breadth_36 : decode cX4_breadth 36 = .ok (.getfield 14, 3) := by decide +kernel
theorem dX4_breadth_39 : decode cX4_breadth 39 = .ok (.iload_n 1, 1) := by decide +kernel
theorem dX4_breadth_40 : decode cX4_breadth 40 = .ok (.putfield 113, 3) := by decide +kernel
theorem dX4_breadth_43 : decode cX4_breadth 43 = .ok (.iload_n 2, 1) := by decide +kernel
theorem dX4_breadth_44 : decode cX4_breadth 44 = .ok (.ireturn, 1) := by decide +kernel
set_option maxRecDepth 20000 in
theorem ggX4_coat_X0_has : GoodIn wsX4_coat wsX0_has := goodIn_r _ [5, 6, 7, 8, 3, 9, 10, 11, 39, 40, 41, 42, 43, 44, 45] (by decide +kernel) (by decide +kernel)
set_option maxRecDepth 20000 in
theorem gX4_coat_X0_has_n88 : GoodIn wsX4_coat (wsX0_has) := ggX4_coat_X0_has
set_option maxRecDepth 20000 in
theorem ggX4_coat_X4_isWeeks : GoodIn wsX4_coat wsX4_isWeeks := goodIn_r _ [15] (by decide +kernel) (by decide +kernel)
set_option maxRecDepth 20000 in
theorem gX4_coat_X4_isWeeks : GoodIn wsX4_coat (va_wsS RX4 116 yX4_isWeeks wsX4_isWeeks) := goodIn_app (goodIn_of _ (by decide +kernel)) ggX4_coat_X4_isWeeks
set_option maxRecDepth 20000 in
theorem ggX4_coat_X0_inches : GoodIn wsX4_coat wsX0_inches := goodIn_r _ [18, 19, 20, 21, 22, 23, 24, 25, 26, 27, 28, 29, 3, 30, 31, 32, 39, 40, 41, 42, 43, 44, 45] (by decide +kernel) (by decide +kernel)
set_option maxRecDepth 20000 in
theorem gX4_coat_X0_inches_n119 : GoodIn wsX4_coat (wsX0_inches) := ggX4_coat_X0_inches
theorem dX4_coat_0 : decode cX4_coat 0 = .ok (.aload_n 0, 1) := by decide +kernel
theorem dX4_coat_1 : decode cX4_coat 1 = .ok (.getfield 14, 3) := by decide +kernel
theorem dX4_coat_4 : decode cX4_coat 4 = .ok (.iload_n 1, 1) := by decide +kernel
theorem dX4_coat_5 : decode cX4_coat 5 = .ok (.invokevirtual 88, 3) := by decide +kernel
theorem dX4_coat_8 : decode cX4_coat 8 = .ok (.ifCond .ne 5, 3) := by decide +kernel
theorem dX4_coat_11 : decode cX4_coat 11 = .ok (.iconst (-1), 1) := by decide +kernel
theorem dX4_coat_12 : decode cX4_coat 12 = .ok (.ireturn, 1) := by decide +kernel
theorem dX4_coat_13 : decode cX4_coat 13 = .ok (.iload_n 2, 1) := by decide +kernel
theorem dX4_coat_14 : decode cX4_coat 14 = .ok (.invokestatic 116, 3) := by decide +kernel
theorem dX4_coat_17 : decode cX4_coat 17 = .ok (.ifCond .eq 15, 3) := by decide +kernel
theorem dX4_coat_20 : decode cX4_coat 20 = .ok (.aload_n 0, 1) := by decide +kernel
theorem dX4_coat_21 : decode cX4_coat 21 = .ok (.getfield 14, 3) := by decide +kernel
theorem dX4_coat_24 : decode cX4_coat 24 = .ok (.iload_n 1, 1) := by decide +kernel
theorem dX4_coat_25 : decode cX4_coat 25 = .ok (.iload_n 2, 1) := by decide +kernel
theorem dX4_coat_26 : decode cX4_coat 26 = .ok (.invokevirtual 119, 3) := by decide +kernel
theorem dX4_coat_29 : decode cX4_coat 29 = .ok (.goto 5, 3) := by decide +kernel
theorem dX4_coat_32 : decode cX4_coat 32 = .ok (.bipush (-2), 2) := by decide +kernel
theorem dX4_coat_34 : decode cX4_coat 34 = .ok (.ireturn, 1) := by decide +kernel
set_option maxRecDepth 20000 in
theorem ggX4_ripe_X0_stands : GoodIn wsX4_ripe wsX0_stands := goodIn_r _ [5, 6, 50, 51, 52, 53, 54, 55, 56] (by decide +kernel) (by decide +kernel)
set_option maxRecDepth 20000 in
theorem gX4_ripe_X0_stands_n106 : GoodIn wsX4_ripe (wsX0_stands) := ggX4_ripe_X0_stands
set_option maxRecDepth 20000 in
theorem ggX4_ripe_X4_isWeeks : GoodIn wsX4_ripe wsX4_isWeeks := goodIn_r _ [10] (by decide +kernel) (by decide +kernel)
set_option maxRecDepth 20000 in
theorem gX4_ripe_X4_isWeeks : GoodIn wsX4_ripe (va_wsS RX4 116 yX4_isWeeks wsX4_isWeeks) := goodIn_app (goodIn_of _ (by decide +kernel)) ggX4_ripe_X4_isWeeks
set_option maxRecDepth 20000 in
theorem ggX4_ripe_X0_ripeCells : GoodIn wsX4_ripe wsX0_ripeCells := goodIn_r _ [13, 14, 15, 16, 3, 17, 6, 18, 19, 20, 21, 22, 23, 24, 25, 26, 27, 28, 29, 30, 31, 32, 33, 34, 35, 36, 37, 38, 39, 40, 41, 42, 9, 43, 50, 51, 52, 53, 54, 55, 56] (by decide +kernel) (by decide +kernel)
set_option maxRecDepth 20000 in
theorem gX4_ripe_X0_ripeCells_n123 : GoodIn wsX4_ripe (wsX0_ripeCells) := ggX4_ripe_X0_ripeCells
theorem dX4_ripe_0 : decode cX4_ripe 0 = .ok (.aload_n 0, 1) := by decide +kernel
theorem dX4_ripe_1 : decode cX4_ripe 1 = .ok (.getfield 14, 3) := by decide +kernel
theorem dX4_ripe_4 : decode cX4_ripe 4 = .ok (.invokevirtual 106, 3) := by decide +kernel
theorem dX4_ripe_7 : decode cX4_ripe 7 = .ok (.ifCond .ne 6, 3) := by decide +kernel
theorem dX4_ripe_10 : decode cX4_ripe 10 = .ok (.bipush (-3), 2) := by decide +kernel
theorem dX4_ripe_12 : decode cX4_ripe 12 = .ok (.ireturn, 1) := by decide +kernel
theorem dX4_ripe_13 : decode cX4_ripe 13 = .ok (.iload_n 1, 1) := by decide +kernel
theorem dX4_ripe_14 : decode cX4_ripe 14 = .ok (.invokestatic 116, 3) := by decide +kernel
theorem dX4_ripe_17 : decode cX4_ripe 17 = .ok (.ifCond .eq 14, 3) := by decide +kernel
theorem dX4_ripe_20 : decode cX4_ripe 20 = .ok (.aload_n 0, 1) := by decide +kernel
theorem dX4_ripe_21 : decode cX4_ripe 21 = .ok (.getfield 14, 3) := by decide +kernel
theorem dX4_ripe_24 : decode cX4_ripe 24 = .ok (.iload_n 1, 1) := by decide +kernel
theorem dX4_ripe_25 : decode cX4_ripe 25 = .ok (.invokevirtual 123, 3) := by decide +kernel
theorem dX4_ripe_28 : decode cX4_ripe 28 = .ok (.goto 5, 3) := by decide +kernel
theorem dX4_ripe_31 : decode cX4_ripe 31 = .ok (.bipush (-2), 2) := by decide +kernel
theorem dX4_ripe_33 : decode cX4_ripe 33 = .ok (.ireturn, 1) := by decide +kernel
set_option maxRecDepth 20000 in
theorem ggX4_path_X0_has : GoodIn wsX4_path wsX0_has := goodIn_r _ [7, 8, 9, 10, 5, 11, 12, 13, 97, 98, 99, 100, 101, 102, 103] (by decide +kernel) (by decide +kernel)
set_option maxRecDepth 20000 in
theorem gX4_path_X0_has_n88 : GoodIn wsX4_path (wsX0_has) := ggX4_path_X0_has
set_option maxRecDepth 20000 in
theorem ggX4_path_X4_isSheet : GoodIn wsX4_path wsX4_isSheet := goodIn_r _ [17] (by decide +kernel) (by decide +kernel)
set_option maxRecDepth 20000 in
theorem gX4_path_X4_isSheet : GoodIn wsX4_path (va_wsS RX4 46 yX4_isSheet wsX4_isSheet) := goodIn_app (goodIn_of _ (by decide +kernel)) ggX4_path_X4_isSheet
set_option maxRecDepth 20000 in
theorem ggX4_path_X4_isLane : GoodIn wsX4_path wsX4_isLane := goodIn_r _ [20] (by decide +kernel) (by decide +kernel)
set_option maxRecDepth 20000 in
theorem gX4_path_X4_isLane : GoodIn wsX4_path (va_wsS RX4 50 yX4_isLane wsX4_isLane) := goodIn_app (goodIn_of _ (by decide +kernel)) ggX4_path_X4_isLane
set_option maxRecDepth 20000 in
theorem ggX4_path_X4_isWeeks : GoodIn wsX4_path wsX4_isWeeks := goodIn_r _ [23] (by decide +kernel) (by decide +kernel)
set_option maxRecDepth 20000 in
theorem gX4_path_X4_isWeeks : GoodIn wsX4_path (va_wsS RX4 116 yX4_isWeeks wsX4_isWeeks) := goodIn_app (goodIn_of _ (by decide +kernel)) ggX4_path_X4_isWeeks
set_option maxRecDepth 20000 in
theorem ggX4_path_X0_isRipe : GoodIn wsX4_path wsX0_isRipe := goodIn_r _ [26, 27, 28, 29, 30, 31, 5, 32, 33, 34, 35, 36, 37, 38, 39, 40, 41, 42, 43, 44, 45, 97, 98, 99, 100, 101, 102, 103] (by decide +kernel) (by decide +kernel)
set_option maxRecDepth 20000 in
theorem gX4_path_X0_isRipe_n126 : GoodIn wsX4_path (wsX0_isRipe) := ggX4_path_X0_isRipe
set_option maxRecDepth 20000 in
theorem ggX4_path_X3_faultAs : GoodIn wsX4_path wsX3_faultAs := goodIn_r _ [49, 50, 51, 93, 94, 95, 96] (by decide +kernel) (by decide +kernel)
set_option maxRecDepth 20000 in
theorem gX4_path_X3_faultAs_n53 : GoodIn wsX4_path (wsX3_faultAs) := ggX4_path_X3_faultAs
set_option maxRecDepth 20000 in
theorem ggX4_path_X3_spans : GoodIn wsX4_path wsX3_spans := goodIn_r _ [54, 55, 93, 94, 95, 96] (by decide +kernel) (by decide +kernel)
set_option maxRecDepth 20000 in
theorem gX4_path_X3_spans_n57 : GoodIn wsX4_path (wsX3_spans) := ggX4_path_X3_spans
set_option maxRecDepth 20000 in
theorem ggX4_path_X4_failed : GoodIn wsX4_path wsX4_failed := goodIn_r _ [59, 1, 87, 88, 89, 90, 91, 92] (by decide +kernel) (by decide +kernel)
set_option maxRecDepth 20000 in
theorem gX4_path_X4_failed : GoodIn wsX4_path (wsV RX4 61 RX4 yX4_failed wsX4_failed) := goodIn_app (goodIn_of _ (by decide +kernel)) ggX4_path_X4_failed
set_option maxRecDepth 20000 in
theorem ggX4_path_X4_areStrokes : GoodIn wsX4_path wsX4_areStrokes := goodIn_r _ [62] (by decide +kernel) (by decide +kernel)
set_option maxRecDepth 20000 in
theorem gX4_path_X4_areStrokes : GoodIn wsX4_path (va_wsS RX4 129 yX4_areStrokes wsX4_areStrokes) := goodIn_app (goodIn_of _ (by decide +kernel)) ggX4_path_X4_areStrokes
set_option maxRecDepth 20000 in
theorem ggX4_path_X4_followed : GoodIn wsX4_path wsX4_followed := goodIn_r _ [66, 2, 67, 5, 68, 69, 8, 9, 10, 11, 12, 13, 70, 24, 25, 26, 27, 28, 29, 30, 31, 32, 33, 34, 35, 36, 37, 38, 39, 40, 41, 42, 43, 44, 45, 71, 16, 72, 73, 74, 75, 76, 77, 78, 79, 80, 81, 82, 83, 84, 85, 86, 87, 88, 89, 90, 91, 92, 97, 98, 99, 100, 101, 102, 103] (by decide +kernel) (by decide +kernel)
set_option maxRecDepth 20000 in
theorem gX4_path_X4_followed : GoodIn wsX4_path (wsV RX4 133 RX4 yX4_followed wsX4_followed) := goodIn_app (goodIn_of _ (by decide +kernel)) ggX4_path_X4_followed
theorem dX4_path_0 : decode cX4_path 0 = .ok (.aload_n 0, 1) := by decide +kernel
theorem dX4_path_1 : decode cX4_path 1 = .ok (.iconst 0, 1) := by decide +kernel
theorem dX4_path_2 : decode cX4_path 2 = .ok (.putfield 38, 3) := by decide +kernel
theorem dX4_path_5 : decode cX4_path 5 = .ok (.aload_n 0, 1) := by decide +kernel
theorem dX4_path_6 : decode cX4_path 6 = .ok (.getfield 14, 3) := by decide +kernel
theorem dX4_path_9 : decode cX4_path 9 = .ok (.iload_n 2, 1) := by decide +kernel
theorem dX4_path_10 : decode cX4_path 10 = .ok (.invokevirtual 88, 3) := by decide +kernel
theorem dX4_path_13 : decode cX4_path 13 = .ok (.ifCond .eq 10, 3) := by decide +kernel
theorem dX4_path_16 : decode cX4_path 16 = .ok (.iload_n 3, 1) := by decide +kernel
theorem dX4_path_17 : decode cX4_path 17 = .ok (.invokestatic 46, 3) := by decide +kernel
theorem dX4_path_20 : decode cX4_path 20 = .ok (.ifCond .ne 5, 3) := by decide +kernel
theorem dX4_path_23 : decode cX4_path 23 = .ok (.iconst (-1), 1) := by decide +kernel
theorem dX4_path_24 : decode cX4_path 24 = .ok (.ireturn, 1) := by decide +kernel
theorem dX4_path_25 : decode cX4_path 25 = .ok (.iload 4, 2) := by decide +kernel
theorem dX4_path_27 : decode cX4_path 27 = .ok (.invokestatic 50, 3) := by decide +kernel
theorem dX4_path_30 : decode cX4_path 30 = .ok (.ifCond .eq 19, 3) := by decide +kernel
theorem dX4_path_33 : decode cX4_path 33 = .ok (.iload 6, 2) := by decide +kernel
theorem dX4_path_35 : decode cX4_path 35 = .ok (.ifCond .lt 14, 3) := by decide +kernel
theorem dX4_path_38 : decode cX4_path 38 = .ok (.iload 6, 2) := by decide +kernel
theorem dX4_path_40 : decode cX4_path 40 = .ok (.bipush 20, 2) := by decide +kernel
theorem dX4_path_42 : decode cX4_path 42 = .ok (.if_icmp .gt 7, 3) := by decide +kernel
theorem dX4_path_45 : decode cX4_path 45 = .ok (.iconst 1, 1) := by decide +kernel
theorem dX4_path_46 : decode cX4_path 46 = .ok (.goto 4, 3) := by decide +kernel
theorem dX4_path_49 : decode cX4_path 49 = .ok (.iconst 0, 1) := by decide +kernel
theorem dX4_path_50 : decode cX4_path 50 = .ok (.istore 8, 2) := by decide +kernel
theorem dX4_path_52 : decode cX4_path 52 = .ok (.iload_n 1, 1) := by decide +kernel
theorem dX4_path_53 : decode cX4_path 53 = .ok (.invokestatic 116, 3) := by decide +kernel
theorem dX4_path_56 : decode cX4_path 56 = .ok (.ifCond .eq 19, 3) := by decide +kernel
theorem dX4_path_59 : decode cX4_path 59 = .ok (.iload 8, 2) := by decide +kernel
theorem dX4_path_61 : decode cX4_path 61 = .ok (.ifCond .eq 14, 3) := by decide +kernel
theorem dX4_path_64 : decode cX4_path 64 = .ok (.iload 7, 2) := by decide +kernel
theorem dX4_path_66 : decode cX4_path 66 = .ok (.ifCond .lt 9, 3) := by decide +kernel
theorem dX4_path_69 : decode cX4_path 69 = .ok (.iload 7, 2) := by decide +kernel
theorem dX4_path_71 : decode cX4_path 71 = .ok (.iconst 3, 1) := by decide +kernel
theorem dX4_path_72 : decode cX4_path 72 = .ok (.if_icmp .le 6, 3) := by decide +kernel
theorem dX4_path_75 : decode cX4_path 75 = .ok (.bipush (-2), 2) := by decide +kernel
theorem dX4_path_77 : decode cX4_path 77 = .ok (.ireturn, 1) := by decide +kernel
theorem dX4_path_78 : decode cX4_path 78 = .ok (.aload_n 0, 1) := by decide +kernel
theorem dX4_path_79 : decode cX4_path 79 = .ok (.getfield 14, 3) := by decide +kernel
theorem dX4_path_82 : decode cX4_path 82 = .ok (.iload_n 2, 1) := by decide +kernel
theorem dX4_path_83 : decode cX4_path 83 = .ok (.iload_n 1, 1) := by decide +kernel
theorem dX4_path_84 : decode cX4_path 84 = .ok (.invokevirtual 126, 3) := by decide +kernel
theorem dX4_path_87 : decode cX4_path 87 = .ok (.ifCond .ne 6, 3) := by decide +kernel
theorem dX4_path_90 : decode cX4_path 90 = .ok (.bipush (-3), 2) := by decide +kernel
theorem dX4_path_92 : decode cX4_path 92 = .ok (.ireturn, 1) := by decide +kernel
theorem dX4_path_93 : decode cX4_path 93 = .ok (.aload_n 0, 1) := by decide +kernel
theorem dX4_path_94 : decode cX4_path 94 = .ok (.getfield 34, 3) := by decide +kernel
theorem dX4_path_97 : decode cX4_path 97 = .ok (.iload_n 3, 1) := by decide +kernel
theorem dX4_path_98 : decode cX4_path 98 = .ok (.aaload, 1) := by decide +kernel
theorem dX4_path_99 : decode cX4_path 99 = .ok (.astore 9, 2) := by decide +kernel
theorem dX4_path_101 : decode cX4_path 101 = .ok (.aload 9, 2) := by decide +kernel
theorem dX4_path_103 : decode cX4_path 103 = .ok (.iload 4, 2) := by decide +kernel
theorem dX4_path_105 : decode cX4_path 105 = .ok (.invokevirtual 53, 3) := by decide +kernel
theorem dX4_path_108 : decode cX4_path 108 = .ok (.istore 10, 2) := by decide +kernel
theorem dX4_path_110 : decode cX4_path 110 = .ok (.iload 10, 2) := by decide +kernel
theorem dX4_path_112 : decode cX4_path 112 = .ok (.ifCond .ne 18, 3) := by decide +kernel
theorem dX4_path_115 : decode cX4_path 115 = .ok (.aload 9, 2) := by decide +kernel
theorem dX4_path_117 : decode cX4_path 117 = .ok (.iload 5, 2) := by decide +kernel
theorem dX4_path_119 : decode cX4_path 119 = .ok (.iload 6, 2) := by decide +kernel
theorem dX4_path_121 : decode cX4_path 121 = .ok (.invokevirtual 57, 3) := by decide +kernel
theorem dX4_path_124 : decode cX4_path 124 = .ok (.ifCond .ne 6, 3) := by decide +kernel
theorem dX4_path_127 : decode cX4_path 127 = .ok (.iconst 3, 1) := by decide +kernel
theorem dX4_path_128 : decode cX4_path 128 = .ok (.istore 10, 2) := by decide +kernel
theorem dX4_path_130 : decode cX4_path 130 = .ok (.iload 10, 2) := by decide +kernel
theorem dX4_path_132 : decode cX4_path 132 = .ok (.ifCond .eq 10, 3) := by decide +kernel
theorem dX4_path_135 : decode cX4_path 135 = .ok (.aload_n 0, 1) := by decide +kernel
theorem dX4_path_136 : decode cX4_path 136 = .ok (.iload 10, 2) := by decide +kernel
theorem dX4_path_138 : decode cX4_path 138 = .ok (.invokevirtual 61, 3) := by decide +kernel
theorem dX4_path_141 : decode cX4_path 141 = .ok (.ireturn, 1) := by decide +kernel
theorem dX4_path_142 : decode cX4_path 142 = .ok (.aload 9, 2) := by decide +kernel
theorem dX4_path_144 : decode cX4_path 144 = .ok (.getfield 64, 3) := by decide +kernel
theorem dX4_path_147 : decode cX4_path 147 = .ok (.iload 5, 2) := by decide +kernel
theorem dX4_path_149 : decode cX4_path 149 = .ok (.iload 6, 2) := by decide +kernel
theorem dX4_path_151 : decode cX4_path 151 = .ok (.invokestatic 129, 3) := by decide +kernel
theorem dX4_path_154 : decode cX4_path 154 = .ok (.ifCond .eq 23, 3) := by decide +kernel
theorem dX4_path_157 : decode cX4_path 157 = .ok (.aload_n 0, 1) := by decide +kernel
theorem dX4_path_158 : decode cX4_path 158 = .ok (.iload_n 1, 1) := by decide +kernel
theorem dX4_path_159 : decode cX4_path 159 = .ok (.iload_n 2, 1) := by decide +kernel
theorem dX4_path_160 : decode cX4_path 160 = .ok (.aload 9, 2) := by decide +kernel
theorem dX4_path_162 : decode cX4_path 162 = .ok (.getfield 64, 3) := by decide +kernel
theorem dX4_path_165 : decode cX4_path 165 = .ok (.iload 5, 2) := by decide +kernel
theorem dX4_path_167 : decode cX4_path 167 = .ok (.iload 6, 2) := by decide +kernel
theorem dX4_path_169 : decode cX4_path 169 = .ok (.iload 7, 2) := by decide +kernel
theorem dX4_path_171 : decode cX4_path 171 = .ok (.invokevirtual 133, 3) := by decide +kernel
theorem dX4_path_174 : decode cX4_path 174 = .ok (.goto 5, 3) := by decide +kernel
theorem dX4_path_177 : decode cX4_path 177 = .ok (.bipush (-2), 2) := by decide +kernel
theorem dX4_path_179 : decode cX4_path 179 = .ok (.ireturn, 1) := by decide +kernel
set_option maxRecDepth 20000 in
theorem ggX4_fleece_X0_has : GoodIn wsX4_fleece wsX0_has := goodIn_r _ [6, 7, 8, 9, 4, 10, 11, 12, 91, 92, 93, 94, 95, 96, 97] (by decide +kernel) (by decide +kernel)
set_option maxRecDepth 20000 in
theorem gX4_fleece_X0_has_n88 : GoodIn wsX4_fleece (wsX0_has) := ggX4_fleece_X0_has
set_option maxRecDepth 20000 in
theorem ggX4_fleece_X4_isWeeks : GoodIn wsX4_fleece wsX4_isWeeks := goodIn_r _ [16] (by decide +kernel) (by decide +kernel)
set_option maxRecDepth 20000 in
theorem gX4_fleece_X4_isWeeks : GoodIn wsX4_fleece (va_wsS RX4 116 yX4_isWeeks wsX4_isWeeks) := goodIn_app (goodIn_of _ (by decide +kernel)) ggX4_fleece_X4_isWeeks
set_option maxRecDepth 20000 in
theorem ggX4_fleece_X0_isRipe : GoodIn wsX4_fleece wsX0_isRipe := goodIn_r _ [19, 20, 21, 22, 23, 24, 4, 25, 26, 27, 28, 29, 30, 31, 32, 33, 34, 35, 36, 37, 38, 91, 92, 93, 94, 95, 96, 97] (by decide +kernel) (by decide +kernel)
set_option maxRecDepth 20000 in
theorem gX4_fleece_X0_isRipe_n126 : GoodIn wsX4_fleece (wsX0_isRipe) := ggX4_fleece_X0_isRipe
set_option maxRecDepth 20000 in
theorem ggX4_fleece_X0_ripeCells : GoodIn wsX4_fleece wsX0_ripeCells := goodIn_r _ [41, 7, 8, 9, 4, 10, 11, 12, 42, 17, 18, 19, 20, 21, 22, 23, 24, 25, 26, 27, 28, 29, 30, 31, 32, 33, 34, 35, 36, 37, 38, 43, 15, 44, 91, 92, 93, 94, 95, 96, 97] (by decide +kernel) (by decide +kernel)
set_option maxRecDepth 20000 in
theorem gX4_fleece_X0_ripeCells_n123 : GoodIn wsX4_fleece (wsX0_ripeCells) := ggX4_fleece_X0_ripeCells
set_option maxRecDepth 20000 in
theorem ggX4_fleece_X4_mostShorn : GoodIn wsX4_fleece wsX4_mostShorn := goodIn_r _ [48, 2, 1, 49, 50, 51, 52, 53, 54, 55, 56, 57, 15, 58, 59, 43, 44, 60, 61, 62, 63, 64, 65, 66, 67, 68, 69, 70, 71, 72, 73, 74, 4, 75, 76, 77, 78, 79, 80, 81, 82, 83, 84, 85, 86, 87, 88, 89, 90, 91, 92, 93, 94, 95, 96, 97] (by decide +kernel) (by decide +kernel)
set_option maxRecDepth 20000 in
theorem gX4_fleece_X4_mostShorn : GoodIn wsX4_fleece (wsV RX4 137 RX4 yX4_mostShorn wsX4_mostShorn) := goodIn_app (goodIn_of _ (by decide +kernel)) ggX4_fleece_X4_mostShorn
theorem dX4_fleece_0 : decode cX4_fleece 0 = .ok (.aload_n 0, 1) := by decide +kernel
theorem dX4_fleece_1 : decode cX4_fleece 1 = .ok (.getfield 14, 3) := by decide +kernel
theorem dX4_fleece_4 : decode cX4_fleece 4 = .ok (.iload_n 2, 1) := by decide +kernel
theorem dX4_fleece_5 : decode cX4_fleece 5 = .ok (.invokevirtual 88, 3) := by decide +kernel
theorem dX4_fleece_8 : decode cX4_fleece 8 = .ok (.ifCond .ne 5, 3) := by decide +kernel
theorem dX4_fleece_11 : decode cX4_fleece 11 = .ok (.iconst (-1), 1) := by decide +kernel
theorem dX4_fleece_12 : decode cX4_fleece 12 = .ok (.ireturn, 1) := by decide +kernel
theorem dX4_fleece_13 : decode cX4_fleece 13 = .ok (.iload_n 1, 1) := by decide +kernel
theorem dX4_fleece_14 : decode cX4_fleece 14 = .ok (.invokestatic 116, 3) := by decide +kernel
theorem dX4_fleece_17 : decode cX4_fleece 17 = .ok (.ifCond .eq 14, 3) := by decide +kernel
theorem dX4_fleece_20 : decode cX4_fleece 20 = .ok (.iload_n 3, 1) := by decide +kernel
theorem dX4_fleece_21 : decode cX4_fleece 21 = .ok (.iconst (-1), 1) := by decide +kernel
theorem dX4_fleece_22 : decode cX4_fleece 22 = .ok (.if_icmp .lt 9, 3) := by decide +kernel
theorem dX4_fleece_25 : decode cX4_fleece 25 = .ok (.iload_n 3, 1) := by decide +kernel
theorem dX4_fleece_26 : decode cX4_fleece 26 = .ok (.bipush 15, 2) := by decide +kernel
theorem dX4_fleece_28 : decode cX4_fleece 28 = .ok (.if_icmp .lt 6, 3) := by decide +kernel
theorem dX4_fleece_31 : decode cX4_fleece 31 = .ok (.bipush (-2), 2) := by decide +kernel
theorem dX4_fleece_33 : decode cX4_fleece 33 = .ok (.ireturn, 1) := by decide +kernel
theorem dX4_fleece_34 : decode cX4_fleece 34 = .ok (.aload_n 0, 1) := by decide +kernel
theorem dX4_fleece_35 : decode cX4_fleece 35 = .ok (.getfield 14, 3) := by decide +kernel
theorem dX4_fleece_38 : decode cX4_fleece 38 = .ok (.iload_n 2, 1) := by decide +kernel
theorem dX4_fleece_39 : decode cX4_fleece 39 = .ok (.iload_n 1, 1) := by decide +kernel
theorem dX4_fleece_40 : decode cX4_fleece 40 = .ok (.invokevirtual 126, 3) := by decide +kernel
theorem dX4_fleece_43 : decode cX4_fleece 43 = .ok (.ifCond .ne 6, 3) := by decide +kernel
theorem dX4_fleece_46 : decode cX4_fleece 46 = .ok (.bipush (-3), 2) := by decide +kernel
theorem dX4_fleece_48 : decode cX4_fleece 48 = .ok (.ireturn, 1) := by decide +kernel
theorem dX4_fleece_49 : decode cX4_fleece 49 = .ok (.aload_n 0, 1) := by decide +kernel
theorem dX4_fleece_50 : decode cX4_fleece 50 = .ok (.iload_n 2, 1) := by decide +kernel
theorem dX4_fleece_51 : decode cX4_fleece 51 = .ok (.aload_n 0, 1) := by decide +kernel
theorem dX4_fleece_52 : decode cX4_fleece 52 = .ok (.getfield 14, 3) := by decide +kernel
theorem dX4_fleece_55 : decode cX4_fleece 55 = .ok (.iload_n 1, 1) := by decide +kernel
theorem dX4_fleece_56 : decode cX4_fleece 56 = .ok (.invokevirtual 123, 3) := by decide +kernel
theorem dX4_fleece_59 : decode cX4_fleece 59 = .ok (.invokevirtual 137, 3) := by decide +kernel
theorem dX4_fleece_62 : decode cX4_fleece 62 = .ok (.istore 4, 2) := by decide +kernel
theorem dX4_fleece_64 : decode cX4_fleece 64 = .ok (.iload_n 3, 1) := by decide +kernel
theorem dX4_fleece_65 : decode cX4_fleece 65 = .ok (.iconst (-1), 1) := by decide +kernel
theorem dX4_fleece_66 : decode cX4_fleece 66 = .ok (.if_icmp .ne 6, 3) := by decide +kernel
theorem dX4_fleece_69 : decode cX4_fleece 69 = .ok (.iload 4, 2) := by decide +kernel
theorem dX4_fleece_71 : decode cX4_fleece 71 = .ok (.ireturn, 1) := by decide +kernel
theorem dX4_fleece_72 : decode cX4_fleece 72 = .ok (.iload_n 3, 1) := by decide +kernel
theorem dX4_fleece_73 : decode cX4_fleece 73 = .ok (.iload 4, 2) := by decide +kernel
theorem dX4_fleece_75 : decode cX4_fleece 75 = .ok (.iconst 1, 1) := by decide +kernel
theorem dX4_fleece_76 : decode cX4_fleece 76 = .ok (.isub, 1) := by decide +kernel
theorem dX4_fleece_77 : decode cX4_fleece 77 = .ok (.if_icmp .ge 15, 3) := by decide +kernel
theorem dX4_fleece_80 : decode cX4_fleece 80 = .ok (.aload_n 0, 1) := by decide +kernel
theorem dX4_fleece_81 : decode cX4_fleece 81 = .ok (.getfield 28, 3) := by decide +kernel
theorem dX4_fleece_84 : decode cX4_fleece 84 = .ok (.getfield 140, 3) := by decide +kernel
theorem dX4_fleece_87 : decode cX4_fleece 87 = .ok (.iload_n 3, 1) := by decide +kernel
theorem dX4_fleece_88 : decode cX4_fleece 88 = .ok (.iaload, 1) := by decide +kernel
theorem dX4_fleece_89 : decode cX4_fleece 89 = .ok (.goto 5, 3) := by decide +kernel
theorem dX4_fleece_92 : decode cX4_fleece 92 = .ok (.bipush (-9), 2) := by decide +kernel
theorem dX4_fleece_94 : decode cX4_fleece 94 = .ok (.ireturn, 1) := by decide +kernel
set_option maxRecDepth 20000 in
theorem ggX4_start_X0_stands : GoodIn wsX4_start wsX0_stands := goodIn_r _ [5, 6, 87, 88, 89, 90, 91, 92, 93] (by decide +kernel) (by decide +kernel)
set_option maxRecDepth 20000 in
theorem gX4_start_X0_stands_n106 : GoodIn wsX4_start (wsX0_stands) := ggX4_start_X0_stands
set_option maxRecDepth 20000 in
theorem ggX4_start_X4_isWeeks : GoodIn wsX4_start wsX4_isWeeks := goodIn_r _ [10] (by decide +kernel) (by decide +kernel)
set_option maxRecDepth 20000 in
theorem gX4_start_X4_isWeeks : GoodIn wsX4_start (va_wsS RX4 116 yX4_isWeeks wsX4_isWeeks) := goodIn_app (goodIn_of _ (by decide +kernel)) ggX4_start_X4_isWeeks
set_option maxRecDepth 20000 in
theorem ggX4_start_X0_ripeCells : GoodIn wsX4_start wsX0_ripeCells := goodIn_r _ [13, 14, 15, 16, 3, 17, 6, 18, 19, 20, 21, 22, 23, 24, 25, 26, 27, 28, 29, 30, 31, 32, 33, 34, 35, 36, 37, 38, 39, 40, 41, 42, 9, 43, 87, 88, 89, 90, 91, 92, 93] (by decide +kernel) (by decide +kernel)
set_option maxRecDepth 20000 in
theorem gX4_start_X0_ripeCells_n123 : GoodIn wsX4_start (wsX0_ripeCells) := ggX4_start_X0_ripeCells
set_option maxRecDepth 20000 in
theorem ggX4_start_X0_cells : GoodIn wsX4_start wsX0_cells := goodIn_r _ [17, 6, 18, 87, 88, 89, 90, 91, 92, 93] (by decide +kernel) (by decide +kernel)
set_option maxRecDepth 20000 in
theorem gX4_start_X0_cells_n143 : GoodIn wsX4_start (wsX0_cells) := ggX4_start_X0_cells
set_option maxRecDepth 20000 in
theorem ggX4_start_X4_isIn : GoodIn wsX4_start wsX4_isIn := goodIn_r _ [46, 47, 42, 9, 43] (by decide +kernel) (by decide +kernel)
set_option maxRecDepth 20000 in
theorem gX4_start_X4_isIn : GoodIn wsX4_start (va_wsS RX4 146 yX4_isIn wsX4_isIn) := goodIn_app (goodIn_of _ (by decide +kernel)) ggX4_start_X4_isIn
set_option maxRecDepth 20000 in
theorem ggX4_start_X4_mostShorn : GoodIn wsX4_start wsX4_mostShorn := goodIn_r _ [51, 52, 1, 53, 54, 55, 56, 57, 58, 59, 60, 61, 9, 62, 47, 42, 43, 63, 64, 65, 66, 67, 68, 69, 70, 71, 72, 73, 74, 75, 76, 77, 3, 78, 79, 80, 44, 45, 46, 81, 82, 83, 84, 85, 86, 94, 95, 96, 97, 87, 88, 89, 90, 91, 92, 93] (by decide +kernel) (by decide +kernel)
set_option maxRecDepth 20000 in
theorem gX4_start_X4_mostShorn : GoodIn wsX4_start (wsV RX4 137 RX4 yX4_mostShorn wsX4_mostShorn) := goodIn_app (goodIn_of _ (by decide +kernel)) ggX4_start_X4_mostShorn
theorem dX4_start_0 : decode cX4_start 0 = .ok (.aload_n 0, 1) := by decide +kernel
theorem dX4_start_1 : decode cX4_start 1 = .ok (.getfield 14, 3) := by decide +kernel
theorem dX4_start_4 : decode cX4_start 4 = .ok (.invokevirtual 106, 3) := by decide +kernel
theorem dX4_start_7 : decode cX4_start 7 = .ok (.ifCond .ne 6, 3) := by decide +kernel
theorem dX4_start_10 : decode cX4_start 10 = .ok (.bipush (-3), 2) := by decide +kernel
theorem dX4_start_12 : decode cX4_start 12 = .ok (.ireturn, 1) := by decide +kernel
theorem dX4_start_13 : decode cX4_start 13 = .ok (.iload_n 1, 1) := by decide +kernel
theorem dX4_start_14 : decode cX4_start 14 = .ok (.invokestatic 116, 3) := by decide +kernel
theorem dX4_start_17 : decode cX4_start 17 = .ok (.ifCond .ne 6, 3) := by decide +kernel
theorem dX4_start_20 : decode cX4_start 20 = .ok (.bipush (-2), 2) := by decide +kernel
theorem dX4_start_22 : decode cX4_start 22 = .ok (.ireturn, 1) := by decide +kernel
theorem dX4_start_23 : decode cX4_start 23 = .ok (.aload_n 0, 1) := by decide +kernel
theorem dX4_start_24 : decode cX4_start 24 = .ok (.getfield 14, 3) := by decide +kernel
theorem dX4_start_27 : decode cX4_start 27 = .ok (.iload_n 1, 1) := by decide +kernel
theorem dX4_start_28 : decode cX4_start 28 = .ok (.invokevirtual 123, 3) := by decide +kernel
theorem dX4_start_31 : decode cX4_start 31 = .ok (.istore_n 2, 1) := by decide +kernel
theorem dX4_start_32 : decode cX4_start 32 = .ok (.iconst 0, 1) := by decide +kernel
theorem dX4_start_33 : decode cX4_start 33 = .ok (.istore_n 3, 1) := by decide +kernel
theorem dX4_start_34 : decode cX4_start 34 = .ok (.bipush (-9), 2) := by decide +kernel
theorem dX4_start_36 : decode cX4_start 36 = .ok (.istore 4, 2) := by decide +kernel
theorem dX4_start_38 : decode cX4_start 38 = .ok (.iconst 0, 1) := by decide +kernel
theorem dX4_start_39 : decode cX4_start 39 = .ok (.istore 5, 2) := by decide +kernel
theorem dX4_start_41 : decode cX4_start 41 = .ok (.iload 5, 2) := by decide +kernel
theorem dX4_start_43 : decode cX4_start 43 = .ok (.aload_n 0, 1) := by decide +kernel
theorem dX4_start_44 : decode cX4_start 44 = .ok (.getfield 14, 3) := by decide +kernel
theorem dX4_start_47 : decode cX4_start 47 = .ok (.invokevirtual 143, 3) := by decide +kernel
theorem dX4_start_50 : decode cX4_start 50 = .ok (.if_icmp .ge 44, 3) := by decide +kernel
theorem dX4_start_53 : decode cX4_start 53 = .ok (.iload_n 2, 1) := by decide +kernel
theorem dX4_start_54 : decode cX4_start 54 = .ok (.iload 5, 2) := by decide +kernel
theorem dX4_start_56 : decode cX4_start 56 = .ok (.invokestatic 146, 3) := by decide +kernel
theorem dX4_start_59 : decode cX4_start 59 = .ok (.ifCond .eq 13, 3) := by decide +kernel
theorem dX4_start_62 : decode cX4_start 62 = .ok (.aload_n 0, 1) := by decide +kernel
theorem dX4_start_63 : decode cX4_start 63 = .ok (.iload 5, 2) := by decide +kernel
theorem dX4_start_65 : decode cX4_start 65 = .ok (.iload_n 2, 1) := by decide +kernel
theorem dX4_start_66 : decode cX4_start 66 = .ok (.invokevirtual 137, 3) := by decide +kernel
theorem dX4_start_69 : decode cX4_start 69 = .ok (.goto 4, 3) := by decide +kernel
theorem dX4_start_72 : decode cX4_start 72 = .ok (.iconst 0, 1) := by decide +kernel
theorem dX4_start_73 : decode cX4_start 73 = .ok (.istore 6, 2) := by decide +kernel
theorem dX4_start_75 : decode cX4_start 75 = .ok (.iload 6, 2) := by decide +kernel
theorem dX4_start_77 : decode cX4_start 77 = .ok (.iload_n 3, 1) := by decide +kernel
theorem dX4_start_78 : decode cX4_start 78 = .ok (.if_icmp .le 10, 3) := by decide +kernel
theorem dX4_start_81 : decode cX4_start 81 = .ok (.iload 6, 2) := by decide +kernel
theorem dX4_start_83 : decode cX4_start 83 = .ok (.istore_n 3, 1) := by decide +kernel
theorem dX4_start_84 : decode cX4_start 84 = .ok (.iload 5, 2) := by decide +kernel
theorem dX4_start_86 : decode cX4_start 86 = .ok (.istore 4, 2) := by decide +kernel
theorem dX4_start_88 : decode cX4_start 88 = .ok (.iinc 5 1, 3) := by decide +kernel
theorem dX4_start_91 : decode cX4_start 91 = .ok (.goto (-50), 3) := by decide +kernel
theorem dX4_start_94 : decode cX4_start 94 = .ok (.iload 4, 2) := by decide +kernel
theorem dX4_start_96 : decode cX4_start 96 = .ok (.ireturn, 1) := by decide +kernel
set_option maxRecDepth 20000 in
theorem ggX4_whole_X0_isSoft : GoodIn wsX4_whole wsX0_isSoft := goodIn_r _ [5, 6, 7, 8, 9, 3, 10, 11, 12, 13, 14, 15, 16, 100, 101, 102, 103, 104, 105, 106] (by decide +kernel) (by decide +kernel)
set_option maxRecDepth 20000 in
theorem gX4_whole_X0_isSoft_n100 : GoodIn wsX4_whole (wsX0_isSoft) := ggX4_whole_X0_isSoft
set_option maxRecDepth 20000 in
theorem ggX4_whole_X0_isAllRipe : GoodIn wsX4_whole wsX0_isAllRipe := goodIn_r _ [19, 20, 21, 22, 3, 23, 11, 12, 13, 14, 15, 16, 24, 25, 26, 27, 6, 28, 29, 30, 31, 32, 33, 34, 35, 36, 37, 38, 39, 40, 41, 42, 43, 44, 45, 46, 47, 48, 49, 50, 51, 52, 100, 101, 102, 103, 104, 105, 106] (by decide +kernel) (by decide +kernel)
set_option maxRecDepth 20000 in
theorem gX4_whole_X0_isAllRipe_n149 : GoodIn wsX4_whole (wsX0_isAllRipe) := ggX4_whole_X0_isAllRipe
set_option maxRecDepth 20000 in
theorem ggX4_whole_X4_shearsAllSoft : GoodIn wsX4_whole wsX4_shearsAllSoft := goodIn_r _ [56, 1, 50, 3, 51, 52, 6, 11, 12, 13, 14, 15, 16, 46, 47, 48, 57, 58, 59, 60, 61, 62, 63, 64, 65, 66, 67, 68, 69, 70, 71, 72, 73, 74, 75, 76, 77, 78, 79, 80, 81, 82, 83, 84, 85, 86, 87, 88, 89, 90, 91, 92, 93, 94, 95, 96, 97, 98, 99, 100, 101, 102, 103, 104, 105, 106, 107, 108, 109, 110] (by decide +kernel) (by decide +kernel)
set_option maxRecDepth 20000 in
theorem gX4_whole_X4_shearsAllSoft : GoodIn wsX4_whole (wsV RX4 152 RX4 yX4_shearsAllSoft wsX4_shearsAllSoft) := goodIn_app (goodIn_of _ (by decide +kernel)) ggX4_whole_X4_shearsAllSoft
theorem dX4_whole_0 : decode cX4_whole 0 = .ok (.aload_n 0, 1) := by decide +kernel
theorem dX4_whole_1 : decode cX4_whole 1 = .ok (.getfield 14, 3) := by decide +kernel
theorem dX4_whole_4 : decode cX4_whole 4 = .ok (.iload_n 1, 1) := by decide +kernel
theorem dX4_whole_5 : decode cX4_whole 5 = .ok (.invokevirtual 100, 3) := by decide +kernel
theorem dX4_whole_8 : decode cX4_whole 8 = .ok (.ifCond .ne 5, 3) := by decide +kernel
theorem dX4_whole_11 : decode cX4_whole 11 = .ok (.iconst (-1), 1) := by decide +kernel
theorem dX4_whole_12 : decode cX4_whole 12 = .ok (.ireturn, 1) := by decide +kernel
theorem dX4_whole_13 : decode cX4_whole 13 = .ok (.iconst 0, 1) := by decide +kernel
theorem dX4_whole_14 : decode cX4_whole 14 = .ok (.istore_n 2, 1) := by decide +kernel
theorem dX4_whole_15 : decode cX4_whole 15 = .ok (.iload_n 2, 1) := by decide +kernel
theorem dX4_whole_16 : decode cX4_whole 16 = .ok (.bipush 9, 2) := by decide +kernel
theorem dX4_whole_18 : decode cX4_whole 18 = .ok (.if_icmp .gt 30, 3) := by decide +kernel
theorem dX4_whole_21 : decode cX4_whole 21 = .ok (.aload_n 0, 1) := by decide +kernel
theorem dX4_whole_22 : decode cX4_whole 22 = .ok (.getfield 14, 3) := by decide +kernel
theorem dX4_whole_25 : decode cX4_whole 25 = .ok (.iload_n 2, 1) := by decide +kernel
theorem dX4_whole_26 : decode cX4_whole 26 = .ok (.invokevirtual 149, 3) := by decide +kernel
theorem dX4_whole_29 : decode cX4_whole 29 = .ok (.ifCond .eq 13, 3) := by decide +kernel
theorem dX4_whole_32 : decode cX4_whole 32 = .ok (.aload_n 0, 1) := by decide +kernel
theorem dX4_whole_33 : decode cX4_whole 33 = .ok (.iload_n 1, 1) := by decide +kernel
theorem dX4_whole_34 : decode cX4_whole 34 = .ok (.invokevirtual 152, 3) := by decide +kernel
theorem dX4_whole_37 : decode cX4_whole 37 = .ok (.ifCond .eq 5, 3) := by decide +kernel
theorem dX4_whole_40 : decode cX4_whole 40 = .ok (.iload_n 2, 1) := by decide +kernel
theorem dX4_whole_41 : decode cX4_whole 41 = .ok (.ireturn, 1) := by decide +kernel
theorem dX4_whole_42 : decode cX4_whole 42 = .ok (.iinc 2 1, 3) := by decide +kernel
theorem dX4_whole_45 : decode cX4_whole 45 = .ok (.goto (-30), 3) := by decide +kernel
theorem dX4_whole_48 : decode cX4_whole 48 = .ok (.bipush (-9), 2) := by decide +kernel
theorem dX4_whole_50 : decode cX4_whole 50 = .ok (.ireturn, 1) := by decide +kernel
set_option maxRecDepth 20000 in
theorem ggX4_stops_X0_stands : GoodIn wsX4_stops wsX0_stands := goodIn_r _ [5, 6, 114, 115, 116, 117, 118, 119, 120] (by decide +kernel) (by decide +kernel)
set_option maxRecDepth 20000 in
theorem gX4_stops_X0_stands_n106 : GoodIn wsX4_stops (wsX0_stands) := ggX4_stops_X0_stands
set_option maxRecDepth 20000 in
theorem ggX4_stops_X4_isWeeks : GoodIn wsX4_stops wsX4_isWeeks := goodIn_r _ [10] (by decide +kernel) (by decide +kernel)
set_option maxRecDepth 20000 in
theorem gX4_stops_X4_isWeeks : GoodIn wsX4_stops (va_wsS RX4 116 yX4_isWeeks wsX4_isWeeks) := goodIn_app (goodIn_of _ (by decide +kernel)) ggX4_stops_X4_isWeeks
set_option maxRecDepth 20000 in
theorem ggX4_stops_X4_canBeShornWhole : GoodIn wsX4_stops wsX4_canBeShornWhole := goodIn_r _ [14, 1, 15, 3, 16, 17, 18, 19, 20, 21, 22, 23, 24, 25, 6, 26, 27, 28, 29, 30, 31, 32, 33, 34, 35, 36, 37, 38, 39, 40, 41, 42, 43, 44, 45, 46, 47, 48, 49, 50, 9, 51, 52, 53, 54, 55, 56, 57, 58, 59, 60, 61, 62, 63, 64, 65, 66, 67, 68, 69, 70, 71, 72, 73, 74, 75, 76, 77, 78, 79, 80, 81, 82, 83, 84, 85, 86, 87, 88, 89, 90, 91, 92, 93, 94, 95, 96, 97, 98, 99, 100, 101, 102, 103, 108, 109, 110, 111, 112, 113, 114, 115, 116, 117, 118, 119, 120, 121, 122, 123, 124] (by decide +kernel) (by decide +kernel)
set_option maxRecDepth 20000 in
theorem gX4_stops_X4_canBeShornWhole : GoodIn wsX4_stops (wsV RX4 155 RX4 yX4_canBeShornWhole wsX4_canBeShornWhole) := goodIn_app (goodIn_of _ (by decide +kernel)) ggX4_stops_X4_canBeShornWhole
set_option maxRecDepth 20000 in
theorem ggX4_stops_X0_cells : GoodIn wsX4_stops wsX0_cells := goodIn_r _ [25, 6, 26, 114, 115, 116, 117, 118, 119, 120] (by decide +kernel) (by decide +kernel)
set_option maxRecDepth 20000 in
theorem gX4_stops_X0_cells_n143 : GoodIn wsX4_stops (wsX0_cells) := ggX4_stops_X0_cells
set_option maxRecDepth 20000 in
theorem ggX4_stops_X4_couldBeShornWhole : GoodIn wsX4_stops wsX4_couldBeShornWhole := goodIn_r _ [107, 1, 11, 12, 13, 9, 14, 15, 3, 16, 17, 18, 19, 20, 21, 22, 23, 24, 25, 6, 26, 27, 28, 29, 30, 31, 32, 33, 34, 35, 36, 37, 38, 39, 40, 41, 42, 43, 44, 45, 46, 47, 48, 49, 50, 51, 52, 53, 54, 55, 56, 57, 58, 59, 60, 61, 62, 63, 64, 65, 66, 67, 68, 69, 70, 71, 72, 73, 74, 75, 76, 77, 78, 79, 80, 81, 82, 83, 84, 85, 86, 87, 88, 89, 90, 91, 92, 93, 94, 95, 96, 97, 98, 99, 100, 101, 102, 103, 108, 109, 110, 111, 112, 113, 114, 115, 116, 117, 118, 119, 120, 121, 122, 123, 124] (by decide +kernel) (by decide +kernel)
set_option maxRecDepth 20000 in
theorem gX4_stops_X4_couldBeShornWhole : GoodIn wsX4_stops (wsV RX4 158 RX4 yX4_couldBeShornWhole wsX4_couldBeShornWhole) := goodIn_app (goodIn_of _ (by decide +kernel)) ggX4_stops_X4_couldBeShornWhole
theorem dX4_stops_0 : decode cX4_stops 0 = .ok (.aload_n 0, 1) := by decide +kernel
theorem dX4_stops_1 : decode cX4_stops 1 = .ok (.getfield 14, 3) := by decide +kernel
theorem dX4_stops_4 : decode cX4_stops 4 = .ok (.invokevirtual 106, 3) := by decide +kernel
theorem dX4_stops_7 : decode cX4_stops 7 = .ok (.ifCond .ne 6, 3) := by decide +kernel
theorem dX4_stops_10 : decode cX4_stops 10 = .ok (.bipush (-3), 2) := by decide +kernel
theorem dX4_stops_12 : decode cX4_stops 12 = .ok (.ireturn, 1) := by decide +kernel
theorem dX4_stops_13 : decode cX4_stops 13 = .ok (.iload_n 1, 1) := by decide +kernel
theorem dX4_stops_14 : decode cX4_stops 14 = .ok (.invokestatic 116, 3) := by decide +kernel
theorem dX4_stops_17 : decode cX4_stops 17 = .ok (.ifCond .ne 6, 3) := by decide +kernel
theorem dX4_stops_20 : decode cX4_stops 20 = .ok (.bipush (-2), 2) := by decide +kernel
theorem dX4_stops_22 : decode cX4_stops 22 = .ok (.ireturn, 1) := by decide +kernel
theorem dX4_stops_23 : decode cX4_stops 23 = .ok (.aload_n 0, 1) := by decide +kernel
theorem dX4_stops_24 : decode cX4_stops 24 = .ok (.iload_n 1, 1) := by decide +kernel
theorem dX4_stops_25 : decode cX4_stops 25 = .ok (.invokevirtual 155, 3) := by decide +kernel
theorem dX4_stops_28 : decode cX4_stops 28 = .ok (.ifCond .eq 6, 3) := by decide +kernel
theorem dX4_stops_31 : decode cX4_stops 31 = .ok (.bipush (-9), 2) := by decide +kernel
theorem dX4_stops_33 : decode cX4_stops 33 = .ok (.ireturn, 1) := by decide +kernel
theorem dX4_stops_34 : decode cX4_stops 34 = .ok (.iconst 0, 1) := by decide +kernel
theorem dX4_stops_35 : decode cX4_stops 35 = .ok (.istore_n 2, 1) := by decide +kernel
theorem dX4_stops_36 : decode cX4_stops 36 = .ok (.iload_n 2, 1) := by decide +kernel
theorem dX4_stops_37 : decode cX4_stops 37 = .ok (.aload_n 0, 1) := by decide +kernel
theorem dX4_stops_38 : decode cX4_stops 38 = .ok (.getfield 14, 3) := by decide +kernel
theorem dX4_stops_41 : decode cX4_stops 41 = .ok (.invokevirtual 143, 3) := by decide +kernel
theorem dX4_stops_44 : decode cX4_stops 44 = .ok (.if_icmp .ge 33, 3) := by decide +kernel
theorem dX4_stops_47 : decode cX4_stops 47 = .ok (.aload_n 0, 1) := by decide +kernel
theorem dX4_stops_48 : decode cX4_stops 48 = .ok (.getfield 14, 3) := by decide +kernel
theorem dX4_stops_51 : decode cX4_stops 51 = .ok (.getfield 91, 3) := by decide +kernel
theorem dX4_stops_54 : decode cX4_stops 54 = .ok (.iload_n 2, 1) := by decide +kernel
theorem dX4_stops_55 : decode cX4_stops 55 = .ok (.iaload, 1) := by decide +kernel
theorem dX4_stops_56 : decode cX4_stops 56 = .ok (.iconst 3, 1) := by decide +kernel
theorem dX4_stops_57 : decode cX4_stops 57 = .ok (.if_icmp .ne 14, 3) := by decide +kernel
theorem dX4_stops_60 : decode cX4_stops 60 = .ok (.aload_n 0, 1) := by decide +kernel
theorem dX4_stops_61 : decode cX4_stops 61 = .ok (.iload_n 1, 1) := by decide +kernel
theorem dX4_stops_62 : decode cX4_stops 62 = .ok (.iload_n 2, 1) := by decide +kernel
theorem dX4_stops_63 : decode cX4_stops 63 = .ok (.invokevirtual 158, 3) := by decide +kernel
theorem dX4_stops_66 : decode cX4_stops 66 = .ok (.ifCond .eq 5, 3) := by decide +kernel
theorem dX4_stops_69 : decode cX4_stops 69 = .ok (.iload_n 2, 1) := by decide +kernel
theorem dX4_stops_70 : decode cX4_stops 70 = .ok (.ireturn, 1) := by decide +kernel
theorem dX4_stops_71 : decode cX4_stops 71 = .ok (.iinc 2 1, 3) := by decide +kernel
theorem dX4_stops_74 : decode cX4_stops 74 = .ok (.goto (-38), 3) := by decide +kernel
theorem dX4_stops_77 : decode cX4_stops 77 = .ok (.bipush (-9), 2) := by decide +kernel
theorem dX4_stops_79 : decode cX4_stops 79 = .ok (.ireturn, 1) := by decide +kernel
set_option maxRecDepth 20000 in
theorem ggX4_reading_X0_isSoft : GoodIn wsX4_reading wsX0_isSoft := goodIn_r _ [6, 7, 8, 9, 10, 4, 11, 12, 13, 14, 15, 16, 17, 43, 44, 45, 46, 47, 48, 49] (by decide +kernel) (by decide +kernel)
set_option maxRecDepth 20000 in
theorem gX4_reading_X0_isSoft_n100 : GoodIn wsX4_reading (wsX0_isSoft) := ggX4_reading_X0_isSoft
set_option maxRecDepth 20000 in
theorem ggX4_reading_X4_isWeeks : GoodIn wsX4_reading wsX4_isWeeks := goodIn_r _ [21] (by decide +kernel) (by decide +kernel)
set_option maxRecDepth 20000 in
theorem gX4_reading_X4_isWeeks : GoodIn wsX4_reading (va_wsS RX4 116 yX4_isWeeks wsX4_isWeeks) := goodIn_app (goodIn_of _ (by decide +kernel)) ggX4_reading_X4_isWeeks
set_option maxRecDepth 20000 in
theorem ggX4_reading_X4_isInches : GoodIn wsX4_reading wsX4_isInches := goodIn_r _ [24] (by decide +kernel) (by decide +kernel)
set_option maxRecDepth 20000 in
theorem gX4_reading_X4_isInches : GoodIn wsX4_reading (va_wsS RX4 103 yX4_isInches wsX4_isInches) := goodIn_app (goodIn_of _ (by decide +kernel)) ggX4_reading_X4_isInches
set_option maxRecDepth 20000 in
theorem ggX4_reading_X1_add : GoodIn wsX4_reading wsX1_add := goodIn_r _ [28, 29, 30, 31, 32, 39, 40, 41, 42] (by decide +kernel) (by decide +kernel)
set_option maxRecDepth 20000 in
theorem gX4_reading_X1_add_n161 : GoodIn wsX4_reading (wsX1_add) := ggX4_reading_X1_add
theorem dX4_reading_0 : decode cX4_reading 0 = .ok (.aload_n 0, 1) := by decide +kernel
theorem dX4_reading_1 : decode cX4_reading 1 = .ok (.getfield 14, 3) := by decide +kernel
theorem dX4_reading_4 : decode cX4_reading 4 = .ok (.iload_n 1, 1) := by decide +kernel
theorem dX4_reading_5 : decode cX4_reading 5 = .ok (.invokevirtual 100, 3) := by decide +kernel
theorem dX4_reading_8 : decode cX4_reading 8 = .ok (.ifCond .ne 5, 3) := by decide +kernel
theorem dX4_reading_11 : decode cX4_reading 11 = .ok (.iconst (-1), 1) := by decide +kernel
theorem dX4_reading_12 : decode cX4_reading 12 = .ok (.ireturn, 1) := by decide +kernel
theorem dX4_reading_13 : decode cX4_reading 13 = .ok (.iload_n 2, 1) := by decide +kernel
theorem dX4_reading_14 : decode cX4_reading 14 = .ok (.invokestatic 116, 3) := by decide +kernel
theorem dX4_reading_17 : decode cX4_reading 17 = .ok (.ifCond .eq 10, 3) := by decide +kernel
theorem dX4_reading_20 : decode cX4_reading 20 = .ok (.iload_n 3, 1) := by decide +kernel
theorem dX4_reading_21 : decode cX4_reading 21 = .ok (.invokestatic 103, 3) := by decide +kernel
theorem dX4_reading_24 : decode cX4_reading 24 = .ok (.ifCond .ne 6, 3) := by decide +kernel
theorem dX4_reading_27 : decode cX4_reading 27 = .ok (.bipush (-2), 2) := by decide +kernel
theorem dX4_reading_29 : decode cX4_reading 29 = .ok (.ireturn, 1) := by decide +kernel
theorem dX4_reading_30 : decode cX4_reading 30 = .ok (.aload_n 0, 1) := by decide +kernel
theorem dX4_reading_31 : decode cX4_reading 31 = .ok (.getfield 21, 3) := by decide +kernel
theorem dX4_reading_34 : decode cX4_reading 34 = .ok (.getfield 76, 3) := by decide +kernel
theorem dX4_reading_37 : decode cX4_reading 37 = .ok (.bipush 8, 2) := by decide +kernel
theorem dX4_reading_39 : decode cX4_reading 39 = .ok (.if_icmp .ge 16, 3) := by decide +kernel
theorem dX4_reading_42 : decode cX4_reading 42 = .ok (.aload_n 0, 1) := by decide +kernel
theorem dX4_reading_43 : decode cX4_reading 43 = .ok (.getfield 21, 3) := by decide +kernel
theorem dX4_reading_46 : decode cX4_reading 46 = .ok (.iload_n 1, 1) := by decide +kernel
theorem dX4_reading_47 : decode cX4_reading 47 = .ok (.iload_n 2, 1) := by decide +kernel
theorem dX4_reading_48 : decode cX4_reading 48 = .ok (.iload_n 3, 1) := by decide +kernel
theorem dX4_reading_49 : decode cX4_reading 49 = .ok (.invokevirtual 161, 3) := by decide +kernel
theorem dX4_reading_52 : decode cX4_reading 52 = .ok (.goto 5, 3) := by decide +kernel
theorem dX4_reading_55 : decode cX4_reading 55 = .ok (.bipush (-4), 2) := by decide +kernel
theorem dX4_reading_57 : decode cX4_reading 57 = .ok (.ireturn, 1) := by decide +kernel
theorem dX4_back_0 : decode cX4_back 0 = .ok (.iload_n 1, 1) := by decide +kernel
theorem dX4_back_1 : decode cX4_back 1 = .ok (.ifCond .lt 14, 3) := by decide +kernel
theorem dX4_back_4 : decode cX4_back 4 = .ok (.iload_n 1, 1) := by decide +kernel
theorem dX4_back_5 : decode cX4_back 5 = .ok (.aload_n 0, 1) := by decide +kernel
theorem dX4_back_6 : decode cX4_back 6 = .ok (.getfield 21, 3) := by decide +kernel
theorem dX4_back_9 : decode cX4_back 9 = .ok (.getfield 76, 3) := by decide +kernel
theorem dX4_back_12 : decode cX4_back 12 = .ok (.if_icmp .le 6, 3) := by decide +kernel
theorem dX4_back_15 : decode cX4_back 15 = .ok (.bipush (-2), 2) := by decide +kernel
theorem dX4_back_17 : decode cX4_back 17 = .ok (.ireturn, 1) := by decide +kernel
theorem dX4_back_18 : decode cX4_back 18 = .ok (.aload_n 0, 1) := by decide +kernel
theorem dX4_back_19 : decode cX4_back 19 = .ok (.getfield 21, 3) := by decide +kernel
theorem dX4_back_22 : decode cX4_back 22 = .ok (.dup, 1) := by decide +kernel
theorem dX4_back_23 : decode cX4_back 23 = .ok (.getfield 76, 3) := by decide +kernel
theorem dX4_back_26 : decode cX4_back 26 = .ok (.iload_n 1, 1) := by decide +kernel
theorem dX4_back_27 : decode cX4_back 27 = .ok (.isub, 1) := by decide +kernel
theorem dX4_back_28 : decode cX4_back 28 = .ok (.putfield 76, 3) := by decide +kernel
theorem dX4_back_31 : decode cX4_back 31 = .ok (.aload_n 0, 1) := by decide +kernel
theorem dX4_back_32 : decode cX4_back 32 = .ok (.getfield 21, 3) := by decide +kernel
theorem dX4_back_35 : decode cX4_back 35 = .ok (.getfield 76, 3) := by decide +kernel
theorem dX4_back_38 : decode cX4_back 38 = .ok (.ireturn, 1) := by decide +kernel
set_option maxRecDepth 20000 in
theorem ggX4_kinds_X0_isSoft : GoodIn wsX4_kinds wsX0_isSoft := goodIn_r _ [6, 7, 8, 9, 10, 4, 11, 12, 13, 14, 15, 16, 17, 52, 53, 54, 55, 56, 57, 58] (by decide +kernel) (by decide +kernel)
set_option maxRecDepth 20000 in
theorem gX4_kinds_X0_isSoft_n100 : GoodIn wsX4_kinds (wsX0_isSoft) := ggX4_kinds_X0_isSoft
set_option maxRecDepth 20000 in
theorem ggX4_kinds_X1_areSo : GoodIn wsX4_kinds wsX1_areSo := goodIn_r _ [21, 22, 23, 24, 25, 26, 4, 27, 28, 29, 30, 31, 32, 33, 34, 35, 36, 37, 38, 39, 40, 7, 41, 59, 60, 61, 62, 52, 53, 54, 55, 56, 57, 58] (by decide +kernel) (by decide +kernel)
set_option maxRecDepth 20000 in
theorem gX4_kinds_X1_areSo_n165 : GoodIn wsX4_kinds (wsX1_areSo) := ggX4_kinds_X1_areSo
set_option maxRecDepth 20000 in
theorem ggX4_kinds_X4_bit : GoodIn wsX4_kinds wsX4_bit := goodIn_r _ [45] (by decide +kernel) (by decide +kernel)
set_option maxRecDepth 20000 in
theorem gX4_kinds_X4_bit : GoodIn wsX4_kinds (va_wsS RX4 169 yX4_bit wsX4_bit) := goodIn_app (goodIn_of _ (by decide +kernel)) ggX4_kinds_X4_bit
theorem dX4_kinds_0 : decode cX4_kinds 0 = .ok (.aload_n 0, 1) := by decide +kernel
theorem dX4_kinds_1 : decode cX4_kinds 1 = .ok (.getfield 14, 3) := by decide +kernel
theorem dX4_kinds_4 : decode cX4_kinds 4 = .ok (.iload_n 1, 1) := by decide +kernel
theorem dX4_kinds_5 : decode cX4_kinds 5 = .ok (.invokevirtual 100, 3) := by decide +kernel
theorem dX4_kinds_8 : decode cX4_kinds 8 = .ok (.ifCond .ne 5, 3) := by decide +kernel
theorem dX4_kinds_11 : decode cX4_kinds 11 = .ok (.iconst (-1), 1) := by decide +kernel
theorem dX4_kinds_12 : decode cX4_kinds 12 = .ok (.ireturn, 1) := by decide +kernel
theorem dX4_kinds_13 : decode cX4_kinds 13 = .ok (.aload_n 0, 1) := by decide +kernel
theorem dX4_kinds_14 : decode cX4_kinds 14 = .ok (.getfield 14, 3) := by decide +kernel
theorem dX4_kinds_17 : decode cX4_kinds 17 = .ok (.getfield 91, 3) := by decide +kernel
theorem dX4_kinds_20 : decode cX4_kinds 20 = .ok (.iload_n 1, 1) := by decide +kernel
theorem dX4_kinds_21 : decode cX4_kinds 21 = .ok (.iaload, 1) := by decide +kernel
theorem dX4_kinds_22 : decode cX4_kinds 22 = .ok (.istore_n 2, 1) := by decide +kernel
theorem dX4_kinds_23 : decode cX4_kinds 23 = .ok (.iconst 0, 1) := by decide +kernel
theorem dX4_kinds_24 : decode cX4_kinds 24 = .ok (.istore_n 3, 1) := by decide +kernel
theorem dX4_kinds_25 : decode cX4_kinds 25 = .ok (.iconst 0, 1) := by decide +kernel
theorem dX4_kinds_26 : decode cX4_kinds 26 = .ok (.istore 4, 2) := by decide +kernel
theorem dX4_kinds_28 : decode cX4_kinds 28 = .ok (.iload 4, 2) := by decide +kernel
theorem dX4_kinds_30 : decode cX4_kinds 30 = .ok (.iconst 2, 1) := by decide +kernel
theorem dX4_kinds_31 : decode cX4_kinds 31 = .ok (.if_icmp .gt 42, 3) := by decide +kernel
theorem dX4_kinds_34 : decode cX4_kinds 34 = .ok (.aload_n 0, 1) := by decide +kernel
theorem dX4_kinds_35 : decode cX4_kinds 35 = .ok (.getfield 14, 3) := by decide +kernel
theorem dX4_kinds_38 : decode cX4_kinds 38 = .ok (.getfield 91, 3) := by decide +kernel
theorem dX4_kinds_41 : decode cX4_kinds 41 = .ok (.iload_n 1, 1) := by decide +kernel
theorem dX4_kinds_42 : decode cX4_kinds 42 = .ok (.iload 4, 2) := by decide +kernel
theorem dX4_kinds_44 : decode cX4_kinds 44 = .ok (.iastore, 1) := by decide +kernel
theorem dX4_kinds_45 : decode cX4_kinds 45 = .ok (.aload_n 0, 1) := by decide +kernel
theorem dX4_kinds_46 : decode cX4_kinds 46 = .ok (.getfield 21, 3) := by decide +kernel
theorem dX4_kinds_49 : decode cX4_kinds 49 = .ok (.aload_n 0, 1) := by decide +kernel
theorem dX4_kinds_50 : decode cX4_kinds 50 = .ok (.getfield 14, 3) := by decide +kernel
theorem dX4_kinds_53 : decode cX4_kinds 53 = .ok (.invokevirtual 165, 3) := by decide +kernel
theorem dX4_kinds_56 : decode cX4_kinds 56 = .ok (.ifCond .eq 11, 3) := by decide +kernel
theorem dX4_kinds_59 : decode cX4_kinds 59 = .ok (.iload_n 3, 1) := by decide +kernel
theorem dX4_kinds_60 : decode cX4_kinds 60 = .ok (.iload 4, 2) := by decide +kernel
theorem dX4_kinds_62 : decode cX4_kinds 62 = .ok (.invokestatic 169, 3) := by decide +kernel
theorem dX4_kinds_65 : decode cX4_kinds 65 = .ok (.ior, 1) := by decide +kernel
theorem dX4_kinds_66 : decode cX4_kinds 66 = .ok (.istore_n 3, 1) := by decide +kernel
theorem dX4_kinds_67 : decode cX4_kinds 67 = .ok (.iinc 4 1, 3) := by decide +kernel
theorem dX4_kinds_70 : decode cX4_kinds 70 = .ok (.goto (-42), 3) := by decide +kernel
theorem dX4_kinds_73 : decode cX4_kinds 73 = .ok (.aload_n 0, 1) := by decide +kernel
theorem dX4_kinds_74 : decode cX4_kinds 74 = .ok (.getfield 14, 3) := by decide +kernel
theorem dX4_kinds_77 : decode cX4_kinds 77 = .ok (.getfield 91, 3) := by decide +kernel
theorem dX4_kinds_80 : decode cX4_kinds 80 = .ok (.iload_n 1, 1) := by decide +kernel
theorem dX4_kinds_81 : decode cX4_kinds 81 = .ok (.iload_n 2, 1) := by decide +kernel
theorem dX4_kinds_82 : decode cX4_kinds 82 = .ok (.iastore, 1) := by decide +kernel
theorem dX4_kinds_83 : decode cX4_kinds 83 = .ok (.iload_n 3, 1) := by decide +kernel
theorem dX4_kinds_84 : decode cX4_kinds 84 = .ok (.ireturn, 1) := by decide +kernel
set_option maxRecDepth 20000 in
theorem ggX4_paces_X0_stands : GoodIn wsX4_paces wsX0_stands := goodIn_r _ [6, 7, 43, 44, 45, 46, 47, 48, 49] (by decide +kernel) (by decide +kernel)
set_option maxRecDepth 20000 in
theorem gX4_paces_X0_stands_n106 : GoodIn wsX4_paces (wsX0_stands) := ggX4_paces_X0_stands
set_option maxRecDepth 20000 in
theorem ggX4_paces_X1_areSo : GoodIn wsX4_paces wsX1_areSo := goodIn_r _ [11, 12, 13, 14, 15, 16, 4, 17, 18, 19, 20, 21, 22, 23, 24, 25, 26, 27, 28, 29, 30, 31, 32, 50, 51, 52, 53, 43, 44, 45, 46, 47, 48, 49] (by decide +kernel) (by decide +kernel)
set_option maxRecDepth 20000 in
theorem gX4_paces_X1_areSo_n165 : GoodIn wsX4_paces (wsX1_areSo) := ggX4_paces_X1_areSo
set_option maxRecDepth 20000 in
theorem ggX4_paces_X4_bit : GoodIn wsX4_paces wsX4_bit := goodIn_r _ [36] (by decide +kernel) (by decide +kernel)
set_option maxRecDepth 20000 in
theorem gX4_paces_X4_bit : GoodIn wsX4_paces (va_wsS RX4 169 yX4_bit wsX4_bit) := goodIn_app (goodIn_of _ (by decide +kernel)) ggX4_paces_X4_bit
theorem dX4_paces_0 : decode cX4_paces 0 = .ok (.aload_n 0, 1) := by decide +kernel
theorem dX4_paces_1 : decode cX4_paces 1 = .ok (.getfield 14, 3) := by decide +kernel
theorem dX4_paces_4 : decode cX4_paces 4 = .ok (.invokevirtual 106, 3) := by decide +kernel
theorem dX4_paces_7 : decode cX4_paces 7 = .ok (.ifCond .ne 6, 3) := by decide +kernel
theorem dX4_paces_10 : decode cX4_paces 10 = .ok (.bipush (-3), 2) := by decide +kernel
theorem dX4_paces_12 : decode cX4_paces 12 = .ok (.ireturn, 1) := by decide +kernel
theorem dX4_paces_13 : decode cX4_paces 13 = .ok (.aload_n 0, 1) := by decide +kernel
theorem dX4_paces_14 : decode cX4_paces 14 = .ok (.getfield 14, 3) := by decide +kernel
theorem dX4_paces_17 : decode cX4_paces 17 = .ok (.getfield 110, 3) := by decide +kernel
theorem dX4_paces_20 : decode cX4_paces 20 = .ok (.istore_n 1, 1) := by decide +kernel
theorem dX4_paces_21 : decode cX4_paces 21 = .ok (.iconst 0, 1) := by decide +kernel
theorem dX4_paces_22 : decode cX4_paces 22 = .ok (.istore_n 2, 1) := by decide +kernel
theorem dX4_paces_23 : decode cX4_paces 23 = .ok (.iconst 1, 1) := by decide +kernel
theorem dX4_paces_24 : decode cX4_paces 24 = .ok (.istore_n 3, 1) := by decide +kernel
theorem dX4_paces_25 : decode cX4_paces 25 = .ok (.iload_n 3, 1) := by decide +kernel
theorem dX4_paces_26 : decode cX4_paces 26 = .ok (.iconst 3, 1) := by decide +kernel
theorem dX4_paces_27 : decode cX4_paces 27 = .ok (.if_icmp .gt 38, 3) := by decide +kernel
theorem dX4_paces_30 : decode cX4_paces 30 = .ok (.aload_n 0, 1) := by decide +kernel
theorem dX4_paces_31 : decode cX4_paces 31 = .ok (.getfield 14, 3) := by decide +kernel
theorem dX4_paces_34 : decode cX4_paces 34 = .ok (.iload_n 3, 1) := by decide +kernel
theorem dX4_paces_35 : decode cX4_paces 35 = .ok (.putfield 110, 3) := by decide +kernel
theorem dX4_paces_38 : decode cX4_paces 38 = .ok (.aload_n 0, 1) := by decide +kernel
theorem dX4_paces_39 : decode cX4_paces 39 = .ok (.getfield 21, 3) := by decide +kernel
theorem dX4_paces_42 : decode cX4_paces 42 = .ok (.aload_n 0, 1) := by decide +kernel
theorem dX4_paces_43 : decode cX4_paces 43 = .ok (.getfield 14, 3) := by decide +kernel
theorem dX4_paces_46 : decode cX4_paces 46 = .ok (.invokevirtual 165, 3) := by decide +kernel
theorem dX4_paces_49 : decode cX4_paces 49 = .ok (.ifCond .eq 10, 3) := by decide +kernel
theorem dX4_paces_52 : decode cX4_paces 52 = .ok (.iload_n 2, 1) := by decide +kernel
theorem dX4_paces_53 : decode cX4_paces 53 = .ok (.iload_n 3, 1) := by decide +kernel
theorem dX4_paces_54 : decode cX4_paces 54 = .ok (.invokestatic 169, 3) := by decide +kernel
theorem dX4_paces_57 : decode cX4_paces 57 = .ok (.ior, 1) := by decide +kernel
theorem dX4_paces_58 : decode cX4_paces 58 = .ok (.istore_n 2, 1) := by decide +kernel
theorem dX4_paces_59 : decode cX4_paces 59 = .ok (.iinc 3 1, 3) := by decide +kernel
theorem dX4_paces_62 : decode cX4_paces 62 = .ok (.goto (-37), 3) := by decide +kernel
theorem dX4_paces_65 : decode cX4_paces 65 = .ok (.aload_n 0, 1) := by decide +kernel
theorem dX4_paces_66 : decode cX4_paces 66 = .ok (.getfield 14, 3) := by decide +kernel
theorem dX4_paces_69 : decode cX4_paces 69 = .ok (.iload_n 1, 1) := by decide +kernel
theorem dX4_paces_70 : decode cX4_paces 70 = .ok (.putfield 110, 3) := by decide +kernel
theorem dX4_paces_73 : decode cX4_paces 73 = .ok (.iload_n 2, 1) := by decide +kernel
theorem dX4_paces_74 : decode cX4_paces 74 = .ok (.ireturn, 1) := by decide +kernel
set_option maxRecDepth 20000 in
theorem ggX4_eatings_X0_isSoft : GoodIn wsX4_eatings wsX0_isSoft := goodIn_r _ [6, 7, 8, 9, 10, 4, 11, 12, 13, 14, 15, 16, 17, 52, 53, 54, 55, 56, 57, 58] (by decide +kernel) (by decide +kernel)
set_option maxRecDepth 20000 in
theorem gX4_eatings_X0_isSoft_n100 : GoodIn wsX4_eatings (wsX0_isSoft) := ggX4_eatings_X0_isSoft
set_option maxRecDepth 20000 in
theorem ggX4_eatings_X1_areSo : GoodIn wsX4_eatings wsX1_areSo := goodIn_r _ [21, 22, 23, 24, 25, 26, 4, 27, 28, 29, 30, 31, 32, 33, 34, 35, 36, 37, 38, 39, 40, 7, 41, 59, 60, 61, 62, 52, 53, 54, 55, 56, 57, 58] (by decide +kernel) (by decide +kernel)
set_option maxRecDepth 20000 in
theorem gX4_eatings_X1_areSo_n165 : GoodIn wsX4_eatings (wsX1_areSo) := ggX4_eatings_X1_areSo
set_option maxRecDepth 20000 in
theorem ggX4_eatings_X4_bit : GoodIn wsX4_eatings wsX4_bit := goodIn_r _ [45] (by decide +kernel) (by decide +kernel)
set_option maxRecDepth 20000 in
theorem gX4_eatings_X4_bit : GoodIn wsX4_eatings (va_wsS RX4 169 yX4_bit wsX4_bit) := goodIn_app (goodIn_of _ (by decide +kernel)) ggX4_eatings_X4_bit
theorem dX4_eatings_0 : decode cX4_eatings 0 = .ok (.aload_n 0, 1) := by decide +kernel
theorem dX4_eatings_1 : decode cX4_eatings 1 = .ok (.getfield 14, 3) := by decide +kernel
theorem dX4_eatings_4 : decode cX4_eatings 4 = .ok (.iload_n 1, 1) := by decide +kernel
theorem dX4_eatings_5 : decode cX4_eatings 5 = .ok (.invokevirtual 100, 3) := by decide +kernel
theorem dX4_eatings_8 : decode cX4_eatings 8 = .ok (.ifCond .ne 5, 3) := by decide +kernel
theorem dX4_eatings_11 : decode cX4_eatings 11 = .ok (.iconst (-1), 1) := by decide +kernel
theorem dX4_eatings_12 : decode cX4_eatings 12 = .ok (.ireturn, 1) := by decide +kernel
theorem dX4_eatings_13 : decode cX4_eatings 13 = .ok (.aload_n 0, 1) := by decide +kernel
theorem dX4_eatings_14 : decode cX4_eatings 14 = .ok (.getfield 14, 3) := by decide +kernel
theorem dX4_eatings_17 : decode cX4_eatings 17 = .ok (.getfield 97, 3) := by decide +kernel
theorem dX4_eatings_20 : decode cX4_eatings 20 = .ok (.iload_n 1, 1) := by decide +kernel
theorem dX4_eatings_21 : decode cX4_eatings 21 = .ok (.iaload, 1) := by decide +kernel
theorem dX4_eatings_22 : decode cX4_eatings 22 = .ok (.istore_n 2, 1) := by decide +kernel
theorem dX4_eatings_23 : decode cX4_eatings 23 = .ok (.iconst 0, 1) := by decide +kernel
theorem dX4_eatings_24 : decode cX4_eatings 24 = .ok (.istore_n 3, 1) := by decide +kernel
theorem dX4_eatings_25 : decode cX4_eatings 25 = .ok (.iconst 0, 1) := by decide +kernel
theorem dX4_eatings_26 : decode cX4_eatings 26 = .ok (.istore 4, 2) := by decide +kernel
theorem dX4_eatings_28 : decode cX4_eatings 28 = .ok (.iload 4, 2) := by decide +kernel
theorem dX4_eatings_30 : decode cX4_eatings 30 = .ok (.bipush 9, 2) := by decide +kernel
theorem dX4_eatings_32 : decode cX4_eatings 32 = .ok (.if_icmp .gt 42, 3) := by decide +kernel
theorem dX4_eatings_35 : decode cX4_eatings 35 = .ok (.aload_n 0, 1) := by decide +kernel
theorem dX4_eatings_36 : decode cX4_eatings 36 = .ok (.getfield 14, 3) := by decide +kernel
theorem dX4_eatings_39 : decode cX4_eatings 39 = .ok (.getfield 97, 3) := by decide +kernel
theorem dX4_eatings_42 : decode cX4_eatings 42 = .ok (.iload_n 1, 1) := by decide +kernel
theorem dX4_eatings_43 : decode cX4_eatings 43 = .ok (.iload 4, 2) := by decide +kernel
theorem dX4_eatings_45 : decode cX4_eatings 45 = .ok (.iastore, 1) := by decide +kernel
theorem dX4_eatings_46 : decode cX4_eatings 46 = .ok (.aload_n 0, 1) := by decide +kernel
theorem dX4_eatings_47 : decode cX4_eatings 47 = .ok (.getfield 21, 3) := by decide +kernel
theorem dX4_eatings_50 : decode cX4_eatings 50 = .ok (.aload_n 0, 1) := by decide +kernel
theorem dX4_eatings_51 : decode cX4_eatings 51 = .ok (.getfield 14, 3) := by decide +kernel
theorem dX4_eatings_54 : decode cX4_eatings 54 = .ok (.invokevirtual 165, 3) := by decide +kernel
theorem dX4_eatings_57 : decode cX4_eatings 57 = .ok (.ifCond .eq 11, 3) := by decide +kernel
theorem dX4_eatings_60 : decode cX4_eatings 60 = .ok (.iload_n 3, 1) := by decide +kernel
theorem dX4_eatings_61 : decode cX4_eatings 61 = .ok (.iload 4, 2) := by decide +kernel
theorem dX4_eatings_63 : decode cX4_eatings 63 = .ok (.invokestatic 169, 3) := by decide +kernel
theorem dX4_eatings_66 : decode cX4_eatings 66 = .ok (.ior, 1) := by decide +kernel
theorem dX4_eatings_67 : decode cX4_eatings 67 = .ok (.istore_n 3, 1) := by decide +kernel
theorem dX4_eatings_68 : decode cX4_eatings 68 = .ok (.iinc 4 1, 3) := by decide +kernel
theorem dX4_eatings_71 : decode cX4_eatings 71 = .ok (.goto (-43), 3) := by decide +kernel
theorem dX4_eatings_74 : decode cX4_eatings 74 = .ok (.aload_n 0, 1) := by decide +kernel
theorem dX4_eatings_75 : decode cX4_eatings 75 = .ok (.getfield 14, 3) := by decide +kernel
theorem dX4_eatings_78 : decode cX4_eatings 78 = .ok (.getfield 97, 3) := by decide +kernel
theorem dX4_eatings_81 : decode cX4_eatings 81 = .ok (.iload_n 1, 1) := by decide +kernel
theorem dX4_eatings_82 : decode cX4_eatings 82 = .ok (.iload_n 2, 1) := by decide +kernel
theorem dX4_eatings_83 : decode cX4_eatings 83 = .ok (.iastore, 1) := by decide +kernel
theorem dX4_eatings_84 : decode cX4_eatings 84 = .ok (.iload_n 3, 1) := by decide +kernel
theorem dX4_eatings_85 : decode cX4_eatings 85 = .ok (.ireturn, 1) := by decide +kernel
set_option maxRecDepth 20000 in
theorem ggX4_odds_X0_has : GoodIn wsX4_odds wsX0_has := goodIn_r _ [11, 12, 13, 14, 9, 15, 16, 17, 72, 73, 74, 75, 76, 77, 78] (by decide +kernel) (by decide +kernel)
set_option maxRecDepth 20000 in
theorem gX4_odds_X0_has_n88 : GoodIn wsX4_odds (wsX0_has) := ggX4_odds_X0_has
set_option maxRecDepth 20000 in
theorem ggX4_odds_X4_isWeeks : GoodIn wsX4_odds wsX4_isWeeks := goodIn_r _ [21] (by decide +kernel) (by decide +kernel)
set_option maxRecDepth 20000 in
theorem gX4_odds_X4_isWeeks : GoodIn wsX4_odds (va_wsS RX4 116 yX4_isWeeks wsX4_isWeeks) := goodIn_app (goodIn_of _ (by decide +kernel)) ggX4_odds_X4_isWeeks
set_option maxRecDepth 20000 in
theorem ggX4_odds_X0_isRipe : GoodIn wsX4_odds wsX0_isRipe := goodIn_r _ [24, 25, 26, 27, 28, 29, 9, 30, 31, 32, 33, 6, 34, 35, 36, 37, 38, 39, 40, 41, 42, 72, 73, 74, 75, 76, 77, 78] (by decide +kernel) (by decide +kernel)
set_option maxRecDepth 20000 in
theorem gX4_odds_X0_isRipe_n126 : GoodIn wsX4_odds (wsX0_isRipe) := ggX4_odds_X0_isRipe
set_option maxRecDepth 20000 in
theorem ggX4_odds_X0_ripeCells : GoodIn wsX4_odds wsX0_ripeCells := goodIn_r _ [45, 12, 13, 14, 9, 15, 16, 17, 46, 22, 23, 24, 25, 26, 27, 28, 29, 30, 31, 32, 33, 6, 34, 35, 36, 37, 38, 39, 40, 41, 42, 47, 20, 48, 72, 73, 74, 75, 76, 77, 78] (by decide +kernel) (by decide +kernel)
set_option maxRecDepth 20000 in
theorem gX4_odds_X0_ripeCells_n123 : GoodIn wsX4_odds (wsX0_ripeCells) := ggX4_odds_X0_ripeCells
set_option maxRecDepth 20000 in
theorem ggX4_odds_X4_without : GoodIn wsX4_odds wsX4_without := goodIn_r _ [51, 52, 47, 20, 48] (by decide +kernel) (by decide +kernel)
set_option maxRecDepth 20000 in
theorem gX4_odds_X4_without : GoodIn wsX4_odds (va_wsS RX4 174 yX4_without wsX4_without) := goodIn_app (goodIn_of _ (by decide +kernel)) ggX4_odds_X4_without
set_option maxRecDepth 20000 in
theorem ggX4_odds_X4_oddsOn : GoodIn wsX4_odds wsX4_oddsOn := goodIn_r _ [55, 56, 9, 57, 58, 59, 60, 61, 20, 62, 52, 47, 48, 49, 50, 51, 53, 54, 72, 73, 74, 75, 76, 77, 78] (by decide +kernel) (by decide +kernel)
set_option maxRecDepth 20000 in
theorem gX4_odds_X4_oddsOn : GoodIn wsX4_odds (va_wsS RX4 179 yX4_oddsOn wsX4_oddsOn) := goodIn_app (goodIn_of _ (by decide +kernel)) ggX4_odds_X4_oddsOn
set_option maxRecDepth 20000 in
theorem ggX4_odds_X4_commonDivisor : GoodIn wsX4_odds wsX4_commonDivisor := goodIn_r _ [65] (by decide +kernel) (by decide +kernel)
set_option maxRecDepth 20000 in
theorem gX4_odds_X4_commonDivisor : GoodIn wsX4_odds (va_wsS RX4 183 yX4_commonDivisor wsX4_commonDivisor) := goodIn_app (goodIn_of _ (by decide +kernel)) ggX4_odds_X4_commonDivisor
theorem dX4_odds_0 : decode cX4_odds 0 = .ok (.aload_n 0, 1) := by decide +kernel
theorem dX4_odds_1 : decode cX4_odds 1 = .ok (.getfield 14, 3) := by decide +kernel
theorem dX4_odds_4 : decode cX4_odds 4 = .ok (.iload_n 2, 1) := by decide +kernel
theorem dX4_odds_5 : decode cX4_odds 5 = .ok (.invokevirtual 88, 3) := by decide +kernel
theorem dX4_odds_8 : decode cX4_odds 8 = .ok (.ifCond .eq 31, 3) := by decide +kernel
theorem dX4_odds_11 : decode cX4_odds 11 = .ok (.iload_n 1, 1) := by decide +kernel
theorem dX4_odds_12 : decode cX4_odds 12 = .ok (.invokestatic 116, 3) := by decide +kernel
theorem dX4_odds_15 : decode cX4_odds 15 = .ok (.ifCond .eq 24, 3) := by decide +kernel
theorem dX4_odds_18 : decode cX4_odds 18 = .ok (.iload_n 3, 1) := by decide +kernel
theorem dX4_odds_19 : decode cX4_odds 19 = .ok (.ifCond .lt 20, 3) := by decide +kernel
theorem dX4_odds_22 : decode cX4_odds 22 = .ok (.iload_n 3, 1) := by decide +kernel
theorem dX4_odds_23 : decode cX4_odds 23 = .ok (.iconst 1, 1) := by decide +kernel
theorem dX4_odds_24 : decode cX4_odds 24 = .ok (.if_icmp .gt 15, 3) := by decide +kernel
theorem dX4_odds_27 : decode cX4_odds 27 = .ok (.aload_n 0, 1) := by decide +kernel
theorem dX4_odds_28 : decode cX4_odds 28 = .ok (.getfield 14, 3) := by decide +kernel
theorem dX4_odds_31 : decode cX4_odds 31 = .ok (.iload_n 2, 1) := by decide +kernel
theorem dX4_odds_32 : decode cX4_odds 32 = .ok (.iload_n 1, 1) := by decide +kernel
theorem dX4_odds_33 : decode cX4_odds 33 = .ok (.invokevirtual 126, 3) := by decide +kernel
theorem dX4_odds_36 : decode cX4_odds 36 = .ok (.ifCond .ne 7, 3) := by decide +kernel
theorem dX4_odds_39 : decode cX4_odds 39 = .ok (.ldc2_w 172, 3) := by decide +kernel
theorem dX4_odds_42 : decode cX4_odds 42 = .ok (.lreturn, 1) := by decide +kernel
theorem dX4_odds_43 : decode cX4_odds 43 = .ok (.aload_n 0, 1) := by decide +kernel
theorem dX4_odds_44 : decode cX4_odds 44 = .ok (.getfield 14, 3) := by decide +kernel
theorem dX4_odds_47 : decode cX4_odds 47 = .ok (.iload_n 2, 1) := by decide +kernel
theorem dX4_odds_48 : decode cX4_odds 48 = .ok (.aload_n 0, 1) := by decide +kernel
theorem dX4_odds_49 : decode cX4_odds 49 = .ok (.getfield 14, 3) := by decide +kernel
theorem dX4_odds_52 : decode cX4_odds 52 = .ok (.iload_n 1, 1) := by decide +kernel
theorem dX4_odds_53 : decode cX4_odds 53 = .ok (.invokevirtual 123, 3) := by decide +kernel
theorem dX4_odds_56 : decode cX4_odds 56 = .ok (.iload_n 2, 1) := by decide +kernel
theorem dX4_odds_57 : decode cX4_odds 57 = .ok (.invokestatic 174, 3) := by decide +kernel
theorem dX4_odds_60 : decode cX4_odds 60 = .ok (.ldc2_w 177, 3) := by decide +kernel
theorem dX4_odds_63 : decode cX4_odds 63 = .ok (.iconst 1, 1) := by decide +kernel
theorem dX4_odds_64 : decode cX4_odds 64 = .ok (.invokestatic 179, 3) := by decide +kernel
theorem dX4_odds_67 : decode cX4_odds 67 = .ok (.lstore 4, 2) := by decide +kernel
theorem dX4_odds_69 : decode cX4_odds 69 = .ok (.lconst 1, 1) := by decide +kernel
theorem dX4_odds_70 : decode cX4_odds 70 = .ok (.ldc2_w 177, 3) := by decide +kernel
theorem dX4_odds_73 : decode cX4_odds 73 = .ok (.lload 4, 2) := by decide +kernel
theorem dX4_odds_75 : decode cX4_odds 75 = .ok (.invokestatic 183, 3) := by decide +kernel
theorem dX4_odds_78 : decode cX4_odds 78 = .ok (.invokestatic 187, 3) := by decide +kernel
theorem dX4_odds_81 : decode cX4_odds 81 = .ok (.lstore 6, 2) := by decide +kernel
theorem dX4_odds_83 : decode cX4_odds 83 = .ok (.iload_n 3, 1) := by decide +kernel
theorem dX4_odds_84 : decode cX4_odds 84 = .ok (.ifCond .ne 8, 3) := by decide +kernel
theorem dX4_odds_87 : decode cX4_odds 87 = .ok (.lload 4, 2) := by decide +kernel
theorem dX4_odds_89 : decode cX4_odds 89 = .ok (.goto 6, 3) := by decide +kernel
theorem dX4_odds_92 : decode cX4_odds 92 = .ok (.ldc2_w 177, 3) := by decide +kernel
theorem dX4_odds_95 : decode cX4_odds 95 = .ok (.lload 6, 2) := by decide +kernel
theorem dX4_odds_97 : decode cX4_odds 97 = .ok (.ldiv, 1) := by decide +kernel
theorem dX4_odds_98 : decode cX4_odds 98 = .ok (.lreturn, 1) := by decide +kernel
set_option maxRecDepth 20000 in
theorem ggX4_sheet_X4_isSheet : GoodIn wsX4_sheet wsX4_isSheet := goodIn_r _ [6] (by decide +kernel) (by decide +kernel)
set_option maxRecDepth 20000 in
theorem gX4_sheet_X4_isSheet : GoodIn wsX4_sheet (va_wsS RX4 46 yX4_isSheet wsX4_isSheet) := goodIn_app (goodIn_of _ (by decide +kernel)) ggX4_sheet_X4_isSheet
set_option maxRecDepth 20000 in
theorem ggX4_sheet_X4_isLane : GoodIn wsX4_sheet wsX4_isLane := goodIn_r _ [9] (by decide +kernel) (by decide +kernel)
set_option maxRecDepth 20000 in
theorem gX4_sheet_X4_isLane : GoodIn wsX4_sheet (va_wsS RX4 50 yX4_isLane wsX4_isLane) := goodIn_app (goodIn_of _ (by decide +kernel)) ggX4_sheet_X4_isLane
set_option maxRecDepth 20000 in
theorem ggX4_sheet_X4_failed : GoodIn wsX4_sheet wsX4_failed := goodIn_r _ [13, 1, 22, 23, 24, 25, 26, 27] (by decide +kernel) (by decide +kernel)
set_option maxRecDepth 20000 in
theorem gX4_sheet_X4_failed : GoodIn wsX4_sheet (wsV RX4 61 RX4 yX4_failed wsX4_failed) := goodIn_app (goodIn_of _ (by decide +kernel)) ggX4_sheet_X4_failed
set_option maxRecDepth 20000 in
theorem ggX4_sheet_X3_renew : GoodIn wsX4_sheet wsX3_renew := goodIn_r _ [17, 18, 19, 20, 21, 28, 29, 30, 31] (by decide +kernel) (by decide +kernel)
set_option maxRecDepth 20000 in
theorem gX4_sheet_X3_renew_n192 : GoodIn wsX4_sheet (wsX3_renew) := ggX4_sheet_X3_renew
theorem dX4_sheet_0 : decode cX4_sheet 0 = .ok (.aload_n 0, 1) := by decide +kernel
theorem dX4_sheet_1 : decode cX4_sheet 1 = .ok (.iconst 0, 1) := by decide +kernel
theorem dX4_sheet_2 : decode cX4_sheet 2 = .ok (.putfield 38, 3) := by decide +kernel
theorem dX4_sheet_5 : decode cX4_sheet 5 = .ok (.iload_n 1, 1) := by decide +kernel
theorem dX4_sheet_6 : decode cX4_sheet 6 = .ok (.invokestatic 46, 3) := by decide +kernel
theorem dX4_sheet_9 : decode cX4_sheet 9 = .ok (.ifCond .ne 5, 3) := by decide +kernel
theorem dX4_sheet_12 : decode cX4_sheet 12 = .ok (.iconst (-1), 1) := by decide +kernel
theorem dX4_sheet_13 : decode cX4_sheet 13 = .ok (.ireturn, 1) := by decide +kernel
theorem dX4_sheet_14 : decode cX4_sheet 14 = .ok (.iload_n 2, 1) := by decide +kernel
theorem dX4_sheet_15 : decode cX4_sheet 15 = .ok (.invokestatic 50, 3) := by decide +kernel
theorem dX4_sheet_18 : decode cX4_sheet 18 = .ok (.ifCond .eq 9, 3) := by decide +kernel
theorem dX4_sheet_21 : decode cX4_sheet 21 = .ok (.iload_n 3, 1) := by decide +kernel
theorem dX4_sheet_22 : decode cX4_sheet 22 = .ok (.bipush 60, 2) := by decide +kernel
theorem dX4_sheet_24 : decode cX4_sheet 24 = .ok (.if_icmp .le 6, 3) := by decide +kernel
theorem dX4_sheet_27 : decode cX4_sheet 27 = .ok (.bipush (-2), 2) := by decide +kernel
theorem dX4_sheet_29 : decode cX4_sheet 29 = .ok (.ireturn, 1) := by decide +kernel
theorem dX4_sheet_30 : decode cX4_sheet 30 = .ok (.iload_n 3, 1) := by decide +kernel
theorem dX4_sheet_31 : decode cX4_sheet 31 = .ok (.ifCond .ge 9, 3) := by decide +kernel
theorem dX4_sheet_34 : decode cX4_sheet 34 = .ok (.aload_n 0, 1) := by decide +kernel
theorem dX4_sheet_35 : decode cX4_sheet 35 = .ok (.iconst 4, 1) := by decide +kernel
theorem dX4_sheet_36 : decode cX4_sheet 36 = .ok (.invokevirtual 61, 3) := by decide +kernel
theorem dX4_sheet_39 : decode cX4_sheet 39 = .ok (.ireturn, 1) := by decide +kernel
theorem dX4_sheet_40 : decode cX4_sheet 40 = .ok (.aload_n 0, 1) := by decide +kernel
theorem dX4_sheet_41 : decode cX4_sheet 41 = .ok (.getfield 34, 3) := by decide +kernel
theorem dX4_sheet_44 : decode cX4_sheet 44 = .ok (.iload_n 1, 1) := by decide +kernel
theorem dX4_sheet_45 : decode cX4_sheet 45 = .ok (.aaload, 1) := by decide +kernel
theorem dX4_sheet_46 : decode cX4_sheet 46 = .ok (.iload_n 2, 1) := by decide +kernel
theorem dX4_sheet_47 : decode cX4_sheet 47 = .ok (.iload_n 3, 1) := by decide +kernel
theorem dX4_sheet_48 : decode cX4_sheet 48 = .ok (.invokevirtual 192, 3) := by decide +kernel
theorem dX4_sheet_51 : decode cX4_sheet 51 = .ok (.iconst 1, 1) := by decide +kernel
theorem dX4_sheet_52 : decode cX4_sheet 52 = .ok (.ireturn, 1) := by decide +kernel
set_option maxRecDepth 20000 in
theorem ggX4_lose_X4_isSheet : GoodIn wsX4_lose wsX4_isSheet := goodIn_r _ [5] (by decide +kernel) (by decide +kernel)
set_option maxRecDepth 20000 in
theorem gX4_lose_X4_isSheet : GoodIn wsX4_lose (va_wsS RX4 46 yX4_isSheet wsX4_isSheet) := goodIn_app (goodIn_of _ (by decide +kernel)) ggX4_lose_X4_isSheet
theorem dX4_lose_0 : decode cX4_lose 0 = .ok (.iload_n 1, 1) := by decide +kernel
theorem dX4_lose_1 : decode cX4_lose 1 = .ok (.invokestatic 46, 3) := by decide +kernel
theorem dX4_lose_4 : decode cX4_lose 4 = .ok (.ifCond .ne 5, 3) := by decide +kernel
theorem dX4_lose_7 : decode cX4_lose 7 = .ok (.iconst (-1), 1) := by decide +kernel
theorem dX4_lose_8 : decode cX4_lose 8 = .ok (.ireturn, 1) := by decide +kernel
theorem dX4_lose_9 : decode cX4_lose 9 = .ok (.aload_n 0, 1) := by decide +kernel
theorem dX4_lose_10 : decode cX4_lose 10 = .ok (.getfield 34, 3) := by decide +kernel
theorem dX4_lose_13 : decode cX4_lose 13 = .ok (.iload_n 1, 1) := by decide +kernel
theorem dX4_lose_14 : decode cX4_lose 14 = .ok (.aaload, 1) := by decide +kernel
theorem dX4_lose_15 : decode cX4_lose 15 = .ok (.getfield 196, 3) := by decide +kernel
theorem dX4_lose_18 : decode cX4_lose 18 = .ok (.ifCond .eq 7, 3) := by decide +kernel
theorem dX4_lose_21 : decode cX4_lose 21 = .ok (.iconst 1, 1) := by decide +kernel
theorem dX4_lose_22 : decode cX4_lose 22 = .ok (.goto 4, 3) := by decide +kernel
theorem dX4_lose_25 : decode cX4_lose 25 = .ok (.iconst 0, 1) := by decide +kernel
theorem dX4_lose_26 : decode cX4_lose 26 = .ok (.istore_n 2, 1) := by decide +kernel
theorem dX4_lose_27 : decode cX4_lose 27 = .ok (.aload_n 0, 1) := by decide +kernel
theorem dX4_lose_28 : decode cX4_lose 28 = .ok (.getfield 34, 3) := by decide +kernel
theorem dX4_lose_31 : decode cX4_lose 31 = .ok (.iload_n 1, 1) := by decide +kernel
theorem dX4_lose_32 : decode cX4_lose 32 = .ok (.aaload, 1) := by decide +kernel
theorem dX4_lose_33 : decode cX4_lose 33 = .ok (.iconst 0, 1) := by decide +kernel
theorem dX4_lose_34 : decode cX4_lose 34 = .ok (.putfield 196, 3) := by decide +kernel
theorem dX4_lose_37 : decode cX4_lose 37 = .ok (.iload_n 2, 1) := by decide +kernel
theorem dX4_lose_38 : decode cX4_lose 38 = .ok (.ireturn, 1) := by decide +kernel
set_option maxRecDepth 20000 in
theorem ggX4_put_X4_isSheet : GoodIn wsX4_put wsX4_isSheet := goodIn_r _ [6] (by decide +kernel) (by decide +kernel)
set_option maxRecDepth 20000 in
theorem gX4_put_X4_isSheet : GoodIn wsX4_put (va_wsS RX4 46 yX4_isSheet wsX4_isSheet) := goodIn_app (goodIn_of _ (by decide +kernel)) ggX4_put_X4_isSheet
set_option maxRecDepth 20000 in
theorem ggX4_put_X4_failed : GoodIn wsX4_put wsX4_failed := goodIn_r _ [10, 1, 20, 21, 22, 23, 24, 25] (by decide +kernel) (by decide +kernel)
set_option maxRecDepth 20000 in
theorem gX4_put_X4_failed : GoodIn wsX4_put (wsV RX4 61 RX4 yX4_failed wsX4_failed) := goodIn_app (goodIn_of _ (by decide +kernel)) ggX4_put_X4_failed
set_option maxRecDepth 20000 in
theorem ggX4_put_X3_holds : GoodIn wsX4_put wsX3_holds := goodIn_r _ [14, 15, 26, 27, 28, 29] (by decide +kernel) (by decide +kernel)
set_option maxRecDepth 20000 in
theorem gX4_put_X3_holds_n200 : GoodIn wsX4_put (wsX3_holds) := ggX4_put_X3_holds
set_option maxRecDepth 20000 in
theorem ggX4_put_X3_cut : GoodIn wsX4_put wsX3_cut := goodIn_r _ [18, 19, 26, 27, 28, 29] (by decide +kernel) (by decide +kernel)
set_option maxRecDepth 20000 in
theorem gX4_put_X3_cut_n203 : GoodIn wsX4_put (wsX3_cut) := ggX4_put_X3_cut
theorem dX4_put_0 : decode cX4_put 0 = .ok (.aload_n 0, 1) := by decide +kernel
theorem dX4_put_1 : decode cX4_put 1 = .ok (.iconst 0, 1) := by decide +kernel
theorem dX4_put_2 : decode cX4_put 2 = .ok (.putfield 38, 3) := by decide +kernel
theorem dX4_put_5 : decode cX4_put 5 = .ok (.iload_n 1, 1) := by decide +kernel
theorem dX4_put_6 : decode cX4_put 6 = .ok (.invokestatic 46, 3) := by decide +kernel
theorem dX4_put_9 : decode cX4_put 9 = .ok (.ifCond .ne 5, 3) := by decide +kernel
theorem dX4_put_12 : decode cX4_put 12 = .ok (.iconst (-1), 1) := by decide +kernel
theorem dX4_put_13 : decode cX4_put 13 = .ok (.ireturn, 1) := by decide +kernel
theorem dX4_put_14 : decode cX4_put 14 = .ok (.aload_n 0, 1) := by decide +kernel
theorem dX4_put_15 : decode cX4_put 15 = .ok (.getfield 34, 3) := by decide +kernel
theorem dX4_put_18 : decode cX4_put 18 = .ok (.iload_n 1, 1) := by decide +kernel
theorem dX4_put_19 : decode cX4_put 19 = .ok (.aaload, 1) := by decide +kernel
theorem dX4_put_20 : decode cX4_put 20 = .ok (.astore 4, 2) := by decide +kernel
theorem dX4_put_22 : decode cX4_put 22 = .ok (.aload 4, 2) := by decide +kernel
theorem dX4_put_24 : decode cX4_put 24 = .ok (.getfield 196, 3) := by decide +kernel
theorem dX4_put_27 : decode cX4_put 27 = .ok (.ifCond .ne 9, 3) := by decide +kernel
theorem dX4_put_30 : decode cX4_put 30 = .ok (.aload_n 0, 1) := by decide +kernel
theorem dX4_put_31 : decode cX4_put 31 = .ok (.iconst 1, 1) := by decide +kernel
theorem dX4_put_32 : decode cX4_put 32 = .ok (.invokevirtual 61, 3) := by decide +kernel
theorem dX4_put_35 : decode cX4_put 35 = .ok (.ireturn, 1) := by decide +kernel
theorem dX4_put_36 : decode cX4_put 36 = .ok (.aload 4, 2) := by decide +kernel
theorem dX4_put_38 : decode cX4_put 38 = .ok (.iload_n 2, 1) := by decide +kernel
theorem dX4_put_39 : decode cX4_put 39 = .ok (.invokevirtual 200, 3) := by decide +kernel
theorem dX4_put_42 : decode cX4_put 42 = .ok (.ifCond .ne 9, 3) := by decide +kernel
theorem dX4_put_45 : decode cX4_put 45 = .ok (.aload_n 0, 1) := by decide +kernel
theorem dX4_put_46 : decode cX4_put 46 = .ok (.iconst 3, 1) := by decide +kernel
theorem dX4_put_47 : decode cX4_put 47 = .ok (.invokevirtual 61, 3) := by decide +kernel
theorem dX4_put_50 : decode cX4_put 50 = .ok (.ireturn, 1) := by decide +kernel
theorem dX4_put_51 : decode cX4_put 51 = .ok (.aload 4, 2) := by decide +kernel
theorem dX4_put_53 : decode cX4_put 53 = .ok (.getfield 64, 3) := by decide +kernel
theorem dX4_put_56 : decode cX4_put 56 = .ok (.iload_n 2, 1) := by decide +kernel
theorem dX4_put_57 : decode cX4_put 57 = .ok (.aload 4, 2) := by decide +kernel
theorem dX4_put_59 : decode cX4_put 59 = .ok (.iload_n 3, 1) := by decide +kernel
theorem dX4_put_60 : decode cX4_put 60 = .ok (.invokevirtual 203, 3) := by decide +kernel
theorem dX4_put_63 : decode cX4_put 63 = .ok (.iastore, 1) := by decide +kernel
theorem dX4_put_64 : decode cX4_put 64 = .ok (.iconst 1, 1) := by decide +kernel
theorem dX4_put_65 : decode cX4_put 65 = .ok (.ireturn, 1) := by decide +kernel
set_option maxRecDepth 20000 in
theorem ggX4_cell_X4_isSheet : GoodIn wsX4_cell wsX4_isSheet := goodIn_r _ [7] (by decide +kernel) (by decide +kernel)
set_option maxRecDepth 20000 in
theorem gX4_cell_X4_isSheet : GoodIn wsX4_cell (va_wsS RX4 46 yX4_isSheet wsX4_isSheet) := goodIn_app (goodIn_of _ (by decide +kernel)) ggX4_cell_X4_isSheet
set_option maxRecDepth 20000 in
theorem ggX4_cell_X4_isLane : GoodIn wsX4_cell wsX4_isLane := goodIn_r _ [10] (by decide +kernel) (by decide +kernel)
set_option maxRecDepth 20000 in
theorem gX4_cell_X4_isLane : GoodIn wsX4_cell (va_wsS RX4 50 yX4_isLane wsX4_isLane) := goodIn_app (goodIn_of _ (by decide +kernel)) ggX4_cell_X4_isLane
set_option maxRecDepth 20000 in
theorem ggX4_cell_X3_faultAs : GoodIn wsX4_cell wsX3_faultAs := goodIn_r _ [14, 15, 16, 27, 28, 29, 30] (by decide +kernel) (by decide +kernel)
set_option maxRecDepth 20000 in
theorem gX4_cell_X3_faultAs_n53 : GoodIn wsX4_cell (wsX3_faultAs) := ggX4_cell_X3_faultAs
set_option maxRecDepth 20000 in
theorem ggX4_cell_X3_holds : GoodIn wsX4_cell wsX3_holds := goodIn_r _ [19, 20, 27, 28, 29, 30] (by decide +kernel) (by decide +kernel)
set_option maxRecDepth 20000 in
theorem gX4_cell_X3_holds_n200 : GoodIn wsX4_cell (wsX3_holds) := ggX4_cell_X3_holds
theorem dX4_cell_0 : decode cX4_cell 0 = .ok (.aload_n 0, 1) := by decide +kernel
theorem dX4_cell_1 : decode cX4_cell 1 = .ok (.iconst 0, 1) := by decide +kernel
theorem dX4_cell_2 : decode cX4_cell 2 = .ok (.putfield 38, 3) := by decide +kernel
theorem dX4_cell_5 : decode cX4_cell 5 = .ok (.iload_n 1, 1) := by decide +kernel
theorem dX4_cell_6 : decode cX4_cell 6 = .ok (.invokestatic 46, 3) := by decide +kernel
theorem dX4_cell_9 : decode cX4_cell 9 = .ok (.ifCond .eq 10, 3) := by decide +kernel
theorem dX4_cell_12 : decode cX4_cell 12 = .ok (.iload_n 3, 1) := by decide +kernel
theorem dX4_cell_13 : decode cX4_cell 13 = .ok (.invokestatic 50, 3) := by decide +kernel
theorem dX4_cell_16 : decode cX4_cell 16 = .ok (.ifCond .ne 7, 3) := by decide +kernel
theorem dX4_cell_19 : decode cX4_cell 19 = .ok (.ldc2_w 172, 3) := by decide +kernel
theorem dX4_cell_22 : decode cX4_cell 22 = .ok (.lreturn, 1) := by decide +kernel
theorem dX4_cell_23 : decode cX4_cell 23 = .ok (.aload_n 0, 1) := by decide +kernel
theorem dX4_cell_24 : decode cX4_cell 24 = .ok (.getfield 34, 3) := by decide +kernel
theorem dX4_cell_27 : decode cX4_cell 27 = .ok (.iload_n 1, 1) := by decide +kernel
theorem dX4_cell_28 : decode cX4_cell 28 = .ok (.aaload, 1) := by decide +kernel
theorem dX4_cell_29 : decode cX4_cell 29 = .ok (.astore 4, 2) := by decide +kernel
theorem dX4_cell_31 : decode cX4_cell 31 = .ok (.aload_n 0, 1) := by decide +kernel
theorem dX4_cell_32 : decode cX4_cell 32 = .ok (.aload 4, 2) := by decide +kernel
theorem dX4_cell_34 : decode cX4_cell 34 = .ok (.iload_n 3, 1) := by decide +kernel
theorem dX4_cell_35 : decode cX4_cell 35 = .ok (.invokevirtual 53, 3) := by decide +kernel
theorem dX4_cell_38 : decode cX4_cell 38 = .ok (.putfield 38, 3) := by decide +kernel
theorem dX4_cell_41 : decode cX4_cell 41 = .ok (.aload_n 0, 1) := by decide +kernel
theorem dX4_cell_42 : decode cX4_cell 42 = .ok (.getfield 38, 3) := by decide +kernel
theorem dX4_cell_45 : decode cX4_cell 45 = .ok (.ifCond .ne 17, 3) := by decide +kernel
theorem dX4_cell_48 : decode cX4_cell 48 = .ok (.aload 4, 2) := by decide +kernel
theorem dX4_cell_50 : decode cX4_cell 50 = .ok (.iload_n 2, 1) := by decide +kernel
theorem dX4_cell_51 : decode cX4_cell 51 = .ok (.invokevirtual 200, 3) := by decide +kernel
theorem dX4_cell_54 : decode cX4_cell 54 = .ok (.ifCond .ne 8, 3) := by decide +kernel
theorem dX4_cell_57 : decode cX4_cell 57 = .ok (.aload_n 0, 1) := by decide +kernel
theorem dX4_cell_58 : decode cX4_cell 58 = .ok (.iconst 3, 1) := by decide +kernel
theorem dX4_cell_59 : decode cX4_cell 59 = .ok (.putfield 38, 3) := by decide +kernel
theorem dX4_cell_62 : decode cX4_cell 62 = .ok (.aload_n 0, 1) := by decide +kernel
theorem dX4_cell_63 : decode cX4_cell 63 = .ok (.getfield 38, 3) := by decide +kernel
theorem dX4_cell_66 : decode cX4_cell 66 = .ok (.ifCond .ne 14, 3) := by decide +kernel
theorem dX4_cell_69 : decode cX4_cell 69 = .ok (.aload 4, 2) := by decide +kernel
theorem dX4_cell_71 : decode cX4_cell 71 = .ok (.getfield 64, 3) := by decide +kernel
theorem dX4_cell_74 : decode cX4_cell 74 = .ok (.iload_n 2, 1) := by decide +kernel
theorem dX4_cell_75 : decode cX4_cell 75 = .ok (.iaload, 1) := by decide +kernel
theorem dX4_cell_76 : decode cX4_cell 76 = .ok (.i2l, 1) := by decide +kernel
theorem dX4_cell_77 : decode cX4_cell 77 = .ok (.goto 6, 3) := by decide +kernel
theorem dX4_cell_80 : decode cX4_cell 80 = .ok (.ldc2_w 172, 3) := by decide +kernel
theorem dX4_cell_83 : decode cX4_cell 83 = .ok (.lreturn, 1) := by decide +kernel
set_option maxRecDepth 20000 in
theorem ggX4_copy_X4_isSheet : GoodIn wsX4_copy wsX4_isSheet := goodIn_r _ [10] (by decide +kernel) (by decide +kernel)
set_option maxRecDepth 20000 in
theorem gX4_copy_X4_isSheet : GoodIn wsX4_copy (va_wsS RX4 46 yX4_isSheet wsX4_isSheet) := goodIn_app (goodIn_of _ (by decide +kernel)) ggX4_copy_X4_isSheet
set_option maxRecDepth 20000 in
theorem ggX4_copy_X4_failed : GoodIn wsX4_copy wsX4_failed := goodIn_r _ [14, 1, 20, 21, 22, 23, 24, 25] (by decide +kernel) (by decide +kernel)
set_option maxRecDepth 20000 in
theorem gX4_copy_X4_failed : GoodIn wsX4_copy (wsV RX4 61 RX4 yX4_failed wsX4_failed) := goodIn_app (goodIn_of _ (by decide +kernel)) ggX4_copy_X4_failed
set_option maxRecDepth 20000 in
theorem ggX4_copy_X3_spans : GoodIn wsX4_copy wsX3_spans := goodIn_r _ [18, 19, 26, 27, 28, 29] (by decide +kernel) (by decide +kernel)
set_option maxRecDepth 20000 in
theorem gX4_copy_X3_spans_n57 : GoodIn wsX4_copy (wsX3_spans) := ggX4_copy_X3_spans
theorem dX4_copy_0 : decode cX4_copy 0 = .ok (.aload_n 0, 1) := by decide +kernel
theorem dX4_copy_1 : decode cX4_copy 1 = .ok (.iconst 0, 1) := by decide +kernel
theorem dX4_copy_2 : decode cX4_copy 2 = .ok (.putfield 38, 3) := by decide +kernel
theorem dX4_copy_5 : decode cX4_copy 5 = .ok (.iload_n 1, 1) := by decide +kernel
theorem dX4_copy_6 : decode cX4_copy 6 = .ok (.invokestatic 46, 3) := by decide +kernel
theorem dX4_copy_9 : decode cX4_copy 9 = .ok (.ifCond .eq 10, 3) := by decide +kernel
theorem dX4_copy_12 : decode cX4_copy 12 = .ok (.iload_n 3, 1) := by decide +kernel
theorem dX4_copy_13 : decode cX4_copy 13 = .ok (.invokestatic 46, 3) := by decide +kernel
theorem dX4_copy_16 : decode cX4_copy 16 = .ok (.ifCond .ne 5, 3) := by decide +kernel
theorem dX4_copy_19 : decode cX4_copy 19 = .ok (.iconst (-1), 1) := by decide +kernel
theorem dX4_copy_20 : decode cX4_copy 20 = .ok (.ireturn, 1) := by decide +kernel
theorem dX4_copy_21 : decode cX4_copy 21 = .ok (.aload_n 0, 1) := by decide +kernel
theorem dX4_copy_22 : decode cX4_copy 22 = .ok (.getfield 34, 3) := by decide +kernel
theorem dX4_copy_25 : decode cX4_copy 25 = .ok (.iload_n 1, 1) := by decide +kernel
theorem dX4_copy_26 : decode cX4_copy 26 = .ok (.aaload, 1) := by decide +kernel
theorem dX4_copy_27 : decode cX4_copy 27 = .ok (.astore 6, 2) := by decide +kernel
theorem dX4_copy_29 : decode cX4_copy 29 = .ok (.aload_n 0, 1) := by decide +kernel
theorem dX4_copy_30 : decode cX4_copy 30 = .ok (.getfield 34, 3) := by decide +kernel
theorem dX4_copy_33 : decode cX4_copy 33 = .ok (.iload_n 3, 1) := by decide +kernel
theorem dX4_copy_34 : decode cX4_copy 34 = .ok (.aaload, 1) := by decide +kernel
theorem dX4_copy_35 : decode cX4_copy 35 = .ok (.astore 7, 2) := by decide +kernel
theorem dX4_copy_37 : decode cX4_copy 37 = .ok (.aload 6, 2) := by decide +kernel
theorem dX4_copy_39 : decode cX4_copy 39 = .ok (.getfield 196, 3) := by decide +kernel
theorem dX4_copy_42 : decode cX4_copy 42 = .ok (.ifCond .eq 11, 3) := by decide +kernel
theorem dX4_copy_45 : decode cX4_copy 45 = .ok (.aload 7, 2) := by decide +kernel
theorem dX4_copy_47 : decode cX4_copy 47 = .ok (.getfield 196, 3) := by decide +kernel
theorem dX4_copy_50 : decode cX4_copy 50 = .ok (.ifCond .ne 9, 3) := by decide +kernel
theorem dX4_copy_53 : decode cX4_copy 53 = .ok (.aload_n 0, 1) := by decide +kernel
theorem dX4_copy_54 : decode cX4_copy 54 = .ok (.iconst 1, 1) := by decide +kernel
theorem dX4_copy_55 : decode cX4_copy 55 = .ok (.invokevirtual 61, 3) := by decide +kernel
theorem dX4_copy_58 : decode cX4_copy 58 = .ok (.ireturn, 1) := by decide +kernel
theorem dX4_copy_59 : decode cX4_copy 59 = .ok (.aload 6, 2) := by decide +kernel
theorem dX4_copy_61 : decode cX4_copy 61 = .ok (.getfield 206, 3) := by decide +kernel
theorem dX4_copy_64 : decode cX4_copy 64 = .ok (.aload 7, 2) := by decide +kernel
theorem dX4_copy_66 : decode cX4_copy 66 = .ok (.getfield 206, 3) := by decide +kernel
theorem dX4_copy_69 : decode cX4_copy 69 = .ok (.if_icmp .eq 9, 3) := by decide +kernel
theorem dX4_copy_72 : decode cX4_copy 72 = .ok (.aload_n 0, 1) := by decide +kernel
theorem dX4_copy_73 : decode cX4_copy 73 = .ok (.iconst 2, 1) := by decide +kernel
theorem dX4_copy_74 : decode cX4_copy 74 = .ok (.invokevirtual 61, 3) := by decide +kernel
theorem dX4_copy_77 : decode cX4_copy 77 = .ok (.ireturn, 1) := by decide +kernel
theorem dX4_copy_78 : decode cX4_copy 78 = .ok (.aload 6, 2) := by decide +kernel
theorem dX4_copy_80 : decode cX4_copy 80 = .ok (.iload_n 2, 1) := by decide +kernel
theorem dX4_copy_81 : decode cX4_copy 81 = .ok (.iload 5, 2) := by decide +kernel
theorem dX4_copy_83 : decode cX4_copy 83 = .ok (.invokevirtual 57, 3) := by decide +kernel
theorem dX4_copy_86 : decode cX4_copy 86 = .ok (.ifCond .eq 15, 3) := by decide +kernel
theorem dX4_copy_89 : decode cX4_copy 89 = .ok (.aload 7, 2) := by decide +kernel
theorem dX4_copy_91 : decode cX4_copy 91 = .ok (.iload 4, 2) := by decide +kernel
theorem dX4_copy_93 : decode cX4_copy 93 = .ok (.iload 5, 2) := by decide +kernel
theorem dX4_copy_95 : decode cX4_copy 95 = .ok (.invokevirtual 57, 3) := by decide +kernel
theorem dX4_copy_98 : decode cX4_copy 98 = .ok (.ifCond .ne 9, 3) := by decide +kernel
theorem dX4_copy_101 : decode cX4_copy 101 = .ok (.aload_n 0, 1) := by decide +kernel
theorem dX4_copy_102 : decode cX4_copy 102 = .ok (.iconst 3, 1) := by decide +kernel
theorem dX4_copy_103 : decode cX4_copy 103 = .ok (.invokevirtual 61, 3) := by decide +kernel
theorem dX4_copy_106 : decode cX4_copy 106 = .ok (.ireturn, 1) := by decide +kernel
theorem dX4_copy_107 : decode cX4_copy 107 = .ok (.aload 6, 2) := by decide +kernel
theorem dX4_copy_109 : decode cX4_copy 109 = .ok (.getfield 64, 3) := by decide +kernel
theorem dX4_copy_112 : decode cX4_copy 112 = .ok (.iload_n 2, 1) := by decide +kernel
theorem dX4_copy_113 : decode cX4_copy 113 = .ok (.aload 7, 2) := by decide +kernel
theorem dX4_copy_115 : decode cX4_copy 115 = .ok (.getfield 64, 3) := by decide +kernel
theorem dX4_copy_118 : decode cX4_copy 118 = .ok (.iload 4, 2) := by decide +kernel
theorem dX4_copy_120 : decode cX4_copy 120 = .ok (.iload 5, 2) := by decide +kernel
theorem dX4_copy_122 : decode cX4_copy 122 = .ok (.invokestatic 209, 3) := by decide +kernel
theorem dX4_copy_125 : decode cX4_copy 125 = .ok (.iload 5, 2) := by decide +kernel
theorem dX4_copy_127 : decode cX4_copy 127 = .ok (.ireturn, 1) := by decide +kernel
set_option maxRecDepth 20000 in
theorem ggX4_tell_X0_isSoft : GoodIn wsX4_tell wsX0_isSoft := goodIn_r _ [5, 6, 7, 8, 9, 3, 10, 11, 12, 13, 14, 15, 16, 41, 42, 43, 44, 45, 46, 47] (by decide +kernel) (by decide +kernel)
set_option maxRecDepth 20000 in
theorem gX4_tell_X0_isSoft_n100 : GoodIn wsX4_tell (wsX0_isSoft) := ggX4_tell_X0_isSoft
set_option maxRecDepth 20000 in
theorem ggX4_tell_X4_hollowTells : GoodIn wsX4_tell wsX4_hollowTells := goodIn_r _ [21, 22, 23, 24, 20, 25, 26, 27, 28, 29, 30, 31, 32, 33, 34, 1, 35, 36, 37, 38, 39, 40, 41, 42, 43, 44, 45, 46, 47] (by decide +kernel) (by decide +kernel)
set_option maxRecDepth 20000 in
theorem gX4_tell_X4_hollowTells : GoodIn wsX4_tell (wsV RX4 215 RX4 yX4_hollowTells wsX4_hollowTells) := goodIn_app (goodIn_of _ (by decide +kernel)) ggX4_tell_X4_hollowTells
set_option maxRecDepth 20000 in
theorem ggX4_tell_X4_springTells : GoodIn wsX4_tell wsX4_springTells := goodIn_r _ [30, 22, 23, 24, 20, 25, 26, 31, 32, 33, 34, 1, 35, 36, 37, 38, 39, 40, 41, 42, 43, 44, 45, 46, 47] (by decide +kernel) (by decide +kernel)
set_option maxRecDepth 20000 in
theorem gX4_tell_X4_springTells : GoodIn wsX4_tell (wsV RX4 218 RX4 yX4_springTells wsX4_springTells) := goodIn_app (goodIn_of _ (by decide +kernel)) ggX4_tell_X4_springTells
set_option maxRecDepth 20000 in
theorem ggX4_tell_X4_grassTells : GoodIn wsX4_tell wsX4_grassTells := goodIn_r _ [34, 1, 22, 23, 24, 20, 25, 26, 35, 36, 37, 38, 39, 40, 41, 42, 43, 44, 45, 46, 47] (by decide +kernel) (by decide +kernel)
set_option maxRecDepth 20000 in
theorem gX4_tell_X4_grassTells : GoodIn wsX4_tell (wsV RX4 221 RX4 yX4_grassTells wsX4_grassTells) := goodIn_app (goodIn_of _ (by decide +kernel)) ggX4_tell_X4_grassTells
theorem dX4_tell_0 : decode cX4_tell 0 = .ok (.aload_n 0, 1) := by decide +kernel
theorem dX4_tell_1 : decode cX4_tell 1 = .ok (.getfield 14, 3) := by decide +kernel
theorem dX4_tell_4 : decode cX4_tell 4 = .ok (.iload_n 1, 1) := by decide +kernel
theorem dX4_tell_5 : decode cX4_tell 5 = .ok (.invokevirtual 100, 3) := by decide +kernel
theorem dX4_tell_8 : decode cX4_tell 8 = .ok (.ifCond .ne 5, 3) := by decide +kernel
theorem dX4_tell_11 : decode cX4_tell 11 = .ok (.iconst (-1), 1) := by decide +kernel
theorem dX4_tell_12 : decode cX4_tell 12 = .ok (.ireturn, 1) := by decide +kernel
theorem dX4_tell_13 : decode cX4_tell 13 = .ok (.aload_n 0, 1) := by decide +kernel
theorem dX4_tell_14 : decode cX4_tell 14 = .ok (.getfield 14, 3) := by decide +kernel
theorem dX4_tell_17 : decode cX4_tell 17 = .ok (.getfield 91, 3) := by decide +kernel
theorem dX4_tell_20 : decode cX4_tell 20 = .ok (.iload_n 1, 1) := by decide +kernel
theorem dX4_tell_21 : decode cX4_tell 21 = .ok (.iaload, 1) := by decide +kernel
theorem dX4_tell_22 : decode cX4_tell 22 = .ok (.lookupswitch 38 #[(1, 32), (2, 26)], 26) := by decide +kernel
theorem dX4_tell_48 : decode cX4_tell 48 = .ok (.aload_n 0, 1) := by decide +kernel
theorem dX4_tell_49 : decode cX4_tell 49 = .ok (.iload_n 1, 1) := by decide +kernel
theorem dX4_tell_50 : decode cX4_tell 50 = .ok (.invokevirtual 215, 3) := by decide +kernel
theorem dX4_tell_53 : decode cX4_tell 53 = .ok (.ireturn, 1) := by decide +kernel
theorem dX4_tell_54 : decode cX4_tell 54 = .ok (.aload_n 0, 1) := by decide +kernel
theorem dX4_tell_55 : decode cX4_tell 55 = .ok (.iload_n 1, 1) := by decide +kernel
theorem dX4_tell_56 : decode cX4_tell 56 = .ok (.invokevirtual 218, 3) := by decide +kernel
theorem dX4_tell_59 : decode cX4_tell 59 = .ok (.ireturn, 1) := by decide +kernel
theorem dX4_tell_60 : decode cX4_tell 60 = .ok (.aload_n 0, 1) := by decide +kernel
theorem dX4_tell_61 : decode cX4_tell 61 = .ok (.iload_n 1, 1) := by decide +kernel
theorem dX4_tell_62 : decode cX4_tell 62 = .ok (.invokevirtual 221, 3) := by decide +kernel
theorem dX4_tell_65 : decode cX4_tell 65 = .ok (.ireturn, 1) := by decide +kernel
set_option maxRecDepth 20000 in
theorem ggX4_trod_X0_isSoft : GoodIn wsX4_trod wsX0_isSoft := goodIn_r _ [5, 6, 7, 8, 9, 3, 10, 11, 12, 13, 14, 15, 16, 29, 30, 31, 32, 33, 34, 35] (by decide +kernel) (by decide +kernel)
set_option maxRecDepth 20000 in
theorem gX4_trod_X0_isSoft_n100 : GoodIn wsX4_trod (wsX0_isSoft) := ggX4_trod_X0_isSoft
set_option maxRecDepth 20000 in
theorem ggX4_trod_X4_begin : GoodIn wsX4_trod wsX4_begin := goodIn_r _ [21, 22, 23, 24, 25, 26, 27, 28] (by decide +kernel) (by decide +kernel)
set_option maxRecDepth 20000 in
theorem gX4_trod_X4_begin : GoodIn wsX4_trod (wsV RX4 224 RX4 yX4_begin wsX4_begin) := goodIn_app (goodIn_of _ (by decide +kernel)) ggX4_trod_X4_begin
theorem dX4_trod_0 : decode cX4_trod 0 = .ok (.aload_n 0, 1) := by decide +kernel
theorem dX4_trod_1 : decode cX4_trod 1 = .ok (.getfield 14, 3) := by decide +kernel
theorem dX4_trod_4 : decode cX4_trod 4 = .ok (.iload_n 1, 1) := by decide +kernel
theorem dX4_trod_5 : decode cX4_trod 5 = .ok (.invokevirtual 100, 3) := by decide +kernel
theorem dX4_trod_8 : decode cX4_trod 8 = .ok (.ifCond .ne 5, 3) := by decide +kernel
theorem dX4_trod_11 : decode cX4_trod 11 = .ok (.iconst (-1), 1) := by decide +kernel
theorem dX4_trod_12 : decode cX4_trod 12 = .ok (.ireturn, 1) := by decide +kernel
theorem dX4_trod_13 : decode cX4_trod 13 = .ok (.aload_n 0, 1) := by decide +kernel
theorem dX4_trod_14 : decode cX4_trod 14 = .ok (.getfield 14, 3) := by decide +kernel
theorem dX4_trod_17 : decode cX4_trod 17 = .ok (.getfield 91, 3) := by decide +kernel
theorem dX4_trod_20 : decode cX4_trod 20 = .ok (.iload_n 1, 1) := by decide +kernel
theorem dX4_trod_21 : decode cX4_trod 21 = .ok (.iaload, 1) := by decide +kernel
theorem dX4_trod_22 : decode cX4_trod 22 = .ok (.iconst 2, 1) := by decide +kernel
theorem dX4_trod_23 : decode cX4_trod 23 = .ok (.if_icmp .ne 11, 3) := by decide +kernel
theorem dX4_trod_26 : decode cX4_trod 26 = .ok (.aload_n 0, 1) := by decide +kernel
theorem dX4_trod_27 : decode cX4_trod 27 = .ok (.iconst 5, 1) := by decide +kernel
theorem dX4_trod_28 : decode cX4_trod 28 = .ok (.invokevirtual 224, 3) := by decide +kernel
theorem dX4_trod_31 : decode cX4_trod 31 = .ok (.bipush 40, 2) := by decide +kernel
theorem dX4_trod_33 : decode cX4_trod 33 = .ok (.ireturn, 1) := by decide +kernel
theorem dX4_trod_34 : decode cX4_trod 34 = .ok (.aload_n 0, 1) := by decide +kernel
theorem dX4_trod_35 : decode cX4_trod 35 = .ok (.iconst 4, 1) := by decide +kernel
theorem dX4_trod_36 : decode cX4_trod 36 = .ok (.invokevirtual 224, 3) := by decide +kernel
theorem dX4_trod_39 : decode cX4_trod 39 = .ok (.iload_n 1, 1) := by decide +kernel
theorem dX4_trod_40 : decode cX4_trod 40 = .ok (.ireturn, 1) := by decide +kernel
set_option maxRecDepth 20000 in
theorem ggX4_as_X0_isSoft : GoodIn wsX4_as wsX0_isSoft := goodIn_r _ [6, 7, 8, 9, 10, 4, 11, 12, 13, 14, 15, 16, 17, 29, 30, 31, 32, 33, 34, 35] (by decide +kernel) (by decide +kernel)
set_option maxRecDepth 20000 in
theorem gX4_as_X0_isSoft_n100 : GoodIn wsX4_as (wsX0_isSoft) := ggX4_as_X0_isSoft
set_option maxRecDepth 20000 in
theorem ggX4_as_X4_failed : GoodIn wsX4_as wsX4_failed := goodIn_r _ [22, 1, 23, 24, 25, 26, 27, 28] (by decide +kernel) (by decide +kernel)
set_option maxRecDepth 20000 in
theorem gX4_as_X4_failed : GoodIn wsX4_as (wsV RX4 61 RX4 yX4_failed wsX4_failed) := goodIn_app (goodIn_of _ (by decide +kernel)) ggX4_as_X4_failed
theorem dX4_as_0 : decode cX4_as 0 = .ok (.aload_n 0, 1) := by decide +kernel
theorem dX4_as_1 : decode cX4_as 1 = .ok (.iconst 0, 1) := by decide +kernel
theorem dX4_as_2 : decode cX4_as 2 = .ok (.putfield 38, 3) := by decide +kernel
theorem dX4_as_5 : decode cX4_as 5 = .ok (.aload_n 0, 1) := by decide +kernel
theorem dX4_as_6 : decode cX4_as 6 = .ok (.getfield 14, 3) := by decide +kernel
theorem dX4_as_9 : decode cX4_as 9 = .ok (.iload_n 1, 1) := by decide +kernel
theorem dX4_as_10 : decode cX4_as 10 = .ok (.invokevirtual 100, 3) := by decide +kernel
theorem dX4_as_13 : decode cX4_as 13 = .ok (.ifCond .ne 5, 3) := by decide +kernel
theorem dX4_as_16 : decode cX4_as 16 = .ok (.iconst (-1), 1) := by decide +kernel
theorem dX4_as_17 : decode cX4_as 17 = .ok (.ireturn, 1) := by decide +kernel
theorem dX4_as_18 : decode cX4_as 18 = .ok (.iload_n 2, 1) := by decide +kernel
theorem dX4_as_19 : decode cX4_as 19 = .ok (.ifCond .lt 8, 3) := by decide +kernel
theorem dX4_as_22 : decode cX4_as 22 = .ok (.iload_n 2, 1) := by decide +kernel
theorem dX4_as_23 : decode cX4_as 23 = .ok (.iconst 2, 1) := by decide +kernel
theorem dX4_as_24 : decode cX4_as 24 = .ok (.if_icmp .le 6, 3) := by decide +kernel
theorem dX4_as_27 : decode cX4_as 27 = .ok (.bipush (-2), 2) := by decide +kernel
theorem dX4_as_29 : decode cX4_as 29 = .ok (.ireturn, 1) := by decide +kernel
theorem dX4_as_30 : decode cX4_as 30 = .ok (.aload_n 0, 1) := by decide +kernel
theorem dX4_as_31 : decode cX4_as 31 = .ok (.getfield 14, 3) := by decide +kernel
theorem dX4_as_34 : decode cX4_as 34 = .ok (.getfield 91, 3) := by decide +kernel
theorem dX4_as_37 : decode cX4_as 37 = .ok (.iload_n 1, 1) := by decide +kernel
theorem dX4_as_38 : decode cX4_as 38 = .ok (.iaload, 1) := by decide +kernel
theorem dX4_as_39 : decode cX4_as 39 = .ok (.iload_n 2, 1) := by decide +kernel
theorem dX4_as_40 : decode cX4_as 40 = .ok (.if_icmp .lt 7, 3) := by decide +kernel
theorem dX4_as_43 : decode cX4_as 43 = .ok (.iconst 1, 1) := by decide +kernel
theorem dX4_as_44 : decode cX4_as 44 = .ok (.goto 8, 3) := by decide +kernel
theorem dX4_as_47 : decode cX4_as 47 = .ok (.aload_n 0, 1) := by decide +kernel
theorem dX4_as_48 : decode cX4_as 48 = .ok (.iconst 2, 1) := by decide +kernel
theorem dX4_as_49 : decode cX4_as 49 = .ok (.invokevirtual 61, 3) := by decide +kernel
theorem dX4_as_52 : decode cX4_as 52 = .ok (.ireturn, 1) := by decide +kernel
theorem dX4_trace_0 : decode cX4_trace 0 = .ok (.aload_n 0, 1) := by decide +kernel
theorem dX4_trace_1 : decode cX4_trace 1 = .ok (.getfield 42, 3) := by decide +kernel
theorem dX4_trace_4 : decode cX4_trace 4 = .ok (.ireturn, 1) := by decide +kernel
theorem dX4_fault_0 : decode cX4_fault 0 = .ok (.aload_n 0, 1) := by decide +kernel
theorem dX4_fault_1 : decode cX4_fault 1 = .ok (.getfield 38, 3) := by decide +kernel
theorem dX4_fault_4 : decode cX4_fault 4 = .ok (.ireturn, 1) := by decide +kernel
set_option maxRecDepth 20000 in
theorem ggX4_many_X0_cells : GoodIn wsX4_many wsX0_cells := goodIn_r _ [6, 7, 8, 30, 31, 32, 33, 34, 35, 36] (by decide +kernel) (by decide +kernel)
set_option maxRecDepth 20000 in
theorem gX4_many_X0_cells_n143 : GoodIn wsX4_many (wsX0_cells) := ggX4_many_X0_cells
set_option maxRecDepth 20000 in
theorem ggX4_many_X0_softCells : GoodIn wsX4_many wsX0_softCells := goodIn_r _ [11, 12, 13, 3, 5, 4, 6, 7, 8, 14, 15, 16, 30, 31, 32, 33, 34, 35, 36] (by decide +kernel) (by decide +kernel)
set_option maxRecDepth 20000 in
theorem gX4_many_X0_softCells_n79 : GoodIn wsX4_many (wsX0_softCells) := ggX4_many_X0_softCells
set_option maxRecDepth 20000 in
theorem ggX4_many_J6_bitCount_0f7a4 : GoodIn wsX4_many wsJ6_bitCount_0f7a4 := goodIn_r _ [20, 21, 22, 23] (by decide +kernel) (by decide +kernel)
set_option maxRecDepth 20000 in
theorem gX4_many_J6_bitCount_0f7a4 : GoodIn wsX4_many (va_wsS RX4 83 yJ6_bitCount_0f7a4 wsJ6_bitCount_0f7a4) := goodIn_app (goodIn_of _ (by decide +kernel)) ggX4_many_J6_bitCount_0f7a4
theorem dX4_many_0 : decode cX4_many 0 = .ok (.iload_n 1, 1) := by decide +kernel
theorem dX4_many_1 : decode cX4_many 1 = .ok (.tableswitch 98 0 5 #[39, 47, 55, 63, 71, 90], 39) := by decide +kernel
theorem dX4_many_40 : decode cX4_many 40 = .ok (.aload_n 0, 1) := by decide +kernel
theorem dX4_many_41 : decode cX4_many 41 = .ok (.getfield 14, 3) := by decide +kernel
theorem dX4_many_44 : decode cX4_many 44 = .ok (.invokevirtual 143, 3) := by decide +kernel
theorem dX4_many_47 : decode cX4_many 47 = .ok (.ireturn, 1) := by decide +kernel
theorem dX4_many_48 : decode cX4_many 48 = .ok (.aload_n 0, 1) := by decide +kernel
theorem dX4_many_49 : decode cX4_many 49 = .ok (.getfield 14, 3) := by decide +kernel
theorem dX4_many_52 : decode cX4_many 52 = .ok (.getfield 228, 3) := by decide +kernel
theorem dX4_many_55 : decode cX4_many 55 = .ok (.ireturn, 1) := by decide +kernel
theorem dX4_many_56 : decode cX4_many 56 = .ok (.aload_n 0, 1) := by decide +kernel
theorem dX4_many_57 : decode cX4_many 57 = .ok (.getfield 14, 3) := by decide +kernel
theorem dX4_many_60 : decode cX4_many 60 = .ok (.getfield 110, 3) := by decide +kernel
theorem dX4_many_63 : decode cX4_many 63 = .ok (.ireturn, 1) := by decide +kernel
theorem dX4_many_64 : decode cX4_many 64 = .ok (.aload_n 0, 1) := by decide +kernel
theorem dX4_many_65 : decode cX4_many 65 = .ok (.getfield 14, 3) := by decide +kernel
theorem dX4_many_68 : decode cX4_many 68 = .ok (.getfield 113, 3) := by decide +kernel
theorem dX4_many_71 : decode cX4_many 71 = .ok (.ireturn, 1) := by decide +kernel
theorem dX4_many_72 : decode cX4_many 72 = .ok (.aload_n 0, 1) := by decide +kernel
theorem dX4_many_73 : decode cX4_many 73 = .ok (.getfield 14, 3) := by decide +kernel
theorem dX4_many_76 : decode cX4_many 76 = .ok (.invokevirtual 143, 3) := by decide +kernel
theorem dX4_many_79 : decode cX4_many 79 = .ok (.aload_n 0, 1) := by decide +kernel
theorem dX4_many_80 : decode cX4_many 80 = .ok (.getfield 14, 3) := by decide +kernel
theorem dX4_many_83 : decode cX4_many 83 = .ok (.invokevirtual 79, 3) := by decide +kernel
theorem dX4_many_86 : decode cX4_many 86 = .ok (.invokestatic 83, 3) := by decide +kernel
theorem dX4_many_89 : decode cX4_many 89 = .ok (.isub, 1) := by decide +kernel
theorem dX4_many_90 : decode cX4_many 90 = .ok (.ireturn, 1) := by decide +kernel
theorem dX4_many_91 : decode cX4_many 91 = .ok (.aload_n 0, 1) := by decide +kernel
theorem dX4_many_92 : decode cX4_many 92 = .ok (.getfield 21, 3) := by decide +kernel
theorem dX4_many_95 : decode cX4_many 95 = .ok (.getfield 76, 3) := by decide +kernel
theorem dX4_many_98 : decode cX4_many 98 = .ok (.ireturn, 1) := by decide +kernel
theorem dX4_many_99 : decode cX4_many 99 = .ok (.bipush (-2), 2) := by decide +kernel
theorem dX4_many_101 : decode cX4_many 101 = .ok (.ireturn, 1) := by decide +kernel
theorem dX4_isSheet_0 : decode cX4_isSheet 0 = .ok (.iload_n 0, 1) := by decide +kernel
theorem dX4_isSheet_1 : decode cX4_isSheet 1 = .ok (.ifCond .lt 12, 3) := by decide +kernel
theorem dX4_isSheet_4 : decode cX4_isSheet 4 = .ok (.iload_n 0, 1) := by decide +kernel
theorem dX4_isSheet_5 : decode cX4_isSheet 5 = .ok (.iconst 4, 1) := by decide +kernel
theorem dX4_isSheet_6 : decode cX4_isSheet 6 = .ok (.if_icmp .ge 7, 3) := by decide +kernel
theorem dX4_isSheet_9 : decode cX4_isSheet 9 = .ok (.iconst 1, 1) := by decide +kernel
theorem dX4_isSheet_10 : decode cX4_isSheet 10 = .ok (.goto 4, 3) := by decide +kernel
theorem dX4_isSheet_13 : decode cX4_isSheet 13 = .ok (.iconst 0, 1) := by decide +kernel
theorem dX4_isSheet_14 : decode cX4_isSheet 14 = .ok (.ireturn, 1) := by decide +kernel
theorem dX4_isLane_0 : decode cX4_isLane 0 = .ok (.iload_n 0, 1) := by decide +kernel
theorem dX4_isLane_1 : decode cX4_isLane 1 = .ok (.ifCond .lt 12, 3) := by decide +kernel
theorem dX4_isLane_4 : decode cX4_isLane 4 = .ok (.iload_n 0, 1) := by decide +kernel
theorem dX4_isLane_5 : decode cX4_isLane 5 = .ok (.iconst 2, 1) := by decide +kernel
theorem dX4_isLane_6 : decode cX4_isLane 6 = .ok (.if_icmp .gt 7, 3) := by decide +kernel
theorem dX4_isLane_9 : decode cX4_isLane 9 = .ok (.iconst 1, 1) := by decide +kernel
theorem dX4_isLane_10 : decode cX4_isLane 10 = .ok (.goto 4, 3) := by decide +kernel
theorem dX4_isLane_13 : decode cX4_isLane 13 = .ok (.iconst 0, 1) := by decide +kernel
theorem dX4_isLane_14 : decode cX4_isLane 14 = .ok (.ireturn, 1) := by decide +kernel
theorem dX4_isWeeks_0 : decode cX4_isWeeks 0 = .ok (.iload_n 0, 1) := by decide +kernel
theorem dX4_isWeeks_1 : decode cX4_isWeeks 1 = .ok (.ifCond .lt 13, 3) := by decide +kernel
theorem dX4_isWeeks_4 : decode cX4_isWeeks 4 = .ok (.iload_n 0, 1) := by decide +kernel
theorem dX4_isWeeks_5 : decode cX4_isWeeks 5 = .ok (.bipush 9, 2) := by decide +kernel
theorem dX4_isWeeks_7 : decode cX4_isWeeks 7 = .ok (.if_icmp .gt 7, 3) := by decide +kernel
theorem dX4_isWeeks_10 : decode cX4_isWeeks 10 = .ok (.iconst 1, 1) := by decide +kernel
theorem dX4_isWeeks_11 : decode cX4_isWeeks 11 = .ok (.goto 4, 3) := by decide +kernel
theorem dX4_isWeeks_14 : decode cX4_isWeeks 14 = .ok (.iconst 0, 1) := by decide +kernel
theorem dX4_isWeeks_15 : decode cX4_isWeeks 15 = .ok (.ireturn, 1) := by decide +kernel
theorem dX4_isInches_0 : decode cX4_isInches 0 = .ok (.iload_n 0, 1) := by decide +kernel
theorem dX4_isInches_1 : decode cX4_isInches 1 = .ok (.ifCond .lt 13, 3) := by decide +kernel
theorem dX4_isInches_4 : decode cX4_isInches 4 = .ok (.iload_n 0, 1) := by decide +kernel
theorem dX4_isInches_5 : decode cX4_isInches 5 = .ok (.bipush 9, 2) := by decide +kernel
theorem dX4_isInches_7 : decode cX4_isInches 7 = .ok (.if_icmp .gt 7, 3) := by decide +kernel
theorem dX4_isInches_10 : decode cX4_isInches 10 = .ok (.iconst 1, 1) := by decide +kernel
theorem dX4_isInches_11 : decode cX4_isInches 11 = .ok (.goto 4, 3) := by decide +kernel
theorem dX4_isInches_14 : decode cX4_isInches 14 = .ok (.iconst 0, 1) := by decide +kernel
theorem dX4_isInches_15 : decode cX4_isInches 15 = .ok (.ireturn, 1) := by decide +kernel
theorem dX4_areStrokes_0 : decode cX4_areStrokes 0 = .ok (.iload_n 1, 1) := by decide +kernel
theorem dX4_areStrokes_1 : decode cX4_areStrokes 1 = .ok (.istore_n 3, 1) := by decide +kernel
theorem dX4_areStrokes_2 : decode cX4_areStrokes 2 = .ok (.iload_n 3, 1) := by decide +kernel
theorem dX4_areStrokes_3 : decode cX4_areStrokes 3 = .ok (.iload_n 1, 1) := by decide +kernel
theorem dX4_areStrokes_4 : decode cX4_areStrokes 4 = .ok (.iload_n 2, 1) := by decide +kernel
theorem dX4_areStrokes_5 : decode cX4_areStrokes 5 = .ok (.iadd, 1) := by decide +kernel
theorem dX4_areStrokes_6 : decode cX4_areStrokes 6 = .ok (.if_icmp .ge 24, 3) := by decide +kernel
theorem dX4_areStrokes_9 : decode cX4_areStrokes 9 = .ok (.aload_n 0, 1) := by decide +kernel
theorem dX4_areStrokes_10 : decode cX4_areStrokes 10 = .ok (.iload_n 3, 1) := by decide +kernel
theorem dX4_areStrokes_11 : decode cX4_areStrokes 11 = .ok (.iaload, 1) := by decide +kernel
theorem dX4_areStrokes_12 : decode cX4_areStrokes 12 = .ok (.ifCond .lt 10, 3) := by decide +kernel
theorem dX4_areStrokes_15 : decode cX4_areStrokes 15 = .ok (.aload_n 0, 1) := by decide +kernel
theorem dX4_areStrokes_16 : decode cX4_areStrokes 16 = .ok (.iload_n 3, 1) := by decide +kernel
theorem dX4_areStrokes_17 : decode cX4_areStrokes 17 = .ok (.iaload, 1) := by decide +kernel
theorem dX4_areStrokes_18 : decode cX4_areStrokes 18 = .ok (.iconst 4, 1) := by decide +kernel
theorem dX4_areStrokes_19 : decode cX4_areStrokes 19 = .ok (.if_icmp .lt 5, 3) := by decide +kernel
theorem dX4_areStrokes_22 : decode cX4_areStrokes 22 = .ok (.iconst 0, 1) := by decide +kernel
theorem dX4_areStrokes_23 : decode cX4_areStrokes 23 = .ok (.ireturn, 1) := by decide +kernel
theorem dX4_areStrokes_24 : decode cX4_areStrokes 24 = .ok (.iinc 3 1, 3) := by decide +kernel
theorem dX4_areStrokes_27 : decode cX4_areStrokes 27 = .ok (.goto (-25), 3) := by decide +kernel
theorem dX4_areStrokes_30 : decode cX4_areStrokes 30 = .ok (.iconst 1, 1) := by decide +kernel
theorem dX4_areStrokes_31 : decode cX4_areStrokes 31 = .ok (.ireturn, 1) := by decide +kernel
theorem dX4_failed_0 : decode cX4_failed 0 = .ok (.aload_n 0, 1) := by decide +kernel
theorem dX4_failed_1 : decode cX4_failed 1 = .ok (.iload_n 1, 1) := by decide +kernel
theorem dX4_failed_2 : decode cX4_failed 2 = .ok (.putfield 38, 3) := by decide +kernel
theorem dX4_failed_5 : decode cX4_failed 5 = .ok (.bipush (-10), 2) := by decide +kernel
theorem dX4_failed_7 : decode cX4_failed 7 = .ok (.iload_n 1, 1) := by decide +kernel
theorem dX4_failed_8 : decode cX4_failed 8 = .ok (.isub, 1) := by decide +kernel
theorem dX4_failed_9 : decode cX4_failed 9 = .ok (.ireturn, 1) := by decide +kernel
theorem dX4_bit_0 : decode cX4_bit 0 = .ok (.iconst 1, 1) := by decide +kernel
theorem dX4_bit_1 : decode cX4_bit 1 = .ok (.iload_n 0, 1) := by decide +kernel
theorem dX4_bit_2 : decode cX4_bit 2 = .ok (.ishl, 1) := by decide +kernel
theorem dX4_bit_3 : decode cX4_bit 3 = .ok (.ireturn, 1) := by decide +kernel
set_option maxRecDepth 20000 in
theorem ggX4_isIn_X4_bit : GoodIn wsX4_isIn wsX4_bit := goodIn_r _ [4] (by decide +kernel) (by decide +kernel)
set_option maxRecDepth 20000 in
theorem gX4_isIn_X4_bit : GoodIn wsX4_isIn (va_wsS RX4 169 yX4_bit wsX4_bit) := goodIn_app (goodIn_of _ (by decide +kernel)) ggX4_isIn_X4_bit
theorem dX4_isIn_0 : decode cX4_isIn 0 = .ok (.iload_n 1, 1) := by decide +kernel
theorem dX4_isIn_1 : decode cX4_isIn 1 = .ok (.ifCond .lt 16, 3) := by decide +kernel
theorem dX4_isIn_4 : decode cX4_isIn 4 = .ok (.iload_n 0, 1) := by decide +kernel
theorem dX4_isIn_5 : decode cX4_isIn 5 = .ok (.iload_n 1, 1) := by decide +kernel
theorem dX4_isIn_6 : decode cX4_isIn 6 = .ok (.invokestatic 169, 3) := by decide +kernel
theorem dX4_isIn_9 : decode cX4_isIn 9 = .ok (.iand, 1) := by decide +kernel
theorem dX4_isIn_10 : decode cX4_isIn 10 = .ok (.ifCond .eq 7, 3) := by decide +kernel
theorem dX4_isIn_13 : decode cX4_isIn 13 = .ok (.iconst 1, 1) := by decide +kernel
theorem dX4_isIn_14 : decode cX4_isIn 14 = .ok (.goto 4, 3) := by decide +kernel
theorem dX4_isIn_17 : decode cX4_isIn 17 = .ok (.iconst 0, 1) := by decide +kernel
theorem dX4_isIn_18 : decode cX4_isIn 18 = .ok (.ireturn, 1) := by decide +kernel
set_option maxRecDepth 20000 in
theorem ggX4_without_X4_bit : GoodIn wsX4_without wsX4_bit := goodIn_r _ [4] (by decide +kernel) (by decide +kernel)
set_option maxRecDepth 20000 in
theorem gX4_without_X4_bit : GoodIn wsX4_without (va_wsS RX4 169 yX4_bit wsX4_bit) := goodIn_app (goodIn_of _ (by decide +kernel)) ggX4_without_X4_bit
theorem dX4_without_0 : decode cX4_without 0 = .ok (.iload_n 0, 1) := by decide +kernel
theorem dX4_without_1 : decode cX4_without 1 = .ok (.iload_n 1, 1) := by decide +kernel
theorem dX4_without_2 : decode cX4_without 2 = .ok (.invokestatic 169, 3) := by decide +kernel
theorem dX4_without_5 : decode cX4_without 5 = .ok (.iconst (-1), 1) := by decide +kernel
theorem dX4_without_6 : decode cX4_without 6 = .ok (.ixor, 1) := by decide +kernel
theorem dX4_without_7 : decode cX4_without 7 = .ok (.iand, 1) := by decide +kernel
theorem dX4_without_8 : decode cX4_without 8 = .ok (.ireturn, 1) := by decide +kernel
set_option maxRecDepth 20000 in
theorem ggX4_firstFault_X4_fitsHead : GoodIn wsX4_firstFault wsX4_fitsHead := goodIn_r _ [4] (by decide +kernel) (by decide +kernel)
set_option maxRecDepth 20000 in
theorem gX4_firstFault_X4_fitsHead : GoodIn wsX4_firstFault (va_wsS RX4 231 yX4_fitsHead wsX4_fitsHead) := goodIn_app (goodIn_of _ (by decide +kernel)) ggX4_firstFault_X4_fitsHead
set_option maxRecDepth 20000 in
theorem ggX4_firstFault_X4_fitsRow : GoodIn wsX4_firstFault wsX4_fitsRow := goodIn_r _ [7, 8, 9, 3, 10] (by decide +kernel) (by decide +kernel)
set_option maxRecDepth 20000 in
theorem gX4_firstFault_X4_fitsRow : GoodIn wsX4_firstFault (va_wsS RX4 234 yX4_fitsRow wsX4_fitsRow) := goodIn_app (goodIn_of _ (by decide +kernel)) ggX4_firstFault_X4_fitsRow
theorem dX4_firstFault_0 : decode cX4_firstFault 0 = .ok (.iconst 0, 1) := by decide +kernel
theorem dX4_firstFault_1 : decode cX4_firstFault 1 = .ok (.istore_n 3, 1) := by decide +kernel
theorem dX4_firstFault_2 : decode cX4_firstFault 2 = .ok (.iconst 0, 1) := by decide +kernel
theorem dX4_firstFault_3 : decode cX4_firstFault 3 = .ok (.istore 4, 2) := by decide +kernel
theorem dX4_firstFault_5 : decode cX4_firstFault 5 = .ok (.iconst 0, 1) := by decide +kernel
theorem dX4_firstFault_6 : decode cX4_firstFault 6 = .ok (.istore 5, 2) := by decide +kernel
theorem dX4_firstFault_8 : decode cX4_firstFault 8 = .ok (.iconst 0, 1) := by decide +kernel
theorem dX4_firstFault_9 : decode cX4_firstFault 9 = .ok (.istore 6, 2) := by decide +kernel
theorem dX4_firstFault_11 : decode cX4_firstFault 11 = .ok (.iload 6, 2) := by decide +kernel
theorem dX4_firstFault_13 : decode cX4_firstFault 13 = .ok (.iload_n 2, 1) := by decide +kernel
theorem dX4_firstFault_14 : decode cX4_firstFault 14 = .ok (.if_icmp .ge 125, 3) := by decide +kernel
theorem dX4_firstFault_17 : decode cX4_firstFault 17 = .ok (.aload_n 0, 1) := by decide +kernel
theorem dX4_firstFault_18 : decode cX4_firstFault 18 = .ok (.iload_n 1, 1) := by decide +kernel
theorem dX4_firstFault_19 : decode cX4_firstFault 19 = .ok (.iload 6, 2) := by decide +kernel
theorem dX4_firstFault_21 : decode cX4_firstFault 21 = .ok (.iadd, 1) := by decide +kernel
theorem dX4_firstFault_22 : decode cX4_firstFault 22 = .ok (.iaload, 1) := by decide +kernel
theorem dX4_firstFault_23 : decode cX4_firstFault 23 = .ok (.istore 7, 2) := by decide +kernel
theorem dX4_firstFault_25 : decode cX4_firstFault 25 = .ok (.iload 6, 2) := by decide +kernel
theorem dX4_firstFault_27 : decode cX4_firstFault 27 = .ok (.iconst 5, 1) := by decide +kernel
theorem dX4_firstFault_28 : decode cX4_firstFault 28 = .ok (.if_icmp .ge 7, 3) := by decide +kernel
theorem dX4_firstFault_31 : decode cX4_firstFault 31 = .ok (.iconst 1, 1) := by decide +kernel
theorem dX4_firstFault_32 : decode cX4_firstFault 32 = .ok (.goto 4, 3) := by decide +kernel
theorem dX4_firstFault_35 : decode cX4_firstFault 35 = .ok (.iconst 0, 1) := by decide +kernel
theorem dX4_firstFault_36 : decode cX4_firstFault 36 = .ok (.istore 8, 2) := by decide +kernel
theorem dX4_firstFault_38 : decode cX4_firstFault 38 = .ok (.iload 8, 2) := by decide +kernel
theorem dX4_firstFault_40 : decode cX4_firstFault 40 = .ok (.ifCond .eq 16, 3) := by decide +kernel
theorem dX4_firstFault_43 : decode cX4_firstFault 43 = .ok (.iload 6, 2) := by decide +kernel
theorem dX4_firstFault_45 : decode cX4_firstFault 45 = .ok (.iload 7, 2) := by decide +kernel
theorem dX4_firstFault_47 : decode cX4_firstFault 47 = .ok (.invokestatic 231, 3) := by decide +kernel
theorem dX4_firstFault_50 : decode cX4_firstFault 50 = .ok (.ifCond .ne 23, 3) := by decide +kernel
theorem dX4_firstFault_53 : decode cX4_firstFault 53 = .ok (.goto 17, 3) := by decide +kernel
theorem dX4_firstFault_56 : decode cX4_firstFault 56 = .ok (.iload_n 3, 1) := by decide +kernel
theorem dX4_firstFault_57 : decode cX4_firstFault 57 = .ok (.ifCond .eq 13, 3) := by decide +kernel
theorem dX4_firstFault_60 : decode cX4_firstFault 60 = .ok (.iload 5, 2) := by decide +kernel
theorem dX4_firstFault_62 : decode cX4_firstFault 62 = .ok (.iload 7, 2) := by decide +kernel
theorem dX4_firstFault_64 : decode cX4_firstFault 64 = .ok (.invokestatic 234, 3) := by decide +kernel
theorem dX4_firstFault_67 : decode cX4_firstFault 67 = .ok (.ifCond .ne 6, 3) := by decide +kernel
theorem dX4_firstFault_70 : decode cX4_firstFault 70 = .ok (.iload 6, 2) := by decide +kernel
theorem dX4_firstFault_72 : decode cX4_firstFault 72 = .ok (.ireturn, 1) := by decide +kernel
theorem dX4_firstFault_73 : decode cX4_firstFault 73 = .ok (.iload 6, 2) := by decide +kernel
theorem dX4_firstFault_75 : decode cX4_firstFault 75 = .ok (.iconst 1, 1) := by decide +kernel
theorem dX4_firstFault_76 : decode cX4_firstFault 76 = .ok (.if_icmp .ne 12, 3) := by decide +kernel
theorem dX4_firstFault_79 : decode cX4_firstFault 79 = .ok (.iload 7, 2) := by decide +kernel
theorem dX4_firstFault_81 : decode cX4_firstFault 81 = .ok (.bipush 48, 2) := by decide +kernel
theorem dX4_firstFault_83 : decode cX4_firstFault 83 = .ok (.isub, 1) := by decide +kernel
theorem dX4_firstFault_84 : decode cX4_firstFault 84 = .ok (.istore_n 3, 1) := by decide +kernel
theorem dX4_firstFault_85 : decode cX4_firstFault 85 = .ok (.goto 48, 3) := by decide +kernel
theorem dX4_firstFault_88 : decode cX4_firstFault 88 = .ok (.iload 6, 2) := by decide +kernel
theorem dX4_firstFault_90 : decode cX4_firstFault 90 = .ok (.iconst 2, 1) := by decide +kernel
theorem dX4_firstFault_91 : decode cX4_firstFault 91 = .ok (.if_icmp .ne 13, 3) := by decide +kernel
theorem dX4_firstFault_94 : decode cX4_firstFault 94 = .ok (.iload 7, 2) := by decide +kernel
theorem dX4_firstFault_96 : decode cX4_firstFault 96 = .ok (.bipush 48, 2) := by decide +kernel
theorem dX4_firstFault_98 : decode cX4_firstFault 98 = .ok (.isub, 1) := by decide +kernel
theorem dX4_firstFault_99 : decode cX4_firstFault 99 = .ok (.istore 4, 2) := by decide +kernel
theorem dX4_firstFault_101 : decode cX4_firstFault 101 = .ok (.goto 32, 3) := by decide +kernel
theorem dX4_firstFault_104 : decode cX4_firstFault 104 = .ok (.iload 8, 2) := by decide +kernel
theorem dX4_firstFault_106 : decode cX4_firstFault 106 = .ok (.ifCond .ne 16, 3) := by decide +kernel
theorem dX4_firstFault_109 : decode cX4_firstFault 109 = .ok (.iload 5, 2) := by decide +kernel
theorem dX4_firstFault_111 : decode cX4_firstFault 111 = .ok (.iload 4, 2) := by decide +kernel
theorem dX4_firstFault_113 : decode cX4_firstFault 113 = .ok (.if_icmp .ge 9, 3) := by decide +kernel
theorem dX4_firstFault_116 : decode cX4_firstFault 116 = .ok (.iinc 5 1, 3) := by decide +kernel
theorem dX4_firstFault_119 : decode cX4_firstFault 119 = .ok (.goto 14, 3) := by decide +kernel
theorem dX4_firstFault_122 : decode cX4_firstFault 122 = .ok (.iload 8, 2) := by decide +kernel
theorem dX4_firstFault_124 : decode cX4_firstFault 124 = .ok (.ifCond .ne 9, 3) := by decide +kernel
theorem dX4_firstFault_127 : decode cX4_firstFault 127 = .ok (.iconst 0, 1) := by decide +kernel
theorem dX4_firstFault_128 : decode cX4_firstFault 128 = .ok (.istore 5, 2) := by decide +kernel
theorem dX4_firstFault_130 : decode cX4_firstFault 130 = .ok (.iinc 3 (-1), 3) := by decide +kernel
theorem dX4_firstFault_133 : decode cX4_firstFault 133 = .ok (.iinc 6 1, 3) := by decide +kernel
theorem dX4_firstFault_136 : decode cX4_firstFault 136 = .ok (.goto (-125), 3) := by decide +kernel
theorem dX4_firstFault_139 : decode cX4_firstFault 139 = .ok (.iload_n 2, 1) := by decide +kernel
theorem dX4_firstFault_140 : decode cX4_firstFault 140 = .ok (.iconst 5, 1) := by decide +kernel
theorem dX4_firstFault_141 : decode cX4_firstFault 141 = .ok (.if_icmp .lt 7, 3) := by decide +kernel
theorem dX4_firstFault_144 : decode cX4_firstFault 144 = .ok (.iload_n 3, 1) := by decide +kernel
theorem dX4_firstFault_145 : decode cX4_firstFault 145 = .ok (.ifCond .le 7, 3) := by decide +kernel
theorem dX4_firstFault_148 : decode cX4_firstFault 148 = .ok (.iload_n 2, 1) := by decide +kernel
theorem dX4_firstFault_149 : decode cX4_firstFault 149 = .ok (.goto 5, 3) := by decide +kernel
theorem dX4_firstFault_152 : decode cX4_firstFault 152 = .ok (.bipush (-9), 2) := by decide +kernel
theorem dX4_firstFault_154 : decode cX4_firstFault 154 = .ok (.ireturn, 1) := by decide +kernel
theorem dX4_fitsHead_0 : decode cX4_fitsHead 0 = .ok (.iload_n 0, 1) := by decide +kernel
theorem dX4_fitsHead_1 : decode cX4_fitsHead 1 = .ok (.tableswitch 97 0 3 #[31, 43, 61, 79], 31) := by decide +kernel
theorem dX4_fitsHead_32 : decode cX4_fitsHead 32 = .ok (.iload_n 1, 1) := by decide +kernel
theorem dX4_fitsHead_33 : decode cX4_fitsHead 33 = .ok (.bipush 104, 2) := by decide +kernel
theorem dX4_fitsHead_35 : decode cX4_fitsHead 35 = .ok (.if_icmp .ne 7, 3) := by decide +kernel
theorem dX4_fitsHead_38 : decode cX4_fitsHead 38 = .ok (.iconst 1, 1) := by decide +kernel
theorem dX4_fitsHead_39 : decode cX4_fitsHead 39 = .ok (.goto 4, 3) := by decide +kernel
theorem dX4_fitsHead_42 : decode cX4_fitsHead 42 = .ok (.iconst 0, 1) := by decide +kernel
theorem dX4_fitsHead_43 : decode cX4_fitsHead 43 = .ok (.ireturn, 1) := by decide +kernel
theorem dX4_fitsHead_44 : decode cX4_fitsHead 44 = .ok (.iload_n 1, 1) := by decide +kernel
theorem dX4_fitsHead_45 : decode cX4_fitsHead 45 = .ok (.bipush 49, 2) := by decide +kernel
theorem dX4_fitsHead_47 : decode cX4_fitsHead 47 = .ok (.if_icmp .lt 13, 3) := by decide +kernel
theorem dX4_fitsHead_50 : decode cX4_fitsHead 50 = .ok (.iload_n 1, 1) := by decide +kernel
theorem dX4_fitsHead_51 : decode cX4_fitsHead 51 = .ok (.bipush 52, 2) := by decide +kernel
theorem dX4_fitsHead_53 : decode cX4_fitsHead 53 = .ok (.if_icmp .gt 7, 3) := by decide +kernel
theorem dX4_fitsHead_56 : decode cX4_fitsHead 56 = .ok (.iconst 1, 1) := by decide +kernel
theorem dX4_fitsHead_57 : decode cX4_fitsHead 57 = .ok (.goto 4, 3) := by decide +kernel
theorem dX4_fitsHead_60 : decode cX4_fitsHead 60 = .ok (.iconst 0, 1) := by decide +kernel
theorem dX4_fitsHead_61 : decode cX4_fitsHead 61 = .ok (.ireturn, 1) := by decide +kernel
theorem dX4_fitsHead_62 : decode cX4_fitsHead 62 = .ok (.iload_n 1, 1) := by decide +kernel
theorem dX4_fitsHead_63 : decode cX4_fitsHead 63 = .ok (.bipush 50, 2) := by decide +kernel
theorem dX4_fitsHead_65 : decode cX4_fitsHead 65 = .ok (.if_icmp .lt 13, 3) := by decide +kernel
theorem dX4_fitsHead_68 : decode cX4_fitsHead 68 = .ok (.iload_n 1, 1) := by decide +kernel
theorem dX4_fitsHead_69 : decode cX4_fitsHead 69 = .ok (.bipush 52, 2) := by decide +kernel
theorem dX4_fitsHead_71 : decode cX4_fitsHead 71 = .ok (.if_icmp .gt 7, 3) := by decide +kernel
theorem dX4_fitsHead_74 : decode cX4_fitsHead 74 = .ok (.iconst 1, 1) := by decide +kernel
theorem dX4_fitsHead_75 : decode cX4_fitsHead 75 = .ok (.goto 4, 3) := by decide +kernel
theorem dX4_fitsHead_78 : decode cX4_fitsHead 78 = .ok (.iconst 0, 1) := by decide +kernel
theorem dX4_fitsHead_79 : decode cX4_fitsHead 79 = .ok (.ireturn, 1) := by decide +kernel
theorem dX4_fitsHead_80 : decode cX4_fitsHead 80 = .ok (.iload_n 1, 1) := by decide +kernel
theorem dX4_fitsHead_81 : decode cX4_fitsHead 81 = .ok (.bipush 49, 2) := by decide +kernel
theorem dX4_fitsHead_83 : decode cX4_fitsHead 83 = .ok (.if_icmp .lt 13, 3) := by decide +kernel
theorem dX4_fitsHead_86 : decode cX4_fitsHead 86 = .ok (.iload_n 1, 1) := by decide +kernel
theorem dX4_fitsHead_87 : decode cX4_fitsHead 87 = .ok (.bipush 51, 2) := by decide +kernel
theorem dX4_fitsHead_89 : decode cX4_fitsHead 89 = .ok (.if_icmp .gt 7, 3) := by decide +kernel
theorem dX4_fitsHead_92 : decode cX4_fitsHead 92 = .ok (.iconst 1, 1) := by decide +kernel
theorem dX4_fitsHead_93 : decode cX4_fitsHead 93 = .ok (.goto 4, 3) := by decide +kernel
theorem dX4_fitsHead_96 : decode cX4_fitsHead 96 = .ok (.iconst 0, 1) := by decide +kernel
theorem dX4_fitsHead_97 : decode cX4_fitsHead 97 = .ok (.ireturn, 1) := by decide +kernel
theorem dX4_fitsHead_98 : decode cX4_fitsHead 98 = .ok (.iload_n 1, 1) := by decide +kernel
theorem dX4_fitsHead_99 : decode cX4_fitsHead 99 = .ok (.bipush 49, 2) := by decide +kernel
theorem dX4_fitsHead_101 : decode cX4_fitsHead 101 = .ok (.if_icmp .lt 13, 3) := by decide +kernel
theorem dX4_fitsHead_104 : decode cX4_fitsHead 104 = .ok (.iload_n 1, 1) := by decide +kernel
theorem dX4_fitsHead_105 : decode cX4_fitsHead 105 = .ok (.bipush 57, 2) := by decide +kernel
theorem dX4_fitsHead_107 : decode cX4_fitsHead 107 = .ok (.if_icmp .gt 7, 3) := by decide +kernel
theorem dX4_fitsHead_110 : decode cX4_fitsHead 110 = .ok (.iconst 1, 1) := by decide +kernel
theorem dX4_fitsHead_111 : decode cX4_fitsHead 111 = .ok (.goto 4, 3) := by decide +kernel
theorem dX4_fitsHead_114 : decode cX4_fitsHead 114 = .ok (.iconst 0, 1) := by decide +kernel
theorem dX4_fitsHead_115 : decode cX4_fitsHead 115 = .ok (.ireturn, 1) := by decide +kernel
set_option maxRecDepth 20000 in
theorem ggX4_fitsRow_X4_kindOf : GoodIn wsX4_fitsRow wsX4_kindOf := goodIn_r _ [4] (by decide +kernel) (by decide +kernel)
set_option maxRecDepth 20000 in
theorem gX4_fitsRow_X4_kindOf : GoodIn wsX4_fitsRow (va_wsS RX4 237 yX4_kindOf wsX4_kindOf) := goodIn_app (goodIn_of _ (by decide +kernel)) ggX4_fitsRow_X4_kindOf
theorem dX4_fitsRow_0 : decode cX4_fitsRow 0 = .ok (.iload_n 0, 1) := by decide +kernel
theorem dX4_fitsRow_1 : decode cX4_fitsRow 1 = .ok (.ifCond .ne 17, 3) := by decide +kernel
theorem dX4_fitsRow_4 : decode cX4_fitsRow 4 = .ok (.iload_n 1, 1) := by decide +kernel
theorem dX4_fitsRow_5 : decode cX4_fitsRow 5 = .ok (.bipush 59, 2) := by decide +kernel
theorem dX4_fitsRow_7 : decode cX4_fitsRow 7 = .ok (.if_icmp .ne 7, 3) := by decide +kernel
theorem dX4_fitsRow_10 : decode cX4_fitsRow 10 = .ok (.iconst 1, 1) := by decide +kernel
theorem dX4_fitsRow_11 : decode cX4_fitsRow 11 = .ok (.goto 21, 3) := by decide +kernel
theorem dX4_fitsRow_14 : decode cX4_fitsRow 14 = .ok (.iconst 0, 1) := by decide +kernel
theorem dX4_fitsRow_15 : decode cX4_fitsRow 15 = .ok (.goto 17, 3) := by decide +kernel
theorem dX4_fitsRow_18 : decode cX4_fitsRow 18 = .ok (.iload_n 1, 1) := by decide +kernel
theorem dX4_fitsRow_19 : decode cX4_fitsRow 19 = .ok (.invokestatic 237, 3) := by decide +kernel
theorem dX4_fitsRow_22 : decode cX4_fitsRow 22 = .ok (.bipush (-9), 2) := by decide +kernel
theorem dX4_fitsRow_24 : decode cX4_fitsRow 24 = .ok (.if_icmp .eq 7, 3) := by decide +kernel
theorem dX4_fitsRow_27 : decode cX4_fitsRow 27 = .ok (.iconst 1, 1) := by decide +kernel
theorem dX4_fitsRow_28 : decode cX4_fitsRow 28 = .ok (.goto 4, 3) := by decide +kernel
theorem dX4_fitsRow_31 : decode cX4_fitsRow 31 = .ok (.iconst 0, 1) := by decide +kernel
theorem dX4_fitsRow_32 : decode cX4_fitsRow 32 = .ok (.ireturn, 1) := by decide +kernel
theorem dX4_kindOf_0 : decode cX4_kindOf 0 = .ok (.iload_n 0, 1) := by decide +kernel
theorem dX4_kindOf_1 : decode cX4_kindOf 1 = .ok (.lookupswitch 51 #[(35, 49), (103, 43), (111, 47), (115, 45)], 43) := by decide +kernel
theorem dX4_kindOf_44 : decode cX4_kindOf 44 = .ok (.iconst 0, 1) := by decide +kernel
theorem dX4_kindOf_45 : decode cX4_kindOf 45 = .ok (.ireturn, 1) := by decide +kernel
theorem dX4_kindOf_46 : decode cX4_kindOf 46 = .ok (.iconst 1, 1) := by decide +kernel
theorem dX4_kindOf_47 : decode cX4_kindOf 47 = .ok (.ireturn, 1) := by decide +kernel
theorem dX4_kindOf_48 : decode cX4_kindOf 48 = .ok (.iconst 2, 1) := by decide +kernel
theorem dX4_kindOf_49 : decode cX4_kindOf 49 = .ok (.ireturn, 1) := by decide +kernel
theorem dX4_kindOf_50 : decode cX4_kindOf 50 = .ok (.iconst 3, 1) := by decide +kernel
theorem dX4_kindOf_51 : decode cX4_kindOf 51 = .ok (.ireturn, 1) := by decide +kernel
theorem dX4_kindOf_52 : decode cX4_kindOf 52 = .ok (.bipush (-9), 2) := by decide +kernel
theorem dX4_kindOf_54 : decode cX4_kindOf 54 = .ok (.ireturn, 1) := by decide +kernel
set_option maxRecDepth 20000 in
theorem ggX4_followed_X0_ripeCells : GoodIn wsX4_followed wsX0_ripeCells := goodIn_r _ [5, 6, 7, 8, 3, 9, 10, 11, 12, 13, 14, 15, 16, 17, 18, 19, 20, 21, 22, 23, 24, 25, 26, 27, 28, 29, 30, 31, 32, 33, 34, 35, 36, 37, 58, 59, 60, 61, 62, 63, 64] (by decide +kernel) (by decide +kernel)
set_option maxRecDepth 20000 in
theorem gX4_followed_X0_ripeCells_n123 : GoodIn wsX4_followed (wsX0_ripeCells) := ggX4_followed_X0_ripeCells
set_option maxRecDepth 20000 in
theorem ggX4_followed_X4_without : GoodIn wsX4_followed wsX4_without := goodIn_r _ [40, 41, 35, 36, 37] (by decide +kernel) (by decide +kernel)
set_option maxRecDepth 20000 in
theorem gX4_followed_X4_without : GoodIn wsX4_followed (va_wsS RX4 174 yX4_without wsX4_without) := goodIn_app (goodIn_of _ (by decide +kernel)) ggX4_followed_X4_without
set_option maxRecDepth 20000 in
theorem ggX4_followed_X0_beside : GoodIn wsX4_followed wsX0_beside := goodIn_r _ [44, 45, 58, 59, 60, 61, 62, 63, 64] (by decide +kernel) (by decide +kernel)
set_option maxRecDepth 20000 in
theorem gX4_followed_X0_beside_n240 : GoodIn wsX4_followed (wsX0_beside) := ggX4_followed_X0_beside
set_option maxRecDepth 20000 in
theorem ggX4_followed_X4_isIn : GoodIn wsX4_followed wsX4_isIn := goodIn_r _ [48, 41, 35, 36, 37] (by decide +kernel) (by decide +kernel)
set_option maxRecDepth 20000 in
theorem gX4_followed_X4_isIn : GoodIn wsX4_followed (va_wsS RX4 146 yX4_isIn wsX4_isIn) := goodIn_app (goodIn_of _ (by decide +kernel)) ggX4_followed_X4_isIn
set_option maxRecDepth 20000 in
theorem ggX4_followed_X0_inchesOfAll : GoodIn wsX4_followed wsX0_inchesOfAll := goodIn_r _ [51, 6, 7, 8, 3, 9, 10, 11, 47, 36, 48, 41, 35, 37, 18, 19, 20, 21, 22, 23, 24, 25, 26, 27, 28, 29, 30, 31, 32, 33, 16, 34, 58, 59, 60, 61, 62, 63, 64] (by decide +kernel) (by decide +kernel)
set_option maxRecDepth 20000 in
theorem gX4_followed_X0_inchesOfAll_n243 : GoodIn wsX4_followed (wsX0_inchesOfAll) := ggX4_followed_X0_inchesOfAll
theorem dX4_followed_0 : decode cX4_followed 0 = .ok (.aload_n 0, 1) := by decide +kernel
theorem dX4_followed_1 : decode cX4_followed 1 = .ok (.getfield 14, 3) := by decide +kernel
theorem dX4_followed_4 : decode cX4_followed 4 = .ok (.iload_n 1, 1) := by decide +kernel
theorem dX4_followed_5 : decode cX4_followed 5 = .ok (.invokevirtual 123, 3) := by decide +kernel
theorem dX4_followed_8 : decode cX4_followed 8 = .ok (.istore 7, 2) := by decide +kernel
theorem dX4_followed_10 : decode cX4_followed 10 = .ok (.iload 7, 2) := by decide +kernel
theorem dX4_followed_12 : decode cX4_followed 12 = .ok (.iload_n 2, 1) := by decide +kernel
theorem dX4_followed_13 : decode cX4_followed 13 = .ok (.invokestatic 174, 3) := by decide +kernel
theorem dX4_followed_16 : decode cX4_followed 16 = .ok (.istore 8, 2) := by decide +kernel
theorem dX4_followed_18 : decode cX4_followed 18 = .ok (.iload_n 2, 1) := by decide +kernel
theorem dX4_followed_19 : decode cX4_followed 19 = .ok (.istore 9, 2) := by decide +kernel
theorem dX4_followed_21 : decode cX4_followed 21 = .ok (.bipush (-9), 2) := by decide +kernel
theorem dX4_followed_23 : decode cX4_followed 23 = .ok (.istore 10, 2) := by decide +kernel
theorem dX4_followed_25 : decode cX4_followed 25 = .ok (.iconst 0, 1) := by decide +kernel
theorem dX4_followed_26 : decode cX4_followed 26 = .ok (.istore 11, 2) := by decide +kernel
theorem dX4_followed_28 : decode cX4_followed 28 = .ok (.iload 11, 2) := by decide +kernel
theorem dX4_followed_30 : decode cX4_followed 30 = .ok (.iload 5, 2) := by decide +kernel
theorem dX4_followed_32 : decode cX4_followed 32 = .ok (.if_icmp .ge 64, 3) := by decide +kernel
theorem dX4_followed_35 : decode cX4_followed 35 = .ok (.iload 10, 2) := by decide +kernel
theorem dX4_followed_37 : decode cX4_followed 37 = .ok (.bipush (-9), 2) := by decide +kernel
theorem dX4_followed_39 : decode cX4_followed 39 = .ok (.if_icmp .ne 57, 3) := by decide +kernel
theorem dX4_followed_42 : decode cX4_followed 42 = .ok (.aload_n 0, 1) := by decide +kernel
theorem dX4_followed_43 : decode cX4_followed 43 = .ok (.getfield 14, 3) := by decide +kernel
theorem dX4_followed_46 : decode cX4_followed 46 = .ok (.iload 9, 2) := by decide +kernel
theorem dX4_followed_48 : decode cX4_followed 48 = .ok (.aload_n 3, 1) := by decide +kernel
theorem dX4_followed_49 : decode cX4_followed 49 = .ok (.iload 4, 2) := by decide +kernel
theorem dX4_followed_51 : decode cX4_followed 51 = .ok (.iload 11, 2) := by decide +kernel
theorem dX4_followed_53 : decode cX4_followed 53 = .ok (.iadd, 1) := by decide +kernel
theorem dX4_followed_54 : decode cX4_followed 54 = .ok (.iaload, 1) := by decide +kernel
theorem dX4_followed_55 : decode cX4_followed 55 = .ok (.invokevirtual 240, 3) := by decide +kernel
theorem dX4_followed_58 : decode cX4_followed 58 = .ok (.istore 12, 2) := by decide +kernel
theorem dX4_followed_60 : decode cX4_followed 60 = .ok (.iload 8, 2) := by decide +kernel
theorem dX4_followed_62 : decode cX4_followed 62 = .ok (.iload 12, 2) := by decide +kernel
theorem dX4_followed_64 : decode cX4_followed 64 = .ok (.invokestatic 146, 3) := by decide +kernel
theorem dX4_followed_67 : decode cX4_followed 67 = .ok (.ifCond .eq 19, 3) := by decide +kernel
theorem dX4_followed_70 : decode cX4_followed 70 = .ok (.iload 12, 2) := by decide +kernel
theorem dX4_followed_72 : decode cX4_followed 72 = .ok (.istore 9, 2) := by decide +kernel
theorem dX4_followed_74 : decode cX4_followed 74 = .ok (.iload 8, 2) := by decide +kernel
theorem dX4_followed_76 : decode cX4_followed 76 = .ok (.iload 12, 2) := by decide +kernel
theorem dX4_followed_78 : decode cX4_followed 78 = .ok (.invokestatic 174, 3) := by decide +kernel
theorem dX4_followed_81 : decode cX4_followed 81 = .ok (.istore 8, 2) := by decide +kernel
theorem dX4_followed_83 : decode cX4_followed 83 = .ok (.goto 7, 3) := by decide +kernel
theorem dX4_followed_86 : decode cX4_followed 86 = .ok (.iload 11, 2) := by decide +kernel
theorem dX4_followed_88 : decode cX4_followed 88 = .ok (.istore 10, 2) := by decide +kernel
theorem dX4_followed_90 : decode cX4_followed 90 = .ok (.iinc 11 1, 3) := by decide +kernel
theorem dX4_followed_93 : decode cX4_followed 93 = .ok (.goto (-65), 3) := by decide +kernel
theorem dX4_followed_96 : decode cX4_followed 96 = .ok (.iload 6, 2) := by decide +kernel
theorem dX4_followed_98 : decode cX4_followed 98 = .ok (.iconst 1, 1) := by decide +kernel
theorem dX4_followed_99 : decode cX4_followed 99 = .ok (.if_icmp .ne 6, 3) := by decide +kernel
theorem dX4_followed_102 : decode cX4_followed 102 = .ok (.iload 10, 2) := by decide +kernel
theorem dX4_followed_104 : decode cX4_followed 104 = .ok (.ireturn, 1) := by decide +kernel
theorem dX4_followed_105 : decode cX4_followed 105 = .ok (.iload 10, 2) := by decide +kernel
theorem dX4_followed_107 : decode cX4_followed 107 = .ok (.bipush (-9), 2) := by decide +kernel
theorem dX4_followed_109 : decode cX4_followed 109 = .ok (.if_icmp .eq 9, 3) := by decide +kernel
theorem dX4_followed_112 : decode cX4_followed 112 = .ok (.bipush (-100), 2) := by decide +kernel
theorem dX4_followed_114 : decode cX4_followed 114 = .ok (.iload 10, 2) := by decide +kernel
theorem dX4_followed_116 : decode cX4_followed 116 = .ok (.isub, 1) := by decide +kernel
theorem dX4_followed_117 : decode cX4_followed 117 = .ok (.ireturn, 1) := by decide +kernel
theorem dX4_followed_118 : decode cX4_followed 118 = .ok (.iload 6, 2) := by decide +kernel
theorem dX4_followed_120 : decode cX4_followed 120 = .ok (.ifCond .ne 6, 3) := by decide +kernel
theorem dX4_followed_123 : decode cX4_followed 123 = .ok (.iload 9, 2) := by decide +kernel
theorem dX4_followed_125 : decode cX4_followed 125 = .ok (.ireturn, 1) := by decide +kernel
theorem dX4_followed_126 : decode cX4_followed 126 = .ok (.iload 7, 2) := by decide +kernel
theorem dX4_followed_128 : decode cX4_followed 128 = .ok (.iload 8, 2) := by decide +kernel
theorem dX4_followed_130 : decode cX4_followed 130 = .ok (.iconst (-1), 1) := by decide +kernel
theorem dX4_followed_131 : decode cX4_followed 131 = .ok (.ixor, 1) := by decide +kernel
theorem dX4_followed_132 : decode cX4_followed 132 = .ok (.iand, 1) := by decide +kernel
theorem dX4_followed_133 : decode cX4_followed 133 = .ok (.istore 11, 2) := by decide +kernel
theorem dX4_followed_135 : decode cX4_followed 135 = .ok (.iload 6, 2) := by decide +kernel
theorem dX4_followed_137 : decode cX4_followed 137 = .ok (.iconst 2, 1) := by decide +kernel
theorem dX4_followed_138 : decode cX4_followed 138 = .ok (.if_icmp .ne 8, 3) := by decide +kernel
theorem dX4_followed_141 : decode cX4_followed 141 = .ok (.iload 11, 2) := by decide +kernel
theorem dX4_followed_143 : decode cX4_followed 143 = .ok (.goto 13, 3) := by decide +kernel
theorem dX4_followed_146 : decode cX4_followed 146 = .ok (.aload_n 0, 1) := by decide +kernel
theorem dX4_followed_147 : decode cX4_followed 147 = .ok (.getfield 14, 3) := by decide +kernel
theorem dX4_followed_150 : decode cX4_followed 150 = .ok (.iload 11, 2) := by decide +kernel
theorem dX4_followed_152 : decode cX4_followed 152 = .ok (.iload_n 1, 1) := by decide +kernel
theorem dX4_followed_153 : decode cX4_followed 153 = .ok (.invokevirtual 243, 3) := by decide +kernel
theorem dX4_followed_156 : decode cX4_followed 156 = .ok (.ireturn, 1) := by decide +kernel
set_option maxRecDepth 20000 in
theorem ggX4_mostShorn_J6_bitCount_0f7a4 : GoodIn wsX4_mostShorn wsJ6_bitCount_0f7a4 := goodIn_r _ [6, 7, 8, 9] (by decide +kernel) (by decide +kernel)
set_option maxRecDepth 20000 in
theorem gX4_mostShorn_J6_bitCount_0f7a4 : GoodIn wsX4_mostShorn (va_wsS RX4 83 yJ6_bitCount_0f7a4 wsJ6_bitCount_0f7a4) := goodIn_app (goodIn_of _ (by decide +kernel)) ggX4_mostShorn_J6_bitCount_0f7a4
set_option maxRecDepth 20000 in
theorem ggX4_mostShorn_X4_without : GoodIn wsX4_mostShorn wsX4_without := goodIn_r _ [13, 14, 15, 12, 16] (by decide +kernel) (by decide +kernel)
set_option maxRecDepth 20000 in
theorem gX4_mostShorn_X4_without : GoodIn wsX4_mostShorn (va_wsS RX4 174 yX4_without wsX4_without) := goodIn_app (goodIn_of _ (by decide +kernel)) ggX4_mostShorn_X4_without
set_option maxRecDepth 20000 in
theorem ggX4_mostShorn_X4_shear : GoodIn wsX4_mostShorn wsX4_shear := goodIn_r _ [19, 20, 21, 22, 23, 24, 25, 26, 27, 28, 29, 30, 31, 32, 33, 34, 35, 36, 37, 12, 38, 14, 15, 16, 10, 11, 13, 17, 18, 45, 46, 47, 48, 49, 50, 51, 52, 53, 54, 55] (by decide +kernel) (by decide +kernel)
set_option maxRecDepth 20000 in
theorem gX4_mostShorn_X4_shear : GoodIn wsX4_mostShorn (va_wsS RX4 252 yX4_shear wsX4_shear) := goodIn_app (goodIn_of _ (by decide +kernel)) ggX4_mostShorn_X4_shear
theorem dX4_mostShorn_0 : decode cX4_mostShorn 0 = .ok (.aload_n 0, 1) := by decide +kernel
theorem dX4_mostShorn_1 : decode cX4_mostShorn 1 = .ok (.getfield 28, 3) := by decide +kernel
theorem dX4_mostShorn_4 : decode cX4_mostShorn 4 = .ok (.iconst 0, 1) := by decide +kernel
theorem dX4_mostShorn_5 : decode cX4_mostShorn 5 = .ok (.putfield 246, 3) := by decide +kernel
theorem dX4_mostShorn_8 : decode cX4_mostShorn 8 = .ok (.aload_n 0, 1) := by decide +kernel
theorem dX4_mostShorn_9 : decode cX4_mostShorn 9 = .ok (.getfield 28, 3) := by decide +kernel
theorem dX4_mostShorn_12 : decode cX4_mostShorn 12 = .ok (.iload_n 2, 1) := by decide +kernel
theorem dX4_mostShorn_13 : decode cX4_mostShorn 13 = .ok (.invokestatic 83, 3) := by decide +kernel
theorem dX4_mostShorn_16 : decode cX4_mostShorn 16 = .ok (.putfield 249, 3) := by decide +kernel
theorem dX4_mostShorn_19 : decode cX4_mostShorn 19 = .ok (.aload_n 0, 1) := by decide +kernel
theorem dX4_mostShorn_20 : decode cX4_mostShorn 20 = .ok (.getfield 28, 3) := by decide +kernel
theorem dX4_mostShorn_23 : decode cX4_mostShorn 23 = .ok (.aload_n 0, 1) := by decide +kernel
theorem dX4_mostShorn_24 : decode cX4_mostShorn 24 = .ok (.getfield 14, 3) := by decide +kernel
theorem dX4_mostShorn_27 : decode cX4_mostShorn 27 = .ok (.iload_n 1, 1) := by decide +kernel
theorem dX4_mostShorn_28 : decode cX4_mostShorn 28 = .ok (.iload_n 2, 1) := by decide +kernel
theorem dX4_mostShorn_29 : decode cX4_mostShorn 29 = .ok (.iload_n 1, 1) := by decide +kernel
theorem dX4_mostShorn_30 : decode cX4_mostShorn 30 = .ok (.invokestatic 174, 3) := by decide +kernel
theorem dX4_mostShorn_33 : decode cX4_mostShorn 33 = .ok (.iconst 1, 1) := by decide +kernel
theorem dX4_mostShorn_34 : decode cX4_mostShorn 34 = .ok (.invokestatic 252, 3) := by decide +kernel
theorem dX4_mostShorn_37 : decode cX4_mostShorn 37 = .ok (.aload_n 0, 1) := by decide +kernel
theorem dX4_mostShorn_38 : decode cX4_mostShorn 38 = .ok (.getfield 28, 3) := by decide +kernel
theorem dX4_mostShorn_41 : decode cX4_mostShorn 41 = .ok (.getfield 246, 3) := by decide +kernel
theorem dX4_mostShorn_44 : decode cX4_mostShorn 44 = .ok (.ireturn, 1) := by decide +kernel
set_option maxRecDepth 20000 in
theorem ggX4_shear_X2_keep : GoodIn wsX4_shear wsX2_keep := goodIn_r _ [4, 5, 6, 7, 8, 9, 10, 11, 29, 30, 31, 32] (by decide +kernel) (by decide +kernel)
set_option maxRecDepth 20000 in
theorem gX4_shear_X2_keep_n256 : GoodIn wsX4_shear (wsX2_keep) := ggX4_shear_X2_keep
set_option maxRecDepth 20000 in
theorem ggX4_shear_X0_beside : GoodIn wsX4_shear wsX0_beside := goodIn_r _ [15, 16, 33, 34, 35, 36, 37, 38, 39] (by decide +kernel) (by decide +kernel)
set_option maxRecDepth 20000 in
theorem gX4_shear_X0_beside_n240 : GoodIn wsX4_shear (wsX0_beside) := ggX4_shear_X0_beside
set_option maxRecDepth 20000 in
theorem ggX4_shear_X4_isIn : GoodIn wsX4_shear wsX4_isIn := goodIn_r _ [20, 21, 22, 19, 23] (by decide +kernel) (by decide +kernel)
set_option maxRecDepth 20000 in
theorem gX4_shear_X4_isIn : GoodIn wsX4_shear (va_wsS RX4 146 yX4_isIn wsX4_isIn) := goodIn_app (goodIn_of _ (by decide +kernel)) ggX4_shear_X4_isIn
set_option maxRecDepth 20000 in
theorem ggX4_shear_X4_without : GoodIn wsX4_shear wsX4_without := goodIn_r _ [26, 21, 22, 19, 23] (by decide +kernel) (by decide +kernel)
set_option maxRecDepth 20000 in
theorem gX4_shear_X4_without : GoodIn wsX4_shear (va_wsS RX4 174 yX4_without wsX4_without) := goodIn_app (goodIn_of _ (by decide +kernel)) ggX4_shear_X4_without
set_option maxRecDepth 20000 in
theorem ggX4_shear_X4_shear : GoodIn wsX4_shear wsX4_shear := goodIn_r _ [0, 1, 2, 3, 4, 5, 6, 7, 8, 9, 10, 11, 12, 13, 14, 15, 16, 17, 18, 19, 20, 21, 22, 23, 24, 25, 26, 27, 28, 29, 30, 31, 32, 33, 34, 35, 36, 37, 38, 39] (by decide +kernel) (by decide +kernel)
set_option maxRecDepth 20000 in
theorem gX4_shear_X4_shear : GoodIn wsX4_shear (va_wsS RX4 252 yX4_shear wsX4_shear) := goodIn_app (goodIn_of _ (by decide +kernel)) ggX4_shear_X4_shear
theorem dX4_shear_0 : decode cX4_shear 0 = .ok (.iload 4, 2) := by decide +kernel
theorem dX4_shear_2 : decode cX4_shear 2 = .ok (.aload_n 0, 1) := by decide +kernel
theorem dX4_shear_3 : decode cX4_shear 3 = .ok (.getfield 246, 3) := by decide +kernel
theorem dX4_shear_6 : decode cX4_shear 6 = .ok (.if_icmp .le 9, 3) := by decide +kernel
theorem dX4_shear_9 : decode cX4_shear 9 = .ok (.aload_n 0, 1) := by decide +kernel
theorem dX4_shear_10 : decode cX4_shear 10 = .ok (.iload 4, 2) := by decide +kernel
theorem dX4_shear_12 : decode cX4_shear 12 = .ok (.invokevirtual 256, 3) := by decide +kernel
theorem dX4_shear_15 : decode cX4_shear 15 = .ok (.iload 4, 2) := by decide +kernel
theorem dX4_shear_17 : decode cX4_shear 17 = .ok (.bipush 15, 2) := by decide +kernel
theorem dX4_shear_19 : decode cX4_shear 19 = .ok (.if_icmp .le 4, 3) := by decide +kernel
theorem dX4_shear_22 : decode cX4_shear 22 = .ok (.return_, 1) := by decide +kernel
theorem dX4_shear_23 : decode cX4_shear 23 = .ok (.iconst 0, 1) := by decide +kernel
theorem dX4_shear_24 : decode cX4_shear 24 = .ok (.istore 5, 2) := by decide +kernel
theorem dX4_shear_26 : decode cX4_shear 26 = .ok (.iload 5, 2) := by decide +kernel
theorem dX4_shear_28 : decode cX4_shear 28 = .ok (.iconst 4, 1) := by decide +kernel
theorem dX4_shear_29 : decode cX4_shear 29 = .ok (.if_icmp .ge 66, 3) := by decide +kernel
theorem dX4_shear_32 : decode cX4_shear 32 = .ok (.aload_n 0, 1) := by decide +kernel
theorem dX4_shear_33 : decode cX4_shear 33 = .ok (.getfield 246, 3) := by decide +kernel
theorem dX4_shear_36 : decode cX4_shear 36 = .ok (.aload_n 0, 1) := by decide +kernel
theorem dX4_shear_37 : decode cX4_shear 37 = .ok (.getfield 249, 3) := by decide +kernel
theorem dX4_shear_40 : decode cX4_shear 40 = .ok (.if_icmp .ge 55, 3) := by decide +kernel
theorem dX4_shear_43 : decode cX4_shear 43 = .ok (.aload_n 1, 1) := by decide +kernel
theorem dX4_shear_44 : decode cX4_shear 44 = .ok (.iload_n 2, 1) := by decide +kernel
theorem dX4_shear_45 : decode cX4_shear 45 = .ok (.iload 5, 2) := by decide +kernel
theorem dX4_shear_47 : decode cX4_shear 47 = .ok (.invokevirtual 240, 3) := by decide +kernel
theorem dX4_shear_50 : decode cX4_shear 50 = .ok (.istore 6, 2) := by decide +kernel
theorem dX4_shear_52 : decode cX4_shear 52 = .ok (.iload_n 3, 1) := by decide +kernel
theorem dX4_shear_53 : decode cX4_shear 53 = .ok (.iload 6, 2) := by decide +kernel
theorem dX4_shear_55 : decode cX4_shear 55 = .ok (.invokestatic 146, 3) := by decide +kernel
theorem dX4_shear_58 : decode cX4_shear 58 = .ok (.ifCond .eq 31, 3) := by decide +kernel
theorem dX4_shear_61 : decode cX4_shear 61 = .ok (.aload_n 0, 1) := by decide +kernel
theorem dX4_shear_62 : decode cX4_shear 62 = .ok (.getfield 259, 3) := by decide +kernel
theorem dX4_shear_65 : decode cX4_shear 65 = .ok (.iload 4, 2) := by decide +kernel
theorem dX4_shear_67 : decode cX4_shear 67 = .ok (.iconst 1, 1) := by decide +kernel
theorem dX4_shear_68 : decode cX4_shear 68 = .ok (.isub, 1) := by decide +kernel
theorem dX4_shear_69 : decode cX4_shear 69 = .ok (.iload 5, 2) := by decide +kernel
theorem dX4_shear_71 : decode cX4_shear 71 = .ok (.iastore, 1) := by decide +kernel
theorem dX4_shear_72 : decode cX4_shear 72 = .ok (.aload_n 0, 1) := by decide +kernel
theorem dX4_shear_73 : decode cX4_shear 73 = .ok (.aload_n 1, 1) := by decide +kernel
theorem dX4_shear_74 : decode cX4_shear 74 = .ok (.iload 6, 2) := by decide +kernel
theorem dX4_shear_76 : decode cX4_shear 76 = .ok (.iload_n 3, 1) := by decide +kernel
theorem dX4_shear_77 : decode cX4_shear 77 = .ok (.iload 6, 2) := by decide +kernel
theorem dX4_shear_79 : decode cX4_shear 79 = .ok (.invokestatic 174, 3) := by decide +kernel
theorem dX4_shear_82 : decode cX4_shear 82 = .ok (.iload 4, 2) := by decide +kernel
theorem dX4_shear_84 : decode cX4_shear 84 = .ok (.iconst 1, 1) := by decide +kernel
theorem dX4_shear_85 : decode cX4_shear 85 = .ok (.iadd, 1) := by decide +kernel
theorem dX4_shear_86 : decode cX4_shear 86 = .ok (.invokestatic 252, 3) := by decide +kernel
theorem dX4_shear_89 : decode cX4_shear 89 = .ok (.iinc 5 1, 3) := by decide +kernel
theorem dX4_shear_92 : decode cX4_shear 92 = .ok (.goto (-66), 3) := by decide +kernel
theorem dX4_shear_95 : decode cX4_shear 95 = .ok (.return_, 1) := by decide +kernel
set_option maxRecDepth 20000 in
theorem ggX4_shearsAllSoft_X0_softCells : GoodIn wsX4_shearsAllSoft wsX0_softCells := goodIn_r _ [5, 6, 7, 8, 9, 3, 10, 11, 12, 13, 14, 15, 59, 60, 61, 62, 63, 64, 65] (by decide +kernel) (by decide +kernel)
set_option maxRecDepth 20000 in
theorem gX4_shearsAllSoft_X0_softCells_n79 : GoodIn wsX4_shearsAllSoft (wsX0_softCells) := ggX4_shearsAllSoft_X0_softCells
set_option maxRecDepth 20000 in
theorem ggX4_shearsAllSoft_X4_mostShorn : GoodIn wsX4_shearsAllSoft wsX4_mostShorn := goodIn_r _ [19, 20, 1, 21, 22, 23, 24, 25, 26, 27, 28, 29, 14, 30, 31, 13, 15, 32, 33, 34, 35, 36, 37, 38, 39, 40, 41, 42, 43, 44, 45, 46, 3, 47, 48, 49, 50, 51, 52, 53, 54, 55, 56, 57, 58, 66, 67, 68, 69, 59, 60, 61, 62, 63, 64, 65] (by decide +kernel) (by decide +kernel)
set_option maxRecDepth 20000 in
theorem gX4_shearsAllSoft_X4_mostShorn : GoodIn wsX4_shearsAllSoft (wsV RX4 137 RX4 yX4_mostShorn wsX4_mostShorn) := goodIn_app (goodIn_of _ (by decide +kernel)) ggX4_shearsAllSoft_X4_mostShorn
set_option maxRecDepth 20000 in
theorem ggX4_shearsAllSoft_J6_bitCount_0f7a4 : GoodIn wsX4_shearsAllSoft wsJ6_bitCount_0f7a4 := goodIn_r _ [24, 25, 26, 27] (by decide +kernel) (by decide +kernel)
set_option maxRecDepth 20000 in
theorem gX4_shearsAllSoft_J6_bitCount_0f7a4 : GoodIn wsX4_shearsAllSoft (va_wsS RX4 83 yJ6_bitCount_0f7a4 wsJ6_bitCount_0f7a4) := goodIn_app (goodIn_of _ (by decide +kernel)) ggX4_shearsAllSoft_J6_bitCount_0f7a4
theorem dX4_shearsAllSoft_0 : decode cX4_shearsAllSoft 0 = .ok (.aload_n 0, 1) := by decide +kernel
theorem dX4_shearsAllSoft_1 : decode cX4_shearsAllSoft 1 = .ok (.getfield 14, 3) := by decide +kernel
theorem dX4_shearsAllSoft_4 : decode cX4_shearsAllSoft 4 = .ok (.invokevirtual 79, 3) := by decide +kernel
theorem dX4_shearsAllSoft_7 : decode cX4_shearsAllSoft 7 = .ok (.istore_n 2, 1) := by decide +kernel
theorem dX4_shearsAllSoft_8 : decode cX4_shearsAllSoft 8 = .ok (.aload_n 0, 1) := by decide +kernel
theorem dX4_shearsAllSoft_9 : decode cX4_shearsAllSoft 9 = .ok (.iload_n 1, 1) := by decide +kernel
theorem dX4_shearsAllSoft_10 : decode cX4_shearsAllSoft 10 = .ok (.iload_n 2, 1) := by decide +kernel
theorem dX4_shearsAllSoft_11 : decode cX4_shearsAllSoft 11 = .ok (.invokevirtual 137, 3) := by decide +kernel
theorem dX4_shearsAllSoft_14 : decode cX4_shearsAllSoft 14 = .ok (.iload_n 2, 1) := by decide +kernel
theorem dX4_shearsAllSoft_15 : decode cX4_shearsAllSoft 15 = .ok (.invokestatic 83, 3) := by decide +kernel
theorem dX4_shearsAllSoft_18 : decode cX4_shearsAllSoft 18 = .ok (.if_icmp .ne 7, 3) := by decide +kernel
theorem dX4_shearsAllSoft_21 : decode cX4_shearsAllSoft 21 = .ok (.iconst 1, 1) := by decide +kernel
theorem dX4_shearsAllSoft_22 : decode cX4_shearsAllSoft 22 = .ok (.goto 4, 3) := by decide +kernel
theorem dX4_shearsAllSoft_25 : decode cX4_shearsAllSoft 25 = .ok (.iconst 0, 1) := by decide +kernel
theorem dX4_shearsAllSoft_26 : decode cX4_shearsAllSoft 26 = .ok (.ireturn, 1) := by decide +kernel
set_option maxRecDepth 20000 in
theorem ggX4_canBeShornWhole_X0_isAllRipe : GoodIn wsX4_canBeShornWhole wsX0_isAllRipe := goodIn_r _ [5, 6, 7, 8, 3, 9, 10, 11, 12, 13, 14, 15, 16, 17, 18, 19, 20, 21, 22, 23, 24, 25, 26, 27, 28, 29, 30, 31, 32, 33, 34, 35, 36, 37, 38, 39, 40, 41, 42, 43, 44, 45, 100, 101, 102, 103, 104, 105, 106] (by decide +kernel) (by decide +kernel)
set_option maxRecDepth 20000 in
theorem gX4_canBeShornWhole_X0_isAllRipe_n149 : GoodIn wsX4_canBeShornWhole (wsX0_isAllRipe) := ggX4_canBeShornWhole_X0_isAllRipe
set_option maxRecDepth 20000 in
theorem ggX4_canBeShornWhole_X0_cells : GoodIn wsX4_canBeShornWhole wsX0_cells := goodIn_r _ [13, 14, 15, 100, 101, 102, 103, 104, 105, 106] (by decide +kernel) (by decide +kernel)
set_option maxRecDepth 20000 in
theorem gX4_canBeShornWhole_X0_cells_n143 : GoodIn wsX4_canBeShornWhole (wsX0_cells) := ggX4_canBeShornWhole_X0_cells
set_option maxRecDepth 20000 in
theorem ggX4_canBeShornWhole_X0_isSoft : GoodIn wsX4_canBeShornWhole wsX0_isSoft := goodIn_r _ [48, 20, 49, 50, 51, 3, 52, 10, 11, 12, 13, 14, 15, 100, 101, 102, 103, 104, 105, 106] (by decide +kernel) (by decide +kernel)
set_option maxRecDepth 20000 in
theorem gX4_canBeShornWhole_X0_isSoft_n100 : GoodIn wsX4_canBeShornWhole (wsX0_isSoft) := ggX4_canBeShornWhole_X0_isSoft
set_option maxRecDepth 20000 in
theorem ggX4_canBeShornWhole_X4_shearsAllSoft : GoodIn wsX4_canBeShornWhole wsX4_shearsAllSoft := goodIn_r _ [56, 1, 43, 3, 44, 45, 20, 10, 11, 12, 13, 14, 15, 39, 40, 41, 57, 58, 59, 60, 61, 62, 63, 64, 65, 66, 67, 68, 69, 70, 71, 72, 73, 74, 75, 76, 77, 78, 79, 80, 81, 82, 83, 84, 85, 86, 87, 88, 89, 90, 91, 92, 93, 94, 95, 96, 97, 98, 99, 100, 101, 102, 103, 104, 105, 106, 107, 108, 109, 110] (by decide +kernel) (by decide +kernel)
set_option maxRecDepth 20000 in
theorem gX4_canBeShornWhole_X4_shearsAllSoft : GoodIn wsX4_canBeShornWhole (wsV RX4 152 RX4 yX4_shearsAllSoft wsX4_shearsAllSoft) := goodIn_app (goodIn_of _ (by decide +kernel)) ggX4_canBeShornWhole_X4_shearsAllSoft
theorem dX4_canBeShornWhole_0 : decode cX4_canBeShornWhole 0 = .ok (.aload_n 0, 1) := by decide +kernel
theorem dX4_canBeShornWhole_1 : decode cX4_canBeShornWhole 1 = .ok (.getfield 14, 3) := by decide +kernel
theorem dX4_canBeShornWhole_4 : decode cX4_canBeShornWhole 4 = .ok (.iload_n 1, 1) := by decide +kernel
theorem dX4_canBeShornWhole_5 : decode cX4_canBeShornWhole 5 = .ok (.invokevirtual 149, 3) := by decide +kernel
theorem dX4_canBeShornWhole_8 : decode cX4_canBeShornWhole 8 = .ok (.ifCond .ne 5, 3) := by decide +kernel
theorem dX4_canBeShornWhole_11 : decode cX4_canBeShornWhole 11 = .ok (.iconst 0, 1) := by decide +kernel
theorem dX4_canBeShornWhole_12 : decode cX4_canBeShornWhole 12 = .ok (.ireturn, 1) := by decide +kernel
theorem dX4_canBeShornWhole_13 : decode cX4_canBeShornWhole 13 = .ok (.iconst 0, 1) := by decide +kernel
theorem dX4_canBeShornWhole_14 : decode cX4_canBeShornWhole 14 = .ok (.istore_n 2, 1) := by decide +kernel
theorem dX4_canBeShornWhole_15 : decode cX4_canBeShornWhole 15 = .ok (.iload_n 2, 1) := by decide +kernel
theorem dX4_canBeShornWhole_16 : decode cX4_canBeShornWhole 16 = .ok (.aload_n 0, 1) := by decide +kernel
theorem dX4_canBeShornWhole_17 : decode cX4_canBeShornWhole 17 = .ok (.getfield 14, 3) := by decide +kernel
theorem dX4_canBeShornWhole_20 : decode cX4_canBeShornWhole 20 = .ok (.invokevirtual 143, 3) := by decide +kernel
theorem dX4_canBeShornWhole_23 : decode cX4_canBeShornWhole 23 = .ok (.if_icmp .ge 30, 3) := by decide +kernel
theorem dX4_canBeShornWhole_26 : decode cX4_canBeShornWhole 26 = .ok (.aload_n 0, 1) := by decide +kernel
theorem dX4_canBeShornWhole_27 : decode cX4_canBeShornWhole 27 = .ok (.getfield 14, 3) := by decide +kernel
theorem dX4_canBeShornWhole_30 : decode cX4_canBeShornWhole 30 = .ok (.iload_n 2, 1) := by decide +kernel
theorem dX4_canBeShornWhole_31 : decode cX4_canBeShornWhole 31 = .ok (.invokevirtual 100, 3) := by decide +kernel
theorem dX4_canBeShornWhole_34 : decode cX4_canBeShornWhole 34 = .ok (.ifCond .eq 13, 3) := by decide +kernel
theorem dX4_canBeShornWhole_37 : decode cX4_canBeShornWhole 37 = .ok (.aload_n 0, 1) := by decide +kernel
theorem dX4_canBeShornWhole_38 : decode cX4_canBeShornWhole 38 = .ok (.iload_n 2, 1) := by decide +kernel
theorem dX4_canBeShornWhole_39 : decode cX4_canBeShornWhole 39 = .ok (.invokevirtual 152, 3) := by decide +kernel
theorem dX4_canBeShornWhole_42 : decode cX4_canBeShornWhole 42 = .ok (.ifCond .eq 5, 3) := by decide +kernel
theorem dX4_canBeShornWhole_45 : decode cX4_canBeShornWhole 45 = .ok (.iconst 1, 1) := by decide +kernel
theorem dX4_canBeShornWhole_46 : decode cX4_canBeShornWhole 46 = .ok (.ireturn, 1) := by decide +kernel
theorem dX4_canBeShornWhole_47 : decode cX4_canBeShornWhole 47 = .ok (.iinc 2 1, 3) := by decide +kernel
theorem dX4_canBeShornWhole_50 : decode cX4_canBeShornWhole 50 = .ok (.goto (-35), 3) := by decide +kernel
theorem dX4_canBeShornWhole_53 : decode cX4_canBeShornWhole 53 = .ok (.iconst 0, 1) := by decide +kernel
theorem dX4_canBeShornWhole_54 : decode cX4_canBeShornWhole 54 = .ok (.ireturn, 1) := by decide +kernel
set_option maxRecDepth 20000 in
theorem ggX4_couldBeShornWhole_X4_canBeShornWhole : GoodIn wsX4_couldBeShornWhole wsX4_canBeShornWhole := goodIn_r _ [6, 1, 7, 8, 9, 10, 11, 12, 13, 14, 15, 16, 17, 18, 19, 20, 21, 22, 23, 24, 25, 26, 27, 28, 29, 30, 31, 32, 33, 34, 35, 36, 37, 38, 39, 40, 41, 42, 43, 44, 5, 45, 46, 47, 48, 49, 50, 51, 52, 53, 54, 55, 56, 57, 58, 59, 60, 61, 62, 63, 64, 65, 66, 67, 68, 69, 70, 71, 72, 73, 74, 75, 76, 77, 78, 79, 80, 81, 82, 83, 84, 85, 86, 87, 88, 89, 90, 91, 92, 93, 94, 95, 96, 97, 98, 99, 100, 101, 102, 103, 104, 105, 106, 107, 108, 109, 110, 111, 112, 113, 114] (by decide +kernel) (by decide +kernel)
set_option maxRecDepth 20000 in
theorem gX4_couldBeShornWhole_X4_canBeShornWhole : GoodIn wsX4_couldBeShornWhole (wsV RX4 155 RX4 yX4_canBeShornWhole wsX4_canBeShornWhole) := goodIn_app (goodIn_of _ (by decide +kernel)) ggX4_couldBeShornWhole_X4_canBeShornWhole
theorem dX4_couldBeShornWhole_0 : decode cX4_couldBeShornWhole 0 = .ok (.aload_n 0, 1) := by decide +kernel
theorem dX4_couldBeShornWhole_1 : decode cX4_couldBeShornWhole 1 = .ok (.getfield 14, 3) := by decide +kernel
theorem dX4_couldBeShornWhole_4 : decode cX4_couldBeShornWhole 4 = .ok (.getfield 91, 3) := by decide +kernel
theorem dX4_couldBeShornWhole_7 : decode cX4_couldBeShornWhole 7 = .ok (.iload_n 2, 1) := by decide +kernel
theorem dX4_couldBeShornWhole_8 : decode cX4_couldBeShornWhole 8 = .ok (.iconst 0, 1) := by decide +kernel
theorem dX4_couldBeShornWhole_9 : decode cX4_couldBeShornWhole 9 = .ok (.iastore, 1) := by decide +kernel
theorem dX4_couldBeShornWhole_10 : decode cX4_couldBeShornWhole 10 = .ok (.aload_n 0, 1) := by decide +kernel
theorem dX4_couldBeShornWhole_11 : decode cX4_couldBeShornWhole 11 = .ok (.iload_n 1, 1) := by decide +kernel
theorem dX4_couldBeShornWhole_12 : decode cX4_couldBeShornWhole 12 = .ok (.invokevirtual 155, 3) := by decide +kernel
theorem dX4_couldBeShornWhole_15 : decode cX4_couldBeShornWhole 15 = .ok (.istore_n 3, 1) := by decide +kernel
theorem dX4_couldBeShornWhole_16 : decode cX4_couldBeShornWhole 16 = .ok (.aload_n 0, 1) := by decide +kernel
theorem dX4_couldBeShornWhole_17 : decode cX4_couldBeShornWhole 17 = .ok (.getfield 14, 3) := by decide +kernel
theorem dX4_couldBeShornWhole_20 : decode cX4_couldBeShornWhole 20 = .ok (.getfield 91, 3) := by decide +kernel
theorem dX4_couldBeShornWhole_23 : decode cX4_couldBeShornWhole 23 = .ok (.iload_n 2, 1) := by decide +kernel
theorem dX4_couldBeShornWhole_24 : decode cX4_couldBeShornWhole 24 = .ok (.iconst 3, 1) := by decide +kernel
theorem dX4_couldBeShornWhole_25 : decode cX4_couldBeShornWhole 25 = .ok (.iastore, 1) := by decide +kernel
theorem dX4_couldBeShornWhole_26 : decode cX4_couldBeShornWhole 26 = .ok (.iload_n 3, 1) := by decide +kernel
theorem dX4_couldBeShornWhole_27 : decode cX4_couldBeShornWhole 27 = .ok (.ireturn, 1) := by decide +kernel
set_option maxRecDepth 20000 in
theorem ggX4_oddsOn_X0_beside : GoodIn wsX4_oddsOn wsX0_beside := goodIn_r _ [4, 5, 18, 19, 20, 21, 22, 23, 24] (by decide +kernel) (by decide +kernel)
set_option maxRecDepth 20000 in
theorem gX4_oddsOn_X0_beside_n240 : GoodIn wsX4_oddsOn (wsX0_beside) := ggX4_oddsOn_X0_beside
set_option maxRecDepth 20000 in
theorem ggX4_oddsOn_X4_isIn : GoodIn wsX4_oddsOn wsX4_isIn := goodIn_r _ [9, 10, 11, 8, 12] (by decide +kernel) (by decide +kernel)
set_option maxRecDepth 20000 in
theorem gX4_oddsOn_X4_isIn : GoodIn wsX4_oddsOn (va_wsS RX4 146 yX4_isIn wsX4_isIn) := goodIn_app (goodIn_of _ (by decide +kernel)) ggX4_oddsOn_X4_isIn
set_option maxRecDepth 20000 in
theorem ggX4_oddsOn_X4_without : GoodIn wsX4_oddsOn wsX4_without := goodIn_r _ [15, 10, 11, 8, 12] (by decide +kernel) (by decide +kernel)
set_option maxRecDepth 20000 in
theorem gX4_oddsOn_X4_without : GoodIn wsX4_oddsOn (va_wsS RX4 174 yX4_without wsX4_without) := goodIn_app (goodIn_of _ (by decide +kernel)) ggX4_oddsOn_X4_without
set_option maxRecDepth 20000 in
theorem ggX4_oddsOn_X4_oddsOn : GoodIn wsX4_oddsOn wsX4_oddsOn := goodIn_r _ [0, 1, 2, 3, 4, 5, 6, 7, 8, 9, 10, 11, 12, 13, 14, 15, 16, 17, 18, 19, 20, 21, 22, 23, 24] (by decide +kernel) (by decide +kernel)
set_option maxRecDepth 20000 in
theorem gX4_oddsOn_X4_oddsOn : GoodIn wsX4_oddsOn (va_wsS RX4 179 yX4_oddsOn wsX4_oddsOn) := goodIn_app (goodIn_of _ (by decide +kernel)) ggX4_oddsOn_X4_oddsOn
theorem dX4_oddsOn_0 : decode cX4_oddsOn 0 = .ok (.iload_n 2, 1) := by decide +kernel
theorem dX4_oddsOn_1 : decode cX4_oddsOn 1 = .ok (.ifCond .ne 5, 3) := by decide +kernel
theorem dX4_oddsOn_4 : decode cX4_oddsOn 4 = .ok (.lload_n 3, 1) := by decide +kernel
theorem dX4_oddsOn_5 : decode cX4_oddsOn 5 = .ok (.lreturn, 1) := by decide +kernel
theorem dX4_oddsOn_6 : decode cX4_oddsOn 6 = .ok (.iconst 0, 1) := by decide +kernel
theorem dX4_oddsOn_7 : decode cX4_oddsOn 7 = .ok (.istore 6, 2) := by decide +kernel
theorem dX4_oddsOn_9 : decode cX4_oddsOn 9 = .ok (.iconst 0, 1) := by decide +kernel
theorem dX4_oddsOn_10 : decode cX4_oddsOn 10 = .ok (.istore 7, 2) := by decide +kernel
theorem dX4_oddsOn_12 : decode cX4_oddsOn 12 = .ok (.iload 7, 2) := by decide +kernel
theorem dX4_oddsOn_14 : decode cX4_oddsOn 14 = .ok (.iconst 4, 1) := by decide +kernel
theorem dX4_oddsOn_15 : decode cX4_oddsOn 15 = .ok (.if_icmp .ge 33, 3) := by decide +kernel
theorem dX4_oddsOn_18 : decode cX4_oddsOn 18 = .ok (.iload 6, 2) := by decide +kernel
theorem dX4_oddsOn_20 : decode cX4_oddsOn 20 = .ok (.iload_n 2, 1) := by decide +kernel
theorem dX4_oddsOn_21 : decode cX4_oddsOn 21 = .ok (.aload_n 0, 1) := by decide +kernel
theorem dX4_oddsOn_22 : decode cX4_oddsOn 22 = .ok (.iload_n 1, 1) := by decide +kernel
theorem dX4_oddsOn_23 : decode cX4_oddsOn 23 = .ok (.iload 7, 2) := by decide +kernel
theorem dX4_oddsOn_25 : decode cX4_oddsOn 25 = .ok (.invokevirtual 240, 3) := by decide +kernel
theorem dX4_oddsOn_28 : decode cX4_oddsOn 28 = .ok (.invokestatic 146, 3) := by decide +kernel
theorem dX4_oddsOn_31 : decode cX4_oddsOn 31 = .ok (.ifCond .eq 7, 3) := by decide +kernel
theorem dX4_oddsOn_34 : decode cX4_oddsOn 34 = .ok (.iconst 1, 1) := by decide +kernel
theorem dX4_oddsOn_35 : decode cX4_oddsOn 35 = .ok (.goto 4, 3) := by decide +kernel
theorem dX4_oddsOn_38 : decode cX4_oddsOn 38 = .ok (.iconst 0, 1) := by decide +kernel
theorem dX4_oddsOn_39 : decode cX4_oddsOn 39 = .ok (.iadd, 1) := by decide +kernel
theorem dX4_oddsOn_40 : decode cX4_oddsOn 40 = .ok (.istore 6, 2) := by decide +kernel
theorem dX4_oddsOn_42 : decode cX4_oddsOn 42 = .ok (.iinc 7 1, 3) := by decide +kernel
theorem dX4_oddsOn_45 : decode cX4_oddsOn 45 = .ok (.goto (-33), 3) := by decide +kernel
theorem dX4_oddsOn_48 : decode cX4_oddsOn 48 = .ok (.iload 6, 2) := by decide +kernel
theorem dX4_oddsOn_50 : decode cX4_oddsOn 50 = .ok (.ifCond .eq 10, 3) := by decide +kernel
theorem dX4_oddsOn_53 : decode cX4_oddsOn 53 = .ok (.iload 5, 2) := by decide +kernel
theorem dX4_oddsOn_55 : decode cX4_oddsOn 55 = .ok (.bipush 15, 2) := by decide +kernel
theorem dX4_oddsOn_57 : decode cX4_oddsOn 57 = .ok (.if_icmp .le 5, 3) := by decide +kernel
theorem dX4_oddsOn_60 : decode cX4_oddsOn 60 = .ok (.lconst 0, 1) := by decide +kernel
theorem dX4_oddsOn_61 : decode cX4_oddsOn 61 = .ok (.lreturn, 1) := by decide +kernel
theorem dX4_oddsOn_62 : decode cX4_oddsOn 62 = .ok (.lconst 0, 1) := by decide +kernel
theorem dX4_oddsOn_63 : decode cX4_oddsOn 63 = .ok (.lstore 7, 2) := by decide +kernel
theorem dX4_oddsOn_65 : decode cX4_oddsOn 65 = .ok (.iconst 0, 1) := by decide +kernel
theorem dX4_oddsOn_66 : decode cX4_oddsOn 66 = .ok (.istore 9, 2) := by decide +kernel
theorem dX4_oddsOn_68 : decode cX4_oddsOn 68 = .ok (.iload 9, 2) := by decide +kernel
theorem dX4_oddsOn_70 : decode cX4_oddsOn 70 = .ok (.iconst 4, 1) := by decide +kernel
theorem dX4_oddsOn_71 : decode cX4_oddsOn 71 = .ok (.if_icmp .ge 53, 3) := by decide +kernel
theorem dX4_oddsOn_74 : decode cX4_oddsOn 74 = .ok (.aload_n 0, 1) := by decide +kernel
theorem dX4_oddsOn_75 : decode cX4_oddsOn 75 = .ok (.iload_n 1, 1) := by decide +kernel
theorem dX4_oddsOn_76 : decode cX4_oddsOn 76 = .ok (.iload 9, 2) := by decide +kernel
theorem dX4_oddsOn_78 : decode cX4_oddsOn 78 = .ok (.invokevirtual 240, 3) := by decide +kernel
theorem dX4_oddsOn_81 : decode cX4_oddsOn 81 = .ok (.istore 10, 2) := by decide +kernel
theorem dX4_oddsOn_83 : decode cX4_oddsOn 83 = .ok (.iload_n 2, 1) := by decide +kernel
theorem dX4_oddsOn_84 : decode cX4_oddsOn 84 = .ok (.iload 10, 2) := by decide +kernel
theorem dX4_oddsOn_86 : decode cX4_oddsOn 86 = .ok (.invokestatic 146, 3) := by decide +kernel
theorem dX4_oddsOn_89 : decode cX4_oddsOn 89 = .ok (.ifCond .eq 29, 3) := by decide +kernel
theorem dX4_oddsOn_92 : decode cX4_oddsOn 92 = .ok (.lload 7, 2) := by decide +kernel
theorem dX4_oddsOn_94 : decode cX4_oddsOn 94 = .ok (.aload_n 0, 1) := by decide +kernel
theorem dX4_oddsOn_95 : decode cX4_oddsOn 95 = .ok (.iload 10, 2) := by decide +kernel
theorem dX4_oddsOn_97 : decode cX4_oddsOn 97 = .ok (.iload_n 2, 1) := by decide +kernel
theorem dX4_oddsOn_98 : decode cX4_oddsOn 98 = .ok (.iload 10, 2) := by decide +kernel
theorem dX4_oddsOn_100 : decode cX4_oddsOn 100 = .ok (.invokestatic 174, 3) := by decide +kernel
theorem dX4_oddsOn_103 : decode cX4_oddsOn 103 = .ok (.lload_n 3, 1) := by decide +kernel
theorem dX4_oddsOn_104 : decode cX4_oddsOn 104 = .ok (.iload 6, 2) := by decide +kernel
theorem dX4_oddsOn_106 : decode cX4_oddsOn 106 = .ok (.i2l, 1) := by decide +kernel
theorem dX4_oddsOn_107 : decode cX4_oddsOn 107 = .ok (.ldiv, 1) := by decide +kernel
theorem dX4_oddsOn_108 : decode cX4_oddsOn 108 = .ok (.iload 5, 2) := by decide +kernel
theorem dX4_oddsOn_110 : decode cX4_oddsOn 110 = .ok (.iconst 1, 1) := by decide +kernel
theorem dX4_oddsOn_111 : decode cX4_oddsOn 111 = .ok (.iadd, 1) := by decide +kernel
theorem dX4_oddsOn_112 : decode cX4_oddsOn 112 = .ok (.invokestatic 179, 3) := by decide +kernel
theorem dX4_oddsOn_115 : decode cX4_oddsOn 115 = .ok (.ladd, 1) := by decide +kernel
theorem dX4_oddsOn_116 : decode cX4_oddsOn 116 = .ok (.lstore 7, 2) := by decide +kernel
theorem dX4_oddsOn_118 : decode cX4_oddsOn 118 = .ok (.iinc 9 1, 3) := by decide +kernel
theorem dX4_oddsOn_121 : decode cX4_oddsOn 121 = .ok (.goto (-53), 3) := by decide +kernel
theorem dX4_oddsOn_124 : decode cX4_oddsOn 124 = .ok (.lload 7, 2) := by decide +kernel
theorem dX4_oddsOn_126 : decode cX4_oddsOn 126 = .ok (.lreturn, 1) := by decide +kernel
theorem dX4_commonDivisor_0 : decode cX4_commonDivisor 0 = .ok (.iconst 0, 1) := by decide +kernel
theorem dX4_commonDivisor_1 : decode cX4_commonDivisor 1 = .ok (.istore 4, 2) := by decide +kernel
theorem dX4_commonDivisor_3 : decode cX4_commonDivisor 3 = .ok (.iload 4, 2) := by decide +kernel
theorem dX4_commonDivisor_5 : decode cX4_commonDivisor 5 = .ok (.sipush 1000, 3) := by decide +kernel
theorem dX4_commonDivisor_8 : decode cX4_commonDivisor 8 = .ok (.if_icmp .ge 25, 3) := by decide +kernel
theorem dX4_commonDivisor_11 : decode cX4_commonDivisor 11 = .ok (.lload_n 2, 1) := by decide +kernel
theorem dX4_commonDivisor_12 : decode cX4_commonDivisor 12 = .ok (.lconst 0, 1) := by decide +kernel
theorem dX4_commonDivisor_13 : decode cX4_commonDivisor 13 = .ok (.lcmp, 1) := by decide +kernel
theorem dX4_commonDivisor_14 : decode cX4_commonDivisor 14 = .ok (.ifCond .eq 19, 3) := by decide +kernel
theorem dX4_commonDivisor_17 : decode cX4_commonDivisor 17 = .ok (.lload_n 0, 1) := by decide +kernel
theorem dX4_commonDivisor_18 : decode cX4_commonDivisor 18 = .ok (.lload_n 2, 1) := by decide +kernel
theorem dX4_commonDivisor_19 : decode cX4_commonDivisor 19 = .ok (.lrem, 1) := by decide +kernel
theorem dX4_commonDivisor_20 : decode cX4_commonDivisor 20 = .ok (.lstore 5, 2) := by decide +kernel
theorem dX4_commonDivisor_22 : decode cX4_commonDivisor 22 = .ok (.lload_n 2, 1) := by decide +kernel
theorem dX4_commonDivisor_23 : decode cX4_commonDivisor 23 = .ok (.lstore_n 0, 1) := by decide +kernel
theorem dX4_commonDivisor_24 : decode cX4_commonDivisor 24 = .ok (.lload 5, 2) := by decide +kernel
theorem dX4_commonDivisor_26 : decode cX4_commonDivisor 26 = .ok (.lstore_n 2, 1) := by decide +kernel
theorem dX4_commonDivisor_27 : decode cX4_commonDivisor 27 = .ok (.iinc 4 1, 3) := by decide +kernel
theorem dX4_commonDivisor_30 : decode cX4_commonDivisor 30 = .ok (.goto (-27), 3) := by decide +kernel
theorem dX4_commonDivisor_33 : decode cX4_commonDivisor 33 = .ok (.lload_n 0, 1) := by decide +kernel
theorem dX4_commonDivisor_34 : decode cX4_commonDivisor 34 = .ok (.lreturn, 1) := by decide +kernel
theorem dX4_begin_0 : decode cX4_begin 0 = .ok (.aload_n 0, 1) := by decide +kernel
theorem dX4_begin_1 : decode cX4_begin 1 = .ok (.bipush 31, 2) := by decide +kernel
theorem dX4_begin_3 : decode cX4_begin 3 = .ok (.aload_n 0, 1) := by decide +kernel
theorem dX4_begin_4 : decode cX4_begin 4 = .ok (.getfield 42, 3) := by decide +kernel
theorem dX4_begin_7 : decode cX4_begin 7 = .ok (.imul, 1) := by decide +kernel
theorem dX4_begin_8 : decode cX4_begin 8 = .ok (.iload_n 1, 1) := by decide +kernel
theorem dX4_begin_9 : decode cX4_begin 9 = .ok (.iadd, 1) := by decide +kernel
theorem dX4_begin_10 : decode cX4_begin 10 = .ok (.putfield 42, 3) := by decide +kernel
theorem dX4_begin_13 : decode cX4_begin 13 = .ok (.return_, 1) := by decide +kernel
set_option maxRecDepth 20000 in
theorem ggX4_grassTells_X4_begin : GoodIn wsX4_grassTells wsX4_begin := goodIn_r _ [6, 7, 8, 9, 10, 11, 12, 13] (by decide +kernel) (by decide +kernel)
set_option maxRecDepth 20000 in
theorem gX4_grassTells_X4_begin : GoodIn wsX4_grassTells (wsV RX4 224 RX4 yX4_begin wsX4_begin) := goodIn_app (goodIn_of _ (by decide +kernel)) ggX4_grassTells_X4_begin
theorem dX4_grassTells_0 : decode cX4_grassTells 0 = .ok (.aload_n 0, 1) := by decide +kernel
theorem dX4_grassTells_1 : decode cX4_grassTells 1 = .ok (.iconst 1, 1) := by decide +kernel
theorem dX4_grassTells_2 : decode cX4_grassTells 2 = .ok (.invokevirtual 224, 3) := by decide +kernel
theorem dX4_grassTells_5 : decode cX4_grassTells 5 = .ok (.aload_n 0, 1) := by decide +kernel
theorem dX4_grassTells_6 : decode cX4_grassTells 6 = .ok (.getfield 14, 3) := by decide +kernel
theorem dX4_grassTells_9 : decode cX4_grassTells 9 = .ok (.getfield 97, 3) := by decide +kernel
theorem dX4_grassTells_12 : decode cX4_grassTells 12 = .ok (.iload_n 1, 1) := by decide +kernel
theorem dX4_grassTells_13 : decode cX4_grassTells 13 = .ok (.iaload, 1) := by decide +kernel
theorem dX4_grassTells_14 : decode cX4_grassTells 14 = .ok (.ireturn, 1) := by decide +kernel
set_option maxRecDepth 20000 in
theorem ggX4_springTells_X4_begin : GoodIn wsX4_springTells wsX4_begin := goodIn_r _ [5, 6, 12, 13, 14, 15, 16, 17] (by decide +kernel) (by decide +kernel)
set_option maxRecDepth 20000 in
theorem gX4_springTells_X4_begin : GoodIn wsX4_springTells (wsV RX4 224 RX4 yX4_begin wsX4_begin) := goodIn_app (goodIn_of _ (by decide +kernel)) ggX4_springTells_X4_begin
set_option maxRecDepth 20000 in
theorem ggX4_springTells_X4_grassTells : GoodIn wsX4_springTells wsX4_grassTells := goodIn_r _ [10, 11, 1, 2, 3, 4, 5, 6, 12, 13, 14, 15, 16, 17, 18, 19, 20, 21, 22, 23, 24] (by decide +kernel) (by decide +kernel)
set_option maxRecDepth 20000 in
theorem gX4_springTells_X4_grassTells : GoodIn wsX4_springTells (wsV RX4 221 RX4 yX4_grassTells wsX4_grassTells) := goodIn_app (goodIn_of _ (by decide +kernel)) ggX4_springTells_X4_grassTells
theorem dX4_springTells_0 : decode cX4_springTells 0 = .ok (.aload_n 0, 1) := by decide +kernel
theorem dX4_springTells_1 : decode cX4_springTells 1 = .ok (.iconst 2, 1) := by decide +kernel
theorem dX4_springTells_2 : decode cX4_springTells 2 = .ok (.invokevirtual 224, 3) := by decide +kernel
theorem dX4_springTells_5 : decode cX4_springTells 5 = .ok (.aload_n 0, 1) := by decide +kernel
theorem dX4_springTells_6 : decode cX4_springTells 6 = .ok (.iload_n 1, 1) := by decide +kernel
theorem dX4_springTells_7 : decode cX4_springTells 7 = .ok (.invokevirtual 221, 3) := by decide +kernel
theorem dX4_springTells_10 : decode cX4_springTells 10 = .ok (.bipush 100, 2) := by decide +kernel
theorem dX4_springTells_12 : decode cX4_springTells 12 = .ok (.iadd, 1) := by decide +kernel
theorem dX4_springTells_13 : decode cX4_springTells 13 = .ok (.ireturn, 1) := by decide +kernel
set_option maxRecDepth 20000 in
theorem ggX4_hollowTells_X4_begin : GoodIn wsX4_hollowTells wsX4_begin := goodIn_r _ [5, 6, 16, 17, 18, 19, 20, 21] (by decide +kernel) (by decide +kernel)
set_option maxRecDepth 20000 in
theorem gX4_hollowTells_X4_begin : GoodIn wsX4_hollowTells (wsV RX4 224 RX4 yX4_begin wsX4_begin) := goodIn_app (goodIn_of _ (by decide +kernel)) ggX4_hollowTells_X4_begin
set_option maxRecDepth 20000 in
theorem ggX4_hollowTells_X4_springTells : GoodIn wsX4_hollowTells wsX4_springTells := goodIn_r _ [10, 1, 2, 3, 4, 5, 6, 11, 12, 13, 14, 15, 16, 17, 18, 19, 20, 21, 22, 23, 24, 25, 26, 27, 28] (by decide +kernel) (by decide +kernel)
set_option maxRecDepth 20000 in
theorem gX4_hollowTells_X4_springTells : GoodIn wsX4_hollowTells (wsV RX4 218 RX4 yX4_springTells wsX4_springTells) := goodIn_app (goodIn_of _ (by decide +kernel)) ggX4_hollowTells_X4_springTells
set_option maxRecDepth 20000 in
theorem ggX4_hollowTells_X4_grassTells : GoodIn wsX4_hollowTells wsX4_grassTells := goodIn_r _ [14, 15, 1, 2, 3, 4, 5, 6, 16, 17, 18, 19, 20, 21, 22, 23, 24, 25, 26, 27, 28] (by decide +kernel) (by decide +kernel)
set_option maxRecDepth 20000 in
theorem gX4_hollowTells_X4_grassTells : GoodIn wsX4_hollowTells (wsV RX4 221 RX4 yX4_grassTells wsX4_grassTells) := goodIn_app (goodIn_of _ (by decide +kernel)) ggX4_hollowTells_X4_grassTells
theorem dX4_hollowTells_0 : decode cX4_hollowTells 0 = .ok (.aload_n 0, 1) := by decide +kernel
theorem dX4_hollowTells_1 : decode cX4_hollowTells 1 = .ok (.iconst 3, 1) := by decide +kernel
theorem dX4_hollowTells_2 : decode cX4_hollowTells 2 = .ok (.invokevirtual 224, 3) := by decide +kernel
theorem dX4_hollowTells_5 : decode cX4_hollowTells 5 = .ok (.aload_n 0, 1) := by decide +kernel
theorem dX4_hollowTells_6 : decode cX4_hollowTells 6 = .ok (.iload_n 1, 1) := by decide +kernel
theorem dX4_hollowTells_7 : decode cX4_hollowTells 7 = .ok (.invokevirtual 218, 3) := by decide +kernel
theorem dX4_hollowTells_10 : decode cX4_hollowTells 10 = .ok (.istore_n 2, 1) := by decide +kernel
theorem dX4_hollowTells_11 : decode cX4_hollowTells 11 = .ok (.iload_n 2, 1) := by decide +kernel
theorem dX4_hollowTells_12 : decode cX4_hollowTells 12 = .ok (.aload_n 0, 1) := by decide +kernel
theorem dX4_hollowTells_13 : decode cX4_hollowTells 13 = .ok (.iload_n 1, 1) := by decide +kernel
theorem dX4_hollowTells_14 : decode cX4_hollowTells 14 = .ok (.invokevirtual 221, 3) := by decide +kernel
theorem dX4_hollowTells_17 : decode cX4_hollowTells 17 = .ok (.iadd, 1) := by decide +kernel
theorem dX4_hollowTells_18 : decode cX4_hollowTells 18 = .ok (.ireturn, 1) := by decide +kernel
