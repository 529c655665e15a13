theorem dX6_init_0 : decode cX6_init 0 = .ok (.aload_n 0, 1) := by decide +kernel
theorem dX6_init_1 : decode cX6_init 1 = .ok (.invokespecial 1, 3) := by decide +kernel
theorem dX6_init_4 : decode cX6_init 4 = .ok (.aload_n 0, 1) := by decide +kernel
theorem dX6_init_5 : decode cX6_init 5 = .ok (.bipush 7, 2) := by decide +kernel
theorem dX6_init_7 : decode cX6_init 7 = .ok (.newarray .int, 2) := by decide +kernel
theorem dX6_init_9 : decode cX6_init 9 = .ok (.putfield 7, 3) := by decide +kernel
theorem dX6_init_12 : decode cX6_init 12 = .ok (.aload_n 0, 1) := by decide +kernel
theorem dX6_init_13 : decode cX6_init 13 = .ok (.bipush 25, 2) := by decide +kernel
theorem dX6_init_15 : decode cX6_init 15 = .ok (.newarray .int, 2) := by decide +kernel
theorem dX6_init_17 : decode cX6_init 17 = .ok (.putfield 13, 3) := by decide +kernel
theorem dX6_init_20 : decode cX6_init 20 = .ok (.aload_n 0, 1) := by decide +kernel
theorem dX6_init_21 : decode cX6_init 21 = .ok (.bipush 8, 2) := by decide +kernel
theorem dX6_init_23 : decode cX6_init 23 = .ok (.newarray .int, 2) := by decide +kernel
theorem dX6_init_25 : decode cX6_init 25 = .ok (.putfield 16, 3) := by decide +kernel
theorem dX6_init_28 : decode cX6_init 28 = .ok (.aload_n 0, 1) := by decide +kernel
theorem dX6_init_29 : decode cX6_init 29 = .ok (.bipush 8, 2) := by decide +kernel
theorem dX6_init_31 : decode cX6_init 31 = .ok (.newarray .int, 2) := by decide +kernel
theorem dX6_init_33 : decode cX6_init 33 = .ok (.putfield 19, 3) := by decide +kernel
theorem dX6_init_36 : decode cX6_init 36 = .ok (.aload_n 0, 1) := by decide +kernel
theorem dX6_init_37 : decode cX6_init 37 = .ok (.bipush 8, 2) := by decide +kernel
theorem dX6_init_39 : decode cX6_init 39 = .ok (.newarray .int, 2) := by decide +kernel
theorem dX6_init_41 : decode cX6_init 41 = .ok (.putfield 22, 3) := by decide +kernel
theorem dX6_init_44 : decode cX6_init 44 = .ok (.aload_n 0, 1) := by decide +kernel
theorem dX6_init_45 : decode cX6_init 45 = .ok (.bipush 8, 2) := by decide +kernel
theorem dX6_init_47 : decode cX6_init 47 = .ok (.newarray .int, 2) := by decide +kernel
theorem dX6_init_49 : decode cX6_init 49 = .ok (.putfield 25, 3) := by decide +kernel
theorem dX6_init_52 : decode cX6_init 52 = .ok (.aload_n 0, 1) := by decide +kernel
theorem dX6_init_53 : decode cX6_init 53 = .ok (.bipush 96, 2) := by decide +kernel
theorem dX6_init_55 : decode cX6_init 55 = .ok (.newarray .int, 2) := by decide +kernel
theorem dX6_init_57 : decode cX6_init 57 = .ok (.putfield 28, 3) := by decide +kernel
theorem dX6_init_60 : decode cX6_init 60 = .ok (.aload_n 0, 1) := by decide +kernel
theorem dX6_init_61 : decode cX6_init 61 = .ok (.bipush 48, 2) := by decide +kernel
theorem dX6_init_63 : decode cX6_init 63 = .ok (.newarray .int, 2) := by decide +kernel
theorem dX6_init_65 : decode cX6_init 65 = .ok (.putfield 31, 3) := by decide +kernel
theorem dX6_init_68 : decode cX6_init 68 = .ok (.aload_n 0, 1) := by decide +kernel
theorem dX6_init_69 : decode cX6_init 69 = .ok (.bipush 48, 2) := by decide +kernel
theorem dX6_init_71 : decode cX6_init 71 = .ok (.newarray .int, 2) := by decide +kernel
theorem dX6_init_73 : decode cX6_init 73 = .ok (.putfield 34, 3) := by decide +kernel
theorem dX6_init_76 : decode cX6_init 76 = .ok (.aload_n 0, 1) := by decide +kernel
theorem dX6_init_77 : decode cX6_init 77 = .ok (.sipush 192, 3) := by decide +kernel
theorem dX6_init_80 : decode cX6_init 80 = .ok (.newarray .int, 2) := by decide +kernel
theorem dX6_init_82 : decode cX6_init 82 = .ok (.putfield 37, 3) := by decide +kernel
theorem dX6_init_85 : decode cX6_init 85 = .ok (.aload_n 0, 1) := by decide +kernel
theorem dX6_init_86 : decode cX6_init 86 = .ok (.sipush 180, 3) := by decide +kernel
theorem dX6_init_89 : decode cX6_init 89 = .ok (.newarray .int, 2) := by decide +kernel
theorem dX6_init_91 : decode cX6_init 91 = .ok (.putfield 40, 3) := by decide +kernel
theorem dX6_init_94 : decode cX6_init 94 = .ok (.aload_n 0, 1) := by decide +kernel
theorem dX6_init_95 : decode cX6_init 95 = .ok (.bipush 8, 2) := by decide +kernel
theorem dX6_init_97 : decode cX6_init 97 = .ok (.newarray .int, 2) := by decide +kernel
theorem dX6_init_99 : decode cX6_init 99 = .ok (.putfield 43, 3) := by decide +kernel
theorem dX6_init_102 : decode cX6_init 102 = .ok (.aload_n 0, 1) := by decide +kernel
theorem dX6_init_103 : decode cX6_init 103 = .ok (.iconst 4, 1) := by decide +kernel
theorem dX6_init_104 : decode cX6_init 104 = .ok (.newarray .int, 2) := by decide +kernel
theorem dX6_init_106 : decode cX6_init 106 = .ok (.putfield 46, 3) := by decide +kernel
theorem dX6_init_109 : decode cX6_init 109 = .ok (.aload_n 0, 1) := by decide +kernel
theorem dX6_init_110 : decode cX6_init 110 = .ok (.bipush 16, 2) := by decide +kernel
theorem dX6_init_112 : decode cX6_init 112 = .ok (.newarray .int, 2) := by decide +kernel
theorem dX6_init_114 : decode cX6_init 114 = .ok (.putfield 49, 3) := by decide +kernel
theorem dX6_init_117 : decode cX6_init 117 = .ok (.aload_n 0, 1) := by decide +kernel
theorem dX6_init_118 : decode cX6_init 118 = .ok (.iconst 0, 1) := by decide +kernel
theorem dX6_init_119 : decode cX6_init 119 = .ok (.putfield 52, 3) := by decide +kernel
theorem dX6_init_122 : decode cX6_init 122 = .ok (.return_, 1) := by decide +kernel
theorem dX6_no_0 : decode cX6_no 0 = .ok (.aload_n 0, 1) := by decide +kernel
theorem dX6_no_1 : decode cX6_no 1 = .ok (.getfield 7, 3) := by decide +kernel
theorem dX6_no_4 : decode cX6_no 4 = .ok (.iload_n 1, 1) := by decide +kernel
theorem dX6_no_5 : decode cX6_no 5 = .ok (.ineg, 1) := by decide +kernel
theorem dX6_no_6 : decode cX6_no 6 = .ok (.dup2, 1) := by decide +kernel
theorem dX6_no_7 : decode cX6_no 7 = .ok (.iaload, 1) := by decide +kernel
theorem dX6_no_8 : decode cX6_no 8 = .ok (.iconst 1, 1) := by decide +kernel
theorem dX6_no_9 : decode cX6_no 9 = .ok (.iadd, 1) := by decide +kernel
theorem dX6_no_10 : decode cX6_no 10 = .ok (.iastore, 1) := by decide +kernel
theorem dX6_no_11 : decode cX6_no 11 = .ok (.iload_n 1, 1) := by decide +kernel
theorem dX6_no_12 : decode cX6_no 12 = .ok (.ireturn, 1) := by decide +kernel
theorem dX6_lower_0 : decode cX6_lower 0 = .ok (.aload_n 0, 1) := by decide +kernel
theorem dX6_lower_1 : decode cX6_lower 1 = .ok (.getfield 7, 3) := by decide +kernel
theorem dX6_lower_4 : decode cX6_lower 4 = .ok (.iload_n 1, 1) := by decide +kernel
theorem dX6_lower_5 : decode cX6_lower 5 = .ok (.ineg, 1) := by decide +kernel
theorem dX6_lower_6 : decode cX6_lower 6 = .ok (.dup2, 1) := by decide +kernel
theorem dX6_lower_7 : decode cX6_lower 7 = .ok (.iaload, 1) := by decide +kernel
theorem dX6_lower_8 : decode cX6_lower 8 = .ok (.iconst 1, 1) := by decide +kernel
theorem dX6_lower_9 : decode cX6_lower 9 = .ok (.iadd, 1) := by decide +kernel
theorem dX6_lower_10 : decode cX6_lower 10 = .ok (.iastore, 1) := by decide +kernel
theorem dX6_lower_11 : decode cX6_lower 11 = .ok (.ldc 56, 2) := by decide +kernel
theorem dX6_lower_13 : decode cX6_lower 13 = .ok (.iload_n 1, 1) := by decide +kernel
theorem dX6_lower_14 : decode cX6_lower 14 = .ok (.isub, 1) := by decide +kernel
theorem dX6_lower_15 : decode cX6_lower 15 = .ok (.ireturn, 1) := by decide +kernel
theorem dX6_lowest_0 : decode cX6_lowest 0 = .ok (.aload_n 0, 1) := by decide +kernel
theorem dX6_lowest_1 : decode cX6_lowest 1 = .ok (.getfield 7, 3) := by decide +kernel
theorem dX6_lowest_4 : decode cX6_lowest 4 = .ok (.iload_n 1, 1) := by decide +kernel
theorem dX6_lowest_5 : decode cX6_lowest 5 = .ok (.ineg, 1) := by decide +kernel
theorem dX6_lowest_6 : decode cX6_lowest 6 = .ok (.dup2, 1) := by decide +kernel
theorem dX6_lowest_7 : decode cX6_lowest 7 = .ok (.iaload, 1) := by decide +kernel
theorem dX6_lowest_8 : decode cX6_lowest 8 = .ok (.iconst 1, 1) := by decide +kernel
theorem dX6_lowest_9 : decode cX6_lowest 9 = .ok (.iadd, 1) := by decide +kernel
theorem dX6_lowest_10 : decode cX6_lowest 10 = .ok (.iastore, 1) := by decide +kernel
theorem dX6_lowest_11 : decode cX6_lowest 11 = .ok (.ldc2_w 57, 3) := by decide +kernel
theorem dX6_lowest_14 : decode cX6_lowest 14 = .ok (.iload_n 1, 1) := by decide +kernel
theorem dX6_lowest_15 : decode cX6_lowest 15 = .ok (.i2l, 1) := by decide +kernel
theorem dX6_lowest_16 : decode cX6_lowest 16 = .ok (.lsub, 1) := by decide +kernel
theorem dX6_lowest_17 : decode cX6_lowest 17 = .ok (.lreturn, 1) := by decide +kernel
theorem dX6_isIn_0 : decode cX6_isIn 0 = .ok (.iload_n 0, 1) := by decide +kernel
theorem dX6_isIn_1 : decode cX6_isIn 1 = .ok (.iload_n 1, 1) := by decide +kernel
theorem dX6_isIn_2 : decode cX6_isIn 2 = .ok (.if_icmp .lt 12, 3) := by decide +kernel
theorem dX6_isIn_5 : decode cX6_isIn 5 = .ok (.iload_n 0, 1) := by decide +kernel
theorem dX6_isIn_6 : decode cX6_isIn 6 = .ok (.iload_n 2, 1) := by decide +kernel
theorem dX6_isIn_7 : decode cX6_isIn 7 = .ok (.if_icmp .gt 7, 3) := by decide +kernel
theorem dX6_isIn_10 : decode cX6_isIn 10 = .ok (.iconst 1, 1) := by decide +kernel
theorem dX6_isIn_11 : decode cX6_isIn 11 = .ok (.goto 4, 3) := by decide +kernel
theorem dX6_isIn_14 : decode cX6_isIn 14 = .ok (.iconst 0, 1) := by decide +kernel
theorem dX6_isIn_15 : decode cX6_isIn 15 = .ok (.ireturn, 1) := by decide +kernel
theorem dX6_bound_0 : decode cX6_bound 0 = .ok (.iload_n 0, 1) := by decide +kernel
theorem dX6_bound_1 : decode cX6_bound 1 = .ok (.iload_n 1, 1) := by decide +kernel
theorem dX6_bound_2 : decode cX6_bound 2 = .ok (.if_icmp .ge 8, 3) := by decide +kernel
theorem dX6_bound_5 : decode cX6_bound 5 = .ok (.bipush (-4), 2) := by decide +kernel
theorem dX6_bound_7 : decode cX6_bound 7 = .ok (.goto 14, 3) := by decide +kernel
theorem dX6_bound_10 : decode cX6_bound 10 = .ok (.iload_n 0, 1) := by decide +kernel
theorem dX6_bound_11 : decode cX6_bound 11 = .ok (.iload_n 2, 1) := by decide +kernel
theorem dX6_bound_12 : decode cX6_bound 12 = .ok (.if_icmp .le 8, 3) := by decide +kernel
theorem dX6_bound_15 : decode cX6_bound 15 = .ok (.bipush (-6), 2) := by decide +kernel
theorem dX6_bound_17 : decode cX6_bound 17 = .ok (.goto 4, 3) := by decide +kernel
theorem dX6_bound_20 : decode cX6_bound 20 = .ok (.iconst 0, 1) := by decide +kernel
theorem dX6_bound_21 : decode cX6_bound 21 = .ok (.ireturn, 1) := by decide +kernel
theorem dX6_held_0 : decode cX6_held 0 = .ok (.iload_n 0, 1) := by decide +kernel
theorem dX6_held_1 : decode cX6_held 1 = .ok (.iload_n 1, 1) := by decide +kernel
theorem dX6_held_2 : decode cX6_held 2 = .ok (.if_icmp .ge 7, 3) := by decide +kernel
theorem dX6_held_5 : decode cX6_held 5 = .ok (.iload_n 1, 1) := by decide +kernel
theorem dX6_held_6 : decode cX6_held 6 = .ok (.goto 13, 3) := by decide +kernel
theorem dX6_held_9 : decode cX6_held 9 = .ok (.iload_n 0, 1) := by decide +kernel
theorem dX6_held_10 : decode cX6_held 10 = .ok (.iload_n 2, 1) := by decide +kernel
theorem dX6_held_11 : decode cX6_held 11 = .ok (.if_icmp .le 7, 3) := by decide +kernel
theorem dX6_held_14 : decode cX6_held 14 = .ok (.iload_n 2, 1) := by decide +kernel
theorem dX6_held_15 : decode cX6_held 15 = .ok (.goto 4, 3) := by decide +kernel
theorem dX6_held_18 : decode cX6_held 18 = .ok (.iload_n 0, 1) := by decide +kernel
theorem dX6_held_19 : decode cX6_held 19 = .ok (.ireturn, 1) := by decide +kernel
theorem dX6_has_0 : decode cX6_has 0 = .ok (.iload_n 0, 1) := by decide +kernel
theorem dX6_has_1 : decode cX6_has 1 = .ok (.iload_n 1, 1) := by decide +kernel
theorem dX6_has_2 : decode cX6_has 2 = .ok (.ishr, 1) := by decide +kernel
theorem dX6_has_3 : decode cX6_has 3 = .ok (.iconst 1, 1) := by decide +kernel
theorem dX6_has_4 : decode cX6_has 4 = .ok (.iand, 1) := by decide +kernel
theorem dX6_has_5 : decode cX6_has 5 = .ok (.iconst 1, 1) := by decide +kernel
theorem dX6_has_6 : decode cX6_has 6 = .ok (.if_icmp .ne 7, 3) := by decide +kernel
theorem dX6_has_9 : decode cX6_has 9 = .ok (.iconst 1, 1) := by decide +kernel
theorem dX6_has_10 : decode cX6_has 10 = .ok (.goto 4, 3) := by decide +kernel
theorem dX6_has_13 : decode cX6_has 13 = .ok (.iconst 0, 1) := by decide +kernel
theorem dX6_has_14 : decode cX6_has 14 = .ok (.ireturn, 1) := by decide +kernel
theorem dX6_bits_0 : decode cX6_bits 0 = .ok (.iconst 0, 1) := by decide +kernel
theorem dX6_bits_1 : decode cX6_bits 1 = .ok (.istore_n 1, 1) := by decide +kernel
theorem dX6_bits_2 : decode cX6_bits 2 = .ok (.iconst 0, 1) := by decide +kernel
theorem dX6_bits_3 : decode cX6_bits 3 = .ok (.istore_n 2, 1) := by decide +kernel
theorem dX6_bits_4 : decode cX6_bits 4 = .ok (.iload_n 2, 1) := by decide +kernel
theorem dX6_bits_5 : decode cX6_bits 5 = .ok (.bipush 31, 2) := by decide +kernel
theorem dX6_bits_7 : decode cX6_bits 7 = .ok (.if_icmp .ge 17, 3) := by decide +kernel
theorem dX6_bits_10 : decode cX6_bits 10 = .ok (.iload_n 1, 1) := by decide +kernel
theorem dX6_bits_11 : decode cX6_bits 11 = .ok (.iload_n 0, 1) := by decide +kernel
theorem dX6_bits_12 : decode cX6_bits 12 = .ok (.iload_n 2, 1) := by decide +kernel
theorem dX6_bits_13 : decode cX6_bits 13 = .ok (.ishr, 1) := by decide +kernel
theorem dX6_bits_14 : decode cX6_bits 14 = .ok (.iconst 1, 1) := by decide +kernel
theorem dX6_bits_15 : decode cX6_bits 15 = .ok (.iand, 1) := by decide +kernel
theorem dX6_bits_16 : decode cX6_bits 16 = .ok (.iadd, 1) := by decide +kernel
theorem dX6_bits_17 : decode cX6_bits 17 = .ok (.istore_n 1, 1) := by decide +kernel
theorem dX6_bits_18 : decode cX6_bits 18 = .ok (.iinc 2 1, 3) := by decide +kernel
theorem dX6_bits_21 : decode cX6_bits 21 = .ok (.goto (-17), 3) := by decide +kernel
theorem dX6_bits_24 : decode cX6_bits 24 = .ok (.iload_n 1, 1) := by decide +kernel
theorem dX6_bits_25 : decode cX6_bits 25 = .ok (.ireturn, 1) := by decide +kernel
theorem dX6_isCell_0 : decode cX6_isCell 0 = .ok (.iload_n 0, 1) := by decide +kernel
theorem dX6_isCell_1 : decode cX6_isCell 1 = .ok (.ifCond .lt 13, 3) := by decide +kernel
theorem dX6_isCell_4 : decode cX6_isCell 4 = .ok (.iload_n 0, 1) := by decide +kernel
theorem dX6_isCell_5 : decode cX6_isCell 5 = .ok (.bipush 25, 2) := by decide +kernel
theorem dX6_isCell_7 : decode cX6_isCell 7 = .ok (.if_icmp .ge 7, 3) := by decide +kernel
theorem dX6_isCell_10 : decode cX6_isCell 10 = .ok (.iconst 1, 1) := by decide +kernel
theorem dX6_isCell_11 : decode cX6_isCell 11 = .ok (.goto 4, 3) := by decide +kernel
theorem dX6_isCell_14 : decode cX6_isCell 14 = .ok (.iconst 0, 1) := by decide +kernel
theorem dX6_isCell_15 : decode cX6_isCell 15 = .ok (.ireturn, 1) := by decide +kernel
theorem dX6_isOne_0 : decode cX6_isOne 0 = .ok (.iload_n 1, 1) := by decide +kernel
theorem dX6_isOne_1 : decode cX6_isOne 1 = .ok (.ifCond .lt 15, 3) := by decide +kernel
theorem dX6_isOne_4 : decode cX6_isOne 4 = .ok (.iload_n 1, 1) := by decide +kernel
theorem dX6_isOne_5 : decode cX6_isOne 5 = .ok (.aload_n 0, 1) := by decide +kernel
theorem dX6_isOne_6 : decode cX6_isOne 6 = .ok (.getfield 52, 3) := by decide +kernel
theorem dX6_isOne_9 : decode cX6_isOne 9 = .ok (.if_icmp .ge 7, 3) := by decide +kernel
theorem dX6_isOne_12 : decode cX6_isOne 12 = .ok (.iconst 1, 1) := by decide +kernel
theorem dX6_isOne_13 : decode cX6_isOne 13 = .ok (.goto 4, 3) := by decide +kernel
theorem dX6_isOne_16 : decode cX6_isOne 16 = .ok (.iconst 0, 1) := by decide +kernel
theorem dX6_isOne_17 : decode cX6_isOne 17 = .ok (.ireturn, 1) := by decide +kernel
set_option maxRecDepth 20000 in
theorem ggX6_isThere_X6_has : GoodIn wsX6_isThere wsX6_has := goodIn_r _ [6] (by decide +kernel) (by decide +kernel)
set_option maxRecDepth 20000 in
theorem gX6_isThere_X6_has : GoodIn wsX6_isThere (va_wsS RX6 62 yX6_has wsX6_has) := goodIn_app (goodIn_of _ (by decide +kernel)) ggX6_isThere_X6_has
theorem dX6_isThere_0 : decode cX6_isThere 0 = .ok (.iload_n 1, 1) := by decide +kernel
theorem dX6_isThere_1 : decode cX6_isThere 1 = .ok (.aload_n 0, 1) := by decide +kernel
theorem dX6_isThere_2 : decode cX6_isThere 2 = .ok (.getfield 52, 3) := by decide +kernel
theorem dX6_isThere_5 : decode cX6_isThere 5 = .ok (.if_icmp .ge 18, 3) := by decide +kernel
theorem dX6_isThere_8 : decode cX6_isThere 8 = .ok (.aload_n 0, 1) := by decide +kernel
theorem dX6_isThere_9 : decode cX6_isThere 9 = .ok (.getfield 59, 3) := by decide +kernel
theorem dX6_isThere_12 : decode cX6_isThere 12 = .ok (.iload_n 1, 1) := by decide +kernel
theorem dX6_isThere_13 : decode cX6_isThere 13 = .ok (.invokestatic 62, 3) := by decide +kernel
theorem dX6_isThere_16 : decode cX6_isThere 16 = .ok (.ifCond .ne 7, 3) := by decide +kernel
theorem dX6_isThere_19 : decode cX6_isThere 19 = .ok (.iconst 1, 1) := by decide +kernel
theorem dX6_isThere_20 : decode cX6_isThere 20 = .ok (.goto 4, 3) := by decide +kernel
theorem dX6_isThere_23 : decode cX6_isThere 23 = .ok (.iconst 0, 1) := by decide +kernel
theorem dX6_isThere_24 : decode cX6_isThere 24 = .ok (.ireturn, 1) := by decide +kernel
set_option maxRecDepth 20000 in
theorem ggX6_letter_X6_bound : GoodIn wsX6_letter wsX6_bound := goodIn_r _ [6] (by decide +kernel) (by decide +kernel)
set_option maxRecDepth 20000 in
theorem gX6_letter_X6_bound : GoodIn wsX6_letter (va_wsS RX6 66 yX6_bound wsX6_bound) := goodIn_app (goodIn_of _ (by decide +kernel)) ggX6_letter_X6_bound
set_option maxRecDepth 20000 in
theorem ggX6_letter_X6_no : GoodIn wsX6_letter wsX6_no := goodIn_r _ [10, 11, 12, 13, 14, 15, 16, 17, 18, 19, 20, 21, 22, 23, 24, 25, 26, 27, 28, 29, 30, 31, 32, 33, 34, 35, 36] (by decide +kernel) (by decide +kernel)
set_option maxRecDepth 20000 in
theorem gX6_letter_X6_no : GoodIn wsX6_letter (wsV RX6 73 RX6 yX6_no wsX6_no) := goodIn_app (goodIn_of _ (by decide +kernel)) ggX6_letter_X6_no
theorem dX6_letter_0 : decode cX6_letter 0 = .ok (.iload_n 1, 1) := by decide +kernel
theorem dX6_letter_1 : decode cX6_letter 1 = .ok (.iconst 0, 1) := by decide +kernel
theorem dX6_letter_2 : decode cX6_letter 2 = .ok (.sipush 255, 3) := by decide +kernel
theorem dX6_letter_5 : decode cX6_letter 5 = .ok (.invokestatic 66, 3) := by decide +kernel
theorem dX6_letter_8 : decode cX6_letter 8 = .ok (.istore_n 2, 1) := by decide +kernel
theorem dX6_letter_9 : decode cX6_letter 9 = .ok (.iload_n 2, 1) := by decide +kernel
theorem dX6_letter_10 : decode cX6_letter 10 = .ok (.ifCond .ne 15, 3) := by decide +kernel
theorem dX6_letter_13 : decode cX6_letter 13 = .ok (.aload_n 0, 1) := by decide +kernel
theorem dX6_letter_14 : decode cX6_letter 14 = .ok (.getfield 70, 3) := by decide +kernel
theorem dX6_letter_17 : decode cX6_letter 17 = .ok (.bipush 96, 2) := by decide +kernel
theorem dX6_letter_19 : decode cX6_letter 19 = .ok (.if_icmp .ne 6, 3) := by decide +kernel
theorem dX6_letter_22 : decode cX6_letter 22 = .ok (.bipush (-6), 2) := by decide +kernel
theorem dX6_letter_24 : decode cX6_letter 24 = .ok (.istore_n 2, 1) := by decide +kernel
theorem dX6_letter_25 : decode cX6_letter 25 = .ok (.iload_n 2, 1) := by decide +kernel
theorem dX6_letter_26 : decode cX6_letter 26 = .ok (.ifCond .eq 9, 3) := by decide +kernel
theorem dX6_letter_29 : decode cX6_letter 29 = .ok (.aload_n 0, 1) := by decide +kernel
theorem dX6_letter_30 : decode cX6_letter 30 = .ok (.iload_n 2, 1) := by decide +kernel
theorem dX6_letter_31 : decode cX6_letter 31 = .ok (.invokevirtual 73, 3) := by decide +kernel
theorem dX6_letter_34 : decode cX6_letter 34 = .ok (.ireturn, 1) := by decide +kernel
theorem dX6_letter_35 : decode cX6_letter 35 = .ok (.aload_n 0, 1) := by decide +kernel
theorem dX6_letter_36 : decode cX6_letter 36 = .ok (.getfield 28, 3) := by decide +kernel
theorem dX6_letter_39 : decode cX6_letter 39 = .ok (.aload_n 0, 1) := by decide +kernel
theorem dX6_letter_40 : decode cX6_letter 40 = .ok (.getfield 70, 3) := by decide +kernel
theorem dX6_letter_43 : decode cX6_letter 43 = .ok (.iload_n 1, 1) := by decide +kernel
theorem dX6_letter_44 : decode cX6_letter 44 = .ok (.iastore, 1) := by decide +kernel
theorem dX6_letter_45 : decode cX6_letter 45 = .ok (.aload_n 0, 1) := by decide +kernel
theorem dX6_letter_46 : decode cX6_letter 46 = .ok (.dup, 1) := by decide +kernel
theorem dX6_letter_47 : decode cX6_letter 47 = .ok (.getfield 70, 3) := by decide +kernel
theorem dX6_letter_50 : decode cX6_letter 50 = .ok (.iconst 1, 1) := by decide +kernel
theorem dX6_letter_51 : decode cX6_letter 51 = .ok (.iadd, 1) := by decide +kernel
theorem dX6_letter_52 : decode cX6_letter 52 = .ok (.putfield 70, 3) := by decide +kernel
theorem dX6_letter_55 : decode cX6_letter 55 = .ok (.aload_n 0, 1) := by decide +kernel
theorem dX6_letter_56 : decode cX6_letter 56 = .ok (.getfield 70, 3) := by decide +kernel
theorem dX6_letter_59 : decode cX6_letter 59 = .ok (.ireturn, 1) := by decide +kernel
theorem dX6_next_0 : decode cX6_next 0 = .ok (.aload_n 0, 1) := by decide +kernel
theorem dX6_next_1 : decode cX6_next 1 = .ok (.getfield 77, 3) := by decide +kernel
theorem dX6_next_4 : decode cX6_next 4 = .ok (.aload_n 0, 1) := by decide +kernel
theorem dX6_next_5 : decode cX6_next 5 = .ok (.getfield 70, 3) := by decide +kernel
theorem dX6_next_8 : decode cX6_next 8 = .ok (.if_icmp .ge 15, 3) := by decide +kernel
theorem dX6_next_11 : decode cX6_next 11 = .ok (.aload_n 0, 1) := by decide +kernel
theorem dX6_next_12 : decode cX6_next 12 = .ok (.getfield 28, 3) := by decide +kernel
theorem dX6_next_15 : decode cX6_next 15 = .ok (.aload_n 0, 1) := by decide +kernel
theorem dX6_next_16 : decode cX6_next 16 = .ok (.getfield 77, 3) := by decide +kernel
theorem dX6_next_19 : decode cX6_next 19 = .ok (.iaload, 1) := by decide +kernel
theorem dX6_next_20 : decode cX6_next 20 = .ok (.goto 4, 3) := by decide +kernel
theorem dX6_next_23 : decode cX6_next 23 = .ok (.iconst (-1), 1) := by decide +kernel
theorem dX6_next_24 : decode cX6_next 24 = .ok (.ireturn, 1) := by decide +kernel
set_option maxRecDepth 20000 in
theorem ggX6_readsDigits_X6_next : GoodIn wsX6_readsDigits wsX6_next := goodIn_r _ [7, 1, 8, 9, 13, 14, 15, 16, 17, 18, 19, 20, 21, 22, 23, 24, 25, 26, 27, 28, 29, 30, 31, 32, 33, 34, 35, 36, 37] (by decide +kernel) (by decide +kernel)
set_option maxRecDepth 20000 in
theorem gX6_readsDigits_X6_next : GoodIn wsX6_readsDigits (wsV RX6 80 RX6 yX6_next wsX6_next) := goodIn_app (goodIn_of _ (by decide +kernel)) ggX6_readsDigits_X6_next
set_option maxRecDepth 20000 in
theorem ggX6_readsDigits_X6_isIn : GoodIn wsX6_readsDigits wsX6_isIn := goodIn_r _ [12] (by decide +kernel) (by decide +kernel)
set_option maxRecDepth 20000 in
theorem gX6_readsDigits_X6_isIn : GoodIn wsX6_readsDigits (va_wsS RX6 84 yX6_isIn wsX6_isIn) := goodIn_app (goodIn_of _ (by decide +kernel)) ggX6_readsDigits_X6_isIn
theorem dX6_readsDigits_0 : decode cX6_readsDigits 0 = .ok (.iconst 0, 1) := by decide +kernel
theorem dX6_readsDigits_1 : decode cX6_readsDigits 1 = .ok (.istore_n 3, 1) := by decide +kernel
theorem dX6_readsDigits_2 : decode cX6_readsDigits 2 = .ok (.iconst 0, 1) := by decide +kernel
theorem dX6_readsDigits_3 : decode cX6_readsDigits 3 = .ok (.istore 4, 2) := by decide +kernel
theorem dX6_readsDigits_5 : decode cX6_readsDigits 5 = .ok (.iload 4, 2) := by decide +kernel
theorem dX6_readsDigits_7 : decode cX6_readsDigits 7 = .ok (.iload_n 2, 1) := by decide +kernel
theorem dX6_readsDigits_8 : decode cX6_readsDigits 8 = .ok (.if_icmp .ge 48, 3) := by decide +kernel
theorem dX6_readsDigits_11 : decode cX6_readsDigits 11 = .ok (.aload_n 0, 1) := by decide +kernel
theorem dX6_readsDigits_12 : decode cX6_readsDigits 12 = .ok (.invokevirtual 80, 3) := by decide +kernel
theorem dX6_readsDigits_15 : decode cX6_readsDigits 15 = .ok (.bipush 48, 2) := by decide +kernel
theorem dX6_readsDigits_17 : decode cX6_readsDigits 17 = .ok (.bipush 57, 2) := by decide +kernel
theorem dX6_readsDigits_19 : decode cX6_readsDigits 19 = .ok (.invokestatic 84, 3) := by decide +kernel
theorem dX6_readsDigits_22 : decode cX6_readsDigits 22 = .ok (.ifCond .ne 5, 3) := by decide +kernel
theorem dX6_readsDigits_25 : decode cX6_readsDigits 25 = .ok (.iconst 0, 1) := by decide +kernel
theorem dX6_readsDigits_26 : decode cX6_readsDigits 26 = .ok (.ireturn, 1) := by decide +kernel
theorem dX6_readsDigits_27 : decode cX6_readsDigits 27 = .ok (.bipush 10, 2) := by decide +kernel
theorem dX6_readsDigits_29 : decode cX6_readsDigits 29 = .ok (.iload_n 3, 1) := by decide +kernel
theorem dX6_readsDigits_30 : decode cX6_readsDigits 30 = .ok (.imul, 1) := by decide +kernel
theorem dX6_readsDigits_31 : decode cX6_readsDigits 31 = .ok (.aload_n 0, 1) := by decide +kernel
theorem dX6_readsDigits_32 : decode cX6_readsDigits 32 = .ok (.invokevirtual 80, 3) := by decide +kernel
theorem dX6_readsDigits_35 : decode cX6_readsDigits 35 = .ok (.iadd, 1) := by decide +kernel
theorem dX6_readsDigits_36 : decode cX6_readsDigits 36 = .ok (.bipush 48, 2) := by decide +kernel
theorem dX6_readsDigits_38 : decode cX6_readsDigits 38 = .ok (.isub, 1) := by decide +kernel
theorem dX6_readsDigits_39 : decode cX6_readsDigits 39 = .ok (.istore_n 3, 1) := by decide +kernel
theorem dX6_readsDigits_40 : decode cX6_readsDigits 40 = .ok (.aload_n 0, 1) := by decide +kernel
theorem dX6_readsDigits_41 : decode cX6_readsDigits 41 = .ok (.dup, 1) := by decide +kernel
theorem dX6_readsDigits_42 : decode cX6_readsDigits 42 = .ok (.getfield 77, 3) := by decide +kernel
theorem dX6_readsDigits_45 : decode cX6_readsDigits 45 = .ok (.iconst 1, 1) := by decide +kernel
theorem dX6_readsDigits_46 : decode cX6_readsDigits 46 = .ok (.iadd, 1) := by decide +kernel
theorem dX6_readsDigits_47 : decode cX6_readsDigits 47 = .ok (.putfield 77, 3) := by decide +kernel
theorem dX6_readsDigits_50 : decode cX6_readsDigits 50 = .ok (.iinc 4 1, 3) := by decide +kernel
theorem dX6_readsDigits_53 : decode cX6_readsDigits 53 = .ok (.goto (-48), 3) := by decide +kernel
theorem dX6_readsDigits_56 : decode cX6_readsDigits 56 = .ok (.aload_n 0, 1) := by decide +kernel
theorem dX6_readsDigits_57 : decode cX6_readsDigits 57 = .ok (.getfield 37, 3) := by decide +kernel
theorem dX6_readsDigits_60 : decode cX6_readsDigits 60 = .ok (.iload_n 1, 1) := by decide +kernel
theorem dX6_readsDigits_61 : decode cX6_readsDigits 61 = .ok (.iload_n 3, 1) := by decide +kernel
theorem dX6_readsDigits_62 : decode cX6_readsDigits 62 = .ok (.iastore, 1) := by decide +kernel
theorem dX6_readsDigits_63 : decode cX6_readsDigits 63 = .ok (.iconst 1, 1) := by decide +kernel
theorem dX6_readsDigits_64 : decode cX6_readsDigits 64 = .ok (.ireturn, 1) := by decide +kernel
theorem dX6_kindOf_0 : decode cX6_kindOf 0 = .ok (.iload_n 0, 1) := by decide +kernel
theorem dX6_kindOf_1 : decode cX6_kindOf 1 = .ok (.bipush 103, 2) := by decide +kernel
theorem dX6_kindOf_3 : decode cX6_kindOf 3 = .ok (.if_icmp .ne 7, 3) := by decide +kernel
theorem dX6_kindOf_6 : decode cX6_kindOf 6 = .ok (.iconst 0, 1) := by decide +kernel
theorem dX6_kindOf_7 : decode cX6_kindOf 7 = .ok (.goto 54, 3) := by decide +kernel
theorem dX6_kindOf_10 : decode cX6_kindOf 10 = .ok (.iload_n 0, 1) := by decide +kernel
theorem dX6_kindOf_11 : decode cX6_kindOf 11 = .ok (.bipush 102, 2) := by decide +kernel
theorem dX6_kindOf_13 : decode cX6_kindOf 13 = .ok (.if_icmp .ne 7, 3) := by decide +kernel
theorem dX6_kindOf_16 : decode cX6_kindOf 16 = .ok (.iconst 1, 1) := by decide +kernel
theorem dX6_kindOf_17 : decode cX6_kindOf 17 = .ok (.goto 44, 3) := by decide +kernel
theorem dX6_kindOf_20 : decode cX6_kindOf 20 = .ok (.iload_n 0, 1) := by decide +kernel
theorem dX6_kindOf_21 : decode cX6_kindOf 21 = .ok (.bipush 99, 2) := by decide +kernel
theorem dX6_kindOf_23 : decode cX6_kindOf 23 = .ok (.if_icmp .ne 7, 3) := by decide +kernel
theorem dX6_kindOf_26 : decode cX6_kindOf 26 = .ok (.iconst 2, 1) := by decide +kernel
theorem dX6_kindOf_27 : decode cX6_kindOf 27 = .ok (.goto 34, 3) := by decide +kernel
theorem dX6_kindOf_30 : decode cX6_kindOf 30 = .ok (.iload_n 0, 1) := by decide +kernel
theorem dX6_kindOf_31 : decode cX6_kindOf 31 = .ok (.bipush 115, 2) := by decide +kernel
theorem dX6_kindOf_33 : decode cX6_kindOf 33 = .ok (.if_icmp .ne 7, 3) := by decide +kernel
theorem dX6_kindOf_36 : decode cX6_kindOf 36 = .ok (.iconst 3, 1) := by decide +kernel
theorem dX6_kindOf_37 : decode cX6_kindOf 37 = .ok (.goto 24, 3) := by decide +kernel
theorem dX6_kindOf_40 : decode cX6_kindOf 40 = .ok (.iload_n 0, 1) := by decide +kernel
theorem dX6_kindOf_41 : decode cX6_kindOf 41 = .ok (.bipush 111, 2) := by decide +kernel
theorem dX6_kindOf_43 : decode cX6_kindOf 43 = .ok (.if_icmp .ne 7, 3) := by decide +kernel
theorem dX6_kindOf_46 : decode cX6_kindOf 46 = .ok (.iconst 4, 1) := by decide +kernel
theorem dX6_kindOf_47 : decode cX6_kindOf 47 = .ok (.goto 14, 3) := by decide +kernel
theorem dX6_kindOf_50 : decode cX6_kindOf 50 = .ok (.iload_n 0, 1) := by decide +kernel
theorem dX6_kindOf_51 : decode cX6_kindOf 51 = .ok (.bipush 100, 2) := by decide +kernel
theorem dX6_kindOf_53 : decode cX6_kindOf 53 = .ok (.if_icmp .ne 7, 3) := by decide +kernel
theorem dX6_kindOf_56 : decode cX6_kindOf 56 = .ok (.iconst 5, 1) := by decide +kernel
theorem dX6_kindOf_57 : decode cX6_kindOf 57 = .ok (.goto 4, 3) := by decide +kernel
theorem dX6_kindOf_60 : decode cX6_kindOf 60 = .ok (.iconst (-1), 1) := by decide +kernel
theorem dX6_kindOf_61 : decode cX6_kindOf 61 = .ok (.ireturn, 1) := by decide +kernel
set_option maxRecDepth 20000 in
theorem ggX6_readsOne_X6_next : GoodIn wsX6_readsOne wsX6_next := goodIn_r _ [7, 2, 8, 9, 20, 21, 22, 23, 24, 25, 26, 27, 28, 29, 30, 31, 32, 33, 34, 35, 36, 37, 38, 39, 40, 41, 42, 43, 44] (by decide +kernel) (by decide +kernel)
set_option maxRecDepth 20000 in
theorem gX6_readsOne_X6_next : GoodIn wsX6_readsOne (wsV RX6 80 RX6 yX6_next wsX6_next) := goodIn_app (goodIn_of _ (by decide +kernel)) ggX6_readsOne_X6_next
set_option maxRecDepth 20000 in
theorem ggX6_readsOne_X6_kindOf : GoodIn wsX6_readsOne wsX6_kindOf := goodIn_r _ [12] (by decide +kernel) (by decide +kernel)
set_option maxRecDepth 20000 in
theorem gX6_readsOne_X6_kindOf : GoodIn wsX6_readsOne (va_wsS RX6 88 yX6_kindOf wsX6_kindOf) := goodIn_app (goodIn_of _ (by decide +kernel)) ggX6_readsOne_X6_kindOf
set_option maxRecDepth 20000 in
theorem ggX6_readsOne_X6_readsDigits : GoodIn wsX6_readsOne wsX6_readsDigits := goodIn_r _ [16, 2, 1, 3, 4, 5, 6, 7, 8, 9, 17, 18, 19, 20, 21, 22, 23, 24, 25, 26, 27, 28, 29, 30, 31, 32, 33, 34, 35, 36, 37, 38, 39, 40, 41, 42, 43, 44] (by decide +kernel) (by decide +kernel)
set_option maxRecDepth 20000 in
theorem gX6_readsOne_X6_readsDigits : GoodIn wsX6_readsOne (wsV RX6 91 RX6 yX6_readsDigits wsX6_readsDigits) := goodIn_app (goodIn_of _ (by decide +kernel)) ggX6_readsOne_X6_readsDigits
theorem dX6_readsOne_0 : decode cX6_readsOne 0 = .ok (.aload_n 0, 1) := by decide +kernel
theorem dX6_readsOne_1 : decode cX6_readsOne 1 = .ok (.getfield 37, 3) := by decide +kernel
theorem dX6_readsOne_4 : decode cX6_readsOne 4 = .ok (.iload_n 1, 1) := by decide +kernel
theorem dX6_readsOne_5 : decode cX6_readsOne 5 = .ok (.aload_n 0, 1) := by decide +kernel
theorem dX6_readsOne_6 : decode cX6_readsOne 6 = .ok (.invokevirtual 80, 3) := by decide +kernel
theorem dX6_readsOne_9 : decode cX6_readsOne 9 = .ok (.invokestatic 88, 3) := by decide +kernel
theorem dX6_readsOne_12 : decode cX6_readsOne 12 = .ok (.iastore, 1) := by decide +kernel
theorem dX6_readsOne_13 : decode cX6_readsOne 13 = .ok (.aload_n 0, 1) := by decide +kernel
theorem dX6_readsOne_14 : decode cX6_readsOne 14 = .ok (.getfield 37, 3) := by decide +kernel
theorem dX6_readsOne_17 : decode cX6_readsOne 17 = .ok (.iload_n 1, 1) := by decide +kernel
theorem dX6_readsOne_18 : decode cX6_readsOne 18 = .ok (.iaload, 1) := by decide +kernel
theorem dX6_readsOne_19 : decode cX6_readsOne 19 = .ok (.ifCond .ge 5, 3) := by decide +kernel
theorem dX6_readsOne_22 : decode cX6_readsOne 22 = .ok (.iconst 0, 1) := by decide +kernel
theorem dX6_readsOne_23 : decode cX6_readsOne 23 = .ok (.ireturn, 1) := by decide +kernel
theorem dX6_readsOne_24 : decode cX6_readsOne 24 = .ok (.aload_n 0, 1) := by decide +kernel
theorem dX6_readsOne_25 : decode cX6_readsOne 25 = .ok (.dup, 1) := by decide +kernel
theorem dX6_readsOne_26 : decode cX6_readsOne 26 = .ok (.getfield 77, 3) := by decide +kernel
theorem dX6_readsOne_29 : decode cX6_readsOne 29 = .ok (.iconst 1, 1) := by decide +kernel
theorem dX6_readsOne_30 : decode cX6_readsOne 30 = .ok (.iadd, 1) := by decide +kernel
theorem dX6_readsOne_31 : decode cX6_readsOne 31 = .ok (.putfield 77, 3) := by decide +kernel
theorem dX6_readsOne_34 : decode cX6_readsOne 34 = .ok (.aload_n 0, 1) := by decide +kernel
theorem dX6_readsOne_35 : decode cX6_readsOne 35 = .ok (.iload_n 1, 1) := by decide +kernel
theorem dX6_readsOne_36 : decode cX6_readsOne 36 = .ok (.iconst 1, 1) := by decide +kernel
theorem dX6_readsOne_37 : decode cX6_readsOne 37 = .ok (.iadd, 1) := by decide +kernel
theorem dX6_readsOne_38 : decode cX6_readsOne 38 = .ok (.iconst 1, 1) := by decide +kernel
theorem dX6_readsOne_39 : decode cX6_readsOne 39 = .ok (.invokevirtual 91, 3) := by decide +kernel
theorem dX6_readsOne_42 : decode cX6_readsOne 42 = .ok (.ifCond .eq 29, 3) := by decide +kernel
theorem dX6_readsOne_45 : decode cX6_readsOne 45 = .ok (.aload_n 0, 1) := by decide +kernel
theorem dX6_readsOne_46 : decode cX6_readsOne 46 = .ok (.iload_n 1, 1) := by decide +kernel
theorem dX6_readsOne_47 : decode cX6_readsOne 47 = .ok (.iconst 2, 1) := by decide +kernel
theorem dX6_readsOne_48 : decode cX6_readsOne 48 = .ok (.iadd, 1) := by decide +kernel
theorem dX6_readsOne_49 : decode cX6_readsOne 49 = .ok (.iconst 2, 1) := by decide +kernel
theorem dX6_readsOne_50 : decode cX6_readsOne 50 = .ok (.invokevirtual 91, 3) := by decide +kernel
theorem dX6_readsOne_53 : decode cX6_readsOne 53 = .ok (.ifCond .eq 18, 3) := by decide +kernel
theorem dX6_readsOne_56 : decode cX6_readsOne 56 = .ok (.aload_n 0, 1) := by decide +kernel
theorem dX6_readsOne_57 : decode cX6_readsOne 57 = .ok (.iload_n 1, 1) := by decide +kernel
theorem dX6_readsOne_58 : decode cX6_readsOne 58 = .ok (.iconst 3, 1) := by decide +kernel
theorem dX6_readsOne_59 : decode cX6_readsOne 59 = .ok (.iadd, 1) := by decide +kernel
theorem dX6_readsOne_60 : decode cX6_readsOne 60 = .ok (.iconst 1, 1) := by decide +kernel
theorem dX6_readsOne_61 : decode cX6_readsOne 61 = .ok (.invokevirtual 91, 3) := by decide +kernel
theorem dX6_readsOne_64 : decode cX6_readsOne 64 = .ok (.ifCond .eq 7, 3) := by decide +kernel
theorem dX6_readsOne_67 : decode cX6_readsOne 67 = .ok (.iconst 1, 1) := by decide +kernel
theorem dX6_readsOne_68 : decode cX6_readsOne 68 = .ok (.goto 4, 3) := by decide +kernel
theorem dX6_readsOne_71 : decode cX6_readsOne 71 = .ok (.iconst 0, 1) := by decide +kernel
theorem dX6_readsOne_72 : decode cX6_readsOne 72 = .ok (.ireturn, 1) := by decide +kernel
set_option maxRecDepth 20000 in
theorem ggX6_readsAll_X6_readsOne : GoodIn wsX6_readsAll wsX6_readsOne := goodIn_r _ [5, 6, 7, 8, 9, 10, 4, 11, 12, 13, 14, 15, 16, 17, 18, 19, 20, 21, 22, 23, 24, 25, 26, 27, 28, 29, 30, 31, 32, 33, 34, 35, 36, 37, 38, 39, 40, 41, 42, 43, 44, 45, 46, 47, 48] (by decide +kernel) (by decide +kernel)
set_option maxRecDepth 20000 in
theorem gX6_readsAll_X6_readsOne : GoodIn wsX6_readsAll (wsV RX6 94 RX6 yX6_readsOne wsX6_readsOne) := goodIn_app (goodIn_of _ (by decide +kernel)) ggX6_readsAll_X6_readsOne
set_option maxRecDepth 20000 in
theorem ggX6_readsAll_X6_readsDigits : GoodIn wsX6_readsAll wsX6_readsDigits := goodIn_r _ [20, 7, 6, 8, 9, 10, 4, 11, 12, 13, 21, 22, 23, 24, 25, 26, 27, 28, 29, 30, 31, 32, 33, 34, 35, 36, 37, 38, 39, 40, 41, 42, 43, 44, 45, 46, 47, 48] (by decide +kernel) (by decide +kernel)
set_option maxRecDepth 20000 in
theorem gX6_readsAll_X6_readsDigits : GoodIn wsX6_readsAll (wsV RX6 91 RX6 yX6_readsDigits wsX6_readsDigits) := goodIn_app (goodIn_of _ (by decide +kernel)) ggX6_readsAll_X6_readsDigits
theorem dX6_readsAll_0 : decode cX6_readsAll 0 = .ok (.iload_n 1, 1) := by decide +kernel
theorem dX6_readsAll_1 : decode cX6_readsAll 1 = .ok (.lookupswitch 127 #[(97, 101), (98, 75), (104, 49), (112, 43)], 43) := by decide +kernel
theorem dX6_readsAll_44 : decode cX6_readsAll 44 = .ok (.aload_n 0, 1) := by decide +kernel
theorem dX6_readsAll_45 : decode cX6_readsAll 45 = .ok (.iload_n 2, 1) := by decide +kernel
theorem dX6_readsAll_46 : decode cX6_readsAll 46 = .ok (.invokevirtual 94, 3) := by decide +kernel
theorem dX6_readsAll_49 : decode cX6_readsAll 49 = .ok (.ireturn, 1) := by decide +kernel
theorem dX6_readsAll_50 : decode cX6_readsAll 50 = .ok (.aload_n 0, 1) := by decide +kernel
theorem dX6_readsAll_51 : decode cX6_readsAll 51 = .ok (.iload_n 2, 1) := by decide +kernel
theorem dX6_readsAll_52 : decode cX6_readsAll 52 = .ok (.iconst 2, 1) := by decide +kernel
theorem dX6_readsAll_53 : decode cX6_readsAll 53 = .ok (.invokevirtual 91, 3) := by decide +kernel
theorem dX6_readsAll_56 : decode cX6_readsAll 56 = .ok (.ifCond .eq 18, 3) := by decide +kernel
theorem dX6_readsAll_59 : decode cX6_readsAll 59 = .ok (.aload_n 0, 1) := by decide +kernel
theorem dX6_readsAll_60 : decode cX6_readsAll 60 = .ok (.iload_n 2, 1) := by decide +kernel
theorem dX6_readsAll_61 : decode cX6_readsAll 61 = .ok (.iconst 1, 1) := by decide +kernel
theorem dX6_readsAll_62 : decode cX6_readsAll 62 = .ok (.iadd, 1) := by decide +kernel
theorem dX6_readsAll_63 : decode cX6_readsAll 63 = .ok (.iconst 2, 1) := by decide +kernel
theorem dX6_readsAll_64 : decode cX6_readsAll 64 = .ok (.invokevirtual 91, 3) := by decide +kernel
theorem dX6_readsAll_67 : decode cX6_readsAll 67 = .ok (.ifCond .eq 7, 3) := by decide +kernel
theorem dX6_readsAll_70 : decode cX6_readsAll 70 = .ok (.iconst 1, 1) := by decide +kernel
theorem dX6_readsAll_71 : decode cX6_readsAll 71 = .ok (.goto 4, 3) := by decide +kernel
theorem dX6_readsAll_74 : decode cX6_readsAll 74 = .ok (.iconst 0, 1) := by decide +kernel
theorem dX6_readsAll_75 : decode cX6_readsAll 75 = .ok (.ireturn, 1) := by decide +kernel
theorem dX6_readsAll_76 : decode cX6_readsAll 76 = .ok (.aload_n 0, 1) := by decide +kernel
theorem dX6_readsAll_77 : decode cX6_readsAll 77 = .ok (.iload_n 2, 1) := by decide +kernel
theorem dX6_readsAll_78 : decode cX6_readsAll 78 = .ok (.iconst 1, 1) := by decide +kernel
theorem dX6_readsAll_79 : decode cX6_readsAll 79 = .ok (.invokevirtual 91, 3) := by decide +kernel
theorem dX6_readsAll_82 : decode cX6_readsAll 82 = .ok (.ifCond .eq 18, 3) := by decide +kernel
theorem dX6_readsAll_85 : decode cX6_readsAll 85 = .ok (.aload_n 0, 1) := by decide +kernel
theorem dX6_readsAll_86 : decode cX6_readsAll 86 = .ok (.iload_n 2, 1) := by decide +kernel
theorem dX6_readsAll_87 : decode cX6_readsAll 87 = .ok (.iconst 1, 1) := by decide +kernel
theorem dX6_readsAll_88 : decode cX6_readsAll 88 = .ok (.iadd, 1) := by decide +kernel
theorem dX6_readsAll_89 : decode cX6_readsAll 89 = .ok (.iconst 1, 1) := by decide +kernel
theorem dX6_readsAll_90 : decode cX6_readsAll 90 = .ok (.invokevirtual 91, 3) := by decide +kernel
theorem dX6_readsAll_93 : decode cX6_readsAll 93 = .ok (.ifCond .eq 7, 3) := by decide +kernel
theorem dX6_readsAll_96 : decode cX6_readsAll 96 = .ok (.iconst 1, 1) := by decide +kernel
theorem dX6_readsAll_97 : decode cX6_readsAll 97 = .ok (.goto 4, 3) := by decide +kernel
theorem dX6_readsAll_100 : decode cX6_readsAll 100 = .ok (.iconst 0, 1) := by decide +kernel
theorem dX6_readsAll_101 : decode cX6_readsAll 101 = .ok (.ireturn, 1) := by decide +kernel
theorem dX6_readsAll_102 : decode cX6_readsAll 102 = .ok (.aload_n 0, 1) := by decide +kernel
theorem dX6_readsAll_103 : decode cX6_readsAll 103 = .ok (.iload_n 2, 1) := by decide +kernel
theorem dX6_readsAll_104 : decode cX6_readsAll 104 = .ok (.iconst 1, 1) := by decide +kernel
theorem dX6_readsAll_105 : decode cX6_readsAll 105 = .ok (.invokevirtual 91, 3) := by decide +kernel
theorem dX6_readsAll_108 : decode cX6_readsAll 108 = .ok (.ifCond .eq 18, 3) := by decide +kernel
theorem dX6_readsAll_111 : decode cX6_readsAll 111 = .ok (.aload_n 0, 1) := by decide +kernel
theorem dX6_readsAll_112 : decode cX6_readsAll 112 = .ok (.iload_n 2, 1) := by decide +kernel
theorem dX6_readsAll_113 : decode cX6_readsAll 113 = .ok (.iconst 1, 1) := by decide +kernel
theorem dX6_readsAll_114 : decode cX6_readsAll 114 = .ok (.iadd, 1) := by decide +kernel
theorem dX6_readsAll_115 : decode cX6_readsAll 115 = .ok (.iconst 2, 1) := by decide +kernel
theorem dX6_readsAll_116 : decode cX6_readsAll 116 = .ok (.invokevirtual 91, 3) := by decide +kernel
theorem dX6_readsAll_119 : decode cX6_readsAll 119 = .ok (.ifCond .eq 7, 3) := by decide +kernel
theorem dX6_readsAll_122 : decode cX6_readsAll 122 = .ok (.iconst 1, 1) := by decide +kernel
theorem dX6_readsAll_123 : decode cX6_readsAll 123 = .ok (.goto 4, 3) := by decide +kernel
theorem dX6_readsAll_126 : decode cX6_readsAll 126 = .ok (.iconst 0, 1) := by decide +kernel
theorem dX6_readsAll_127 : decode cX6_readsAll 127 = .ok (.ireturn, 1) := by decide +kernel
theorem dX6_readsAll_128 : decode cX6_readsAll 128 = .ok (.aload_n 0, 1) := by decide +kernel
theorem dX6_readsAll_129 : decode cX6_readsAll 129 = .ok (.iload_n 2, 1) := by decide +kernel
theorem dX6_readsAll_130 : decode cX6_readsAll 130 = .ok (.iconst 2, 1) := by decide +kernel
theorem dX6_readsAll_131 : decode cX6_readsAll 131 = .ok (.invokevirtual 91, 3) := by decide +kernel
theorem dX6_readsAll_134 : decode cX6_readsAll 134 = .ok (.ireturn, 1) := by decide +kernel
set_option maxRecDepth 20000 in
theorem ggX6_statement_X6_next : GoodIn wsX6_statement wsX6_next := goodIn_r _ [9, 4, 10, 11, 31, 32, 33, 34, 35, 36, 37, 38, 39, 40, 41, 42, 43, 44, 45, 46, 47, 48, 49, 50, 51, 52, 53, 54, 55] (by decide +kernel) (by decide +kernel)
set_option maxRecDepth 20000 in
theorem gX6_statement_X6_next : GoodIn wsX6_statement (wsV RX6 80 RX6 yX6_next wsX6_next) := goodIn_app (goodIn_of _ (by decide +kernel)) ggX6_statement_X6_next
set_option maxRecDepth 20000 in
theorem ggX6_statement_X6_readsAll : GoodIn wsX6_statement wsX6_readsAll := goodIn_r _ [15, 16, 17, 18, 8, 19, 20, 4, 5, 6, 7, 9, 10, 11, 21, 22, 23, 24, 25, 26, 27, 28, 29, 30, 31, 32, 33, 34, 35, 36, 37, 38, 39, 40, 41, 42, 43, 44, 45, 46, 47, 48, 49, 50, 51, 52, 53, 54, 55] (by decide +kernel) (by decide +kernel)
set_option maxRecDepth 20000 in
theorem gX6_statement_X6_readsAll : GoodIn wsX6_statement (wsV RX6 101 RX6 yX6_readsAll wsX6_readsAll) := goodIn_app (goodIn_of _ (by decide +kernel)) ggX6_statement_X6_readsAll
theorem dX6_statement_0 : decode cX6_statement 0 = .ok (.aload_n 0, 1) := by decide +kernel
theorem dX6_statement_1 : decode cX6_statement 1 = .ok (.invokevirtual 80, 3) := by decide +kernel
theorem dX6_statement_4 : decode cX6_statement 4 = .ok (.istore_n 1, 1) := by decide +kernel
theorem dX6_statement_5 : decode cX6_statement 5 = .ok (.iload_n 1, 1) := by decide +kernel
theorem dX6_statement_6 : decode cX6_statement 6 = .ok (.bipush 112, 2) := by decide +kernel
theorem dX6_statement_8 : decode cX6_statement 8 = .ok (.if_icmp .eq 29, 3) := by decide +kernel
theorem dX6_statement_11 : decode cX6_statement 11 = .ok (.iload_n 1, 1) := by decide +kernel
theorem dX6_statement_12 : decode cX6_statement 12 = .ok (.bipush 104, 2) := by decide +kernel
theorem dX6_statement_14 : decode cX6_statement 14 = .ok (.if_icmp .eq 23, 3) := by decide +kernel
theorem dX6_statement_17 : decode cX6_statement 17 = .ok (.iload_n 1, 1) := by decide +kernel
theorem dX6_statement_18 : decode cX6_statement 18 = .ok (.bipush 98, 2) := by decide +kernel
theorem dX6_statement_20 : decode cX6_statement 20 = .ok (.if_icmp .eq 17, 3) := by decide +kernel
theorem dX6_statement_23 : decode cX6_statement 23 = .ok (.iload_n 1, 1) := by decide +kernel
theorem dX6_statement_24 : decode cX6_statement 24 = .ok (.bipush 97, 2) := by decide +kernel
theorem dX6_statement_26 : decode cX6_statement 26 = .ok (.if_icmp .eq 11, 3) := by decide +kernel
theorem dX6_statement_29 : decode cX6_statement 29 = .ok (.iload_n 1, 1) := by decide +kernel
theorem dX6_statement_30 : decode cX6_statement 30 = .ok (.bipush 121, 2) := by decide +kernel
theorem dX6_statement_32 : decode cX6_statement 32 = .ok (.if_icmp .eq 5, 3) := by decide +kernel
theorem dX6_statement_35 : decode cX6_statement 35 = .ok (.iconst 0, 1) := by decide +kernel
theorem dX6_statement_36 : decode cX6_statement 36 = .ok (.ireturn, 1) := by decide +kernel
theorem dX6_statement_37 : decode cX6_statement 37 = .ok (.aload_n 0, 1) := by decide +kernel
theorem dX6_statement_38 : decode cX6_statement 38 = .ok (.getfield 31, 3) := by decide +kernel
theorem dX6_statement_41 : decode cX6_statement 41 = .ok (.aload_n 0, 1) := by decide +kernel
theorem dX6_statement_42 : decode cX6_statement 42 = .ok (.getfield 98, 3) := by decide +kernel
theorem dX6_statement_45 : decode cX6_statement 45 = .ok (.iload_n 1, 1) := by decide +kernel
theorem dX6_statement_46 : decode cX6_statement 46 = .ok (.iastore, 1) := by decide +kernel
theorem dX6_statement_47 : decode cX6_statement 47 = .ok (.aload_n 0, 1) := by decide +kernel
theorem dX6_statement_48 : decode cX6_statement 48 = .ok (.getfield 34, 3) := by decide +kernel
theorem dX6_statement_51 : decode cX6_statement 51 = .ok (.aload_n 0, 1) := by decide +kernel
theorem dX6_statement_52 : decode cX6_statement 52 = .ok (.getfield 98, 3) := by decide +kernel
theorem dX6_statement_55 : decode cX6_statement 55 = .ok (.aload_n 0, 1) := by decide +kernel
theorem dX6_statement_56 : decode cX6_statement 56 = .ok (.getfield 77, 3) := by decide +kernel
theorem dX6_statement_59 : decode cX6_statement 59 = .ok (.iastore, 1) := by decide +kernel
theorem dX6_statement_60 : decode cX6_statement 60 = .ok (.aload_n 0, 1) := by decide +kernel
theorem dX6_statement_61 : decode cX6_statement 61 = .ok (.dup, 1) := by decide +kernel
theorem dX6_statement_62 : decode cX6_statement 62 = .ok (.getfield 77, 3) := by decide +kernel
theorem dX6_statement_65 : decode cX6_statement 65 = .ok (.iconst 1, 1) := by decide +kernel
theorem dX6_statement_66 : decode cX6_statement 66 = .ok (.iadd, 1) := by decide +kernel
theorem dX6_statement_67 : decode cX6_statement 67 = .ok (.putfield 77, 3) := by decide +kernel
theorem dX6_statement_70 : decode cX6_statement 70 = .ok (.aload_n 0, 1) := by decide +kernel
theorem dX6_statement_71 : decode cX6_statement 71 = .ok (.iload_n 1, 1) := by decide +kernel
theorem dX6_statement_72 : decode cX6_statement 72 = .ok (.iconst 4, 1) := by decide +kernel
theorem dX6_statement_73 : decode cX6_statement 73 = .ok (.aload_n 0, 1) := by decide +kernel
theorem dX6_statement_74 : decode cX6_statement 74 = .ok (.getfield 98, 3) := by decide +kernel
theorem dX6_statement_77 : decode cX6_statement 77 = .ok (.imul, 1) := by decide +kernel
theorem dX6_statement_78 : decode cX6_statement 78 = .ok (.invokevirtual 101, 3) := by decide +kernel
theorem dX6_statement_81 : decode cX6_statement 81 = .ok (.ifCond .eq 12, 3) := by decide +kernel
theorem dX6_statement_84 : decode cX6_statement 84 = .ok (.aload_n 0, 1) := by decide +kernel
theorem dX6_statement_85 : decode cX6_statement 85 = .ok (.invokevirtual 80, 3) := by decide +kernel
theorem dX6_statement_88 : decode cX6_statement 88 = .ok (.bipush 59, 2) := by decide +kernel
theorem dX6_statement_90 : decode cX6_statement 90 = .ok (.if_icmp .eq 5, 3) := by decide +kernel
theorem dX6_statement_93 : decode cX6_statement 93 = .ok (.iconst 0, 1) := by decide +kernel
theorem dX6_statement_94 : decode cX6_statement 94 = .ok (.ireturn, 1) := by decide +kernel
theorem dX6_statement_95 : decode cX6_statement 95 = .ok (.aload_n 0, 1) := by decide +kernel
theorem dX6_statement_96 : decode cX6_statement 96 = .ok (.dup, 1) := by decide +kernel
theorem dX6_statement_97 : decode cX6_statement 97 = .ok (.getfield 77, 3) := by decide +kernel
theorem dX6_statement_100 : decode cX6_statement 100 = .ok (.iconst 1, 1) := by decide +kernel
theorem dX6_statement_101 : decode cX6_statement 101 = .ok (.iadd, 1) := by decide +kernel
theorem dX6_statement_102 : decode cX6_statement 102 = .ok (.putfield 77, 3) := by decide +kernel
theorem dX6_statement_105 : decode cX6_statement 105 = .ok (.iconst 1, 1) := by decide +kernel
theorem dX6_statement_106 : decode cX6_statement 106 = .ok (.ireturn, 1) := by decide +kernel
theorem dX6_adds_0 : decode cX6_adds 0 = .ok (.aload_n 0, 1) := by decide +kernel
theorem dX6_adds_1 : decode cX6_adds 1 = .ok (.getfield 16, 3) := by decide +kernel
theorem dX6_adds_4 : decode cX6_adds 4 = .ok (.aload_n 0, 1) := by decide +kernel
theorem dX6_adds_5 : decode cX6_adds 5 = .ok (.getfield 52, 3) := by decide +kernel
theorem dX6_adds_8 : decode cX6_adds 8 = .ok (.iload_n 1, 1) := by decide +kernel
theorem dX6_adds_9 : decode cX6_adds 9 = .ok (.iastore, 1) := by decide +kernel
theorem dX6_adds_10 : decode cX6_adds 10 = .ok (.aload_n 0, 1) := by decide +kernel
theorem dX6_adds_11 : decode cX6_adds 11 = .ok (.getfield 19, 3) := by decide +kernel
theorem dX6_adds_14 : decode cX6_adds 14 = .ok (.aload_n 0, 1) := by decide +kernel
theorem dX6_adds_15 : decode cX6_adds 15 = .ok (.getfield 52, 3) := by decide +kernel
theorem dX6_adds_18 : decode cX6_adds 18 = .ok (.iload_n 2, 1) := by decide +kernel
theorem dX6_adds_19 : decode cX6_adds 19 = .ok (.iastore, 1) := by decide +kernel
theorem dX6_adds_20 : decode cX6_adds 20 = .ok (.aload_n 0, 1) := by decide +kernel
theorem dX6_adds_21 : decode cX6_adds 21 = .ok (.getfield 22, 3) := by decide +kernel
theorem dX6_adds_24 : decode cX6_adds 24 = .ok (.aload_n 0, 1) := by decide +kernel
theorem dX6_adds_25 : decode cX6_adds 25 = .ok (.getfield 52, 3) := by decide +kernel
theorem dX6_adds_28 : decode cX6_adds 28 = .ok (.iload_n 3, 1) := by decide +kernel
theorem dX6_adds_29 : decode cX6_adds 29 = .ok (.iastore, 1) := by decide +kernel
theorem dX6_adds_30 : decode cX6_adds 30 = .ok (.aload_n 0, 1) := by decide +kernel
theorem dX6_adds_31 : decode cX6_adds 31 = .ok (.getfield 25, 3) := by decide +kernel
theorem dX6_adds_34 : decode cX6_adds 34 = .ok (.aload_n 0, 1) := by decide +kernel
theorem dX6_adds_35 : decode cX6_adds 35 = .ok (.getfield 52, 3) := by decide +kernel
theorem dX6_adds_38 : decode cX6_adds 38 = .ok (.iload 4, 2) := by decide +kernel
theorem dX6_adds_40 : decode cX6_adds 40 = .ok (.iastore, 1) := by decide +kernel
theorem dX6_adds_41 : decode cX6_adds 41 = .ok (.aload_n 0, 1) := by decide +kernel
theorem dX6_adds_42 : decode cX6_adds 42 = .ok (.dup, 1) := by decide +kernel
theorem dX6_adds_43 : decode cX6_adds 43 = .ok (.getfield 52, 3) := by decide +kernel
theorem dX6_adds_46 : decode cX6_adds 46 = .ok (.iconst 1, 1) := by decide +kernel
theorem dX6_adds_47 : decode cX6_adds 47 = .ok (.iadd, 1) := by decide +kernel
theorem dX6_adds_48 : decode cX6_adds 48 = .ok (.putfield 52, 3) := by decide +kernel
theorem dX6_adds_51 : decode cX6_adds 51 = .ok (.return_, 1) := by decide +kernel
set_option maxRecDepth 20000 in
theorem ggX6_comesYears_X6_isIn : GoodIn wsX6_comesYears wsX6_isIn := goodIn_r _ [5] (by decide +kernel) (by decide +kernel)
set_option maxRecDepth 20000 in
theorem gX6_comesYears_X6_isIn : GoodIn wsX6_comesYears (va_wsS RX6 84 yX6_isIn wsX6_isIn) := goodIn_app (goodIn_of _ (by decide +kernel)) ggX6_comesYears_X6_isIn
set_option maxRecDepth 20000 in
theorem ggX6_comesYears_X6_goes : GoodIn wsX6_comesYears wsX6_goes := goodIn_r _ [9, 10, 11, 12, 4, 13, 14, 15, 1, 16, 17, 18, 19, 20, 21, 22, 23, 24, 25, 26, 27, 28, 29, 30, 31, 32, 33, 34, 35, 36, 37, 38, 39, 40, 41, 42, 43, 44, 45, 46, 47, 48, 49, 50, 51, 52, 53, 54, 55, 56, 57, 58, 59, 60, 61, 62, 63, 64, 65, 66, 67, 68, 69, 70, 71, 72, 73, 74, 75, 76, 77, 78, 79, 80, 81, 82, 83, 84, 85, 86, 87, 88, 89, 90, 91, 92, 93, 94, 95, 96, 97, 98, 99, 100, 101, 102, 103, 104, 105] (by decide +kernel) (by decide +kernel)
set_option maxRecDepth 20000 in
theorem gX6_comesYears_X6_goes : GoodIn wsX6_comesYears (wsV RX6 107 RX6 yX6_goes wsX6_goes) := goodIn_app (goodIn_of _ (by decide +kernel)) ggX6_comesYears_X6_goes
theorem dX6_comesYears_0 : decode cX6_comesYears 0 = .ok (.iload_n 1, 1) := by decide +kernel
theorem dX6_comesYears_1 : decode cX6_comesYears 1 = .ok (.iconst 1, 1) := by decide +kernel
theorem dX6_comesYears_2 : decode cX6_comesYears 2 = .ok (.bipush 60, 2) := by decide +kernel
theorem dX6_comesYears_4 : decode cX6_comesYears 4 = .ok (.invokestatic 84, 3) := by decide +kernel
theorem dX6_comesYears_7 : decode cX6_comesYears 7 = .ok (.ifCond .eq 15, 3) := by decide +kernel
theorem dX6_comesYears_10 : decode cX6_comesYears 10 = .ok (.aload_n 0, 1) := by decide +kernel
theorem dX6_comesYears_11 : decode cX6_comesYears 11 = .ok (.getfield 104, 3) := by decide +kernel
theorem dX6_comesYears_14 : decode cX6_comesYears 14 = .ok (.iload_n 1, 1) := by decide +kernel
theorem dX6_comesYears_15 : decode cX6_comesYears 15 = .ok (.iadd, 1) := by decide +kernel
theorem dX6_comesYears_16 : decode cX6_comesYears 16 = .ok (.sipush 999, 3) := by decide +kernel
theorem dX6_comesYears_19 : decode cX6_comesYears 19 = .ok (.if_icmp .le 5, 3) := by decide +kernel
theorem dX6_comesYears_22 : decode cX6_comesYears 22 = .ok (.iconst 0, 1) := by decide +kernel
theorem dX6_comesYears_23 : decode cX6_comesYears 23 = .ok (.ireturn, 1) := by decide +kernel
theorem dX6_comesYears_24 : decode cX6_comesYears 24 = .ok (.aload_n 0, 1) := by decide +kernel
theorem dX6_comesYears_25 : decode cX6_comesYears 25 = .ok (.iload_n 1, 1) := by decide +kernel
theorem dX6_comesYears_26 : decode cX6_comesYears 26 = .ok (.invokevirtual 107, 3) := by decide +kernel
theorem dX6_comesYears_29 : decode cX6_comesYears 29 = .ok (.iconst 1, 1) := by decide +kernel
theorem dX6_comesYears_30 : decode cX6_comesYears 30 = .ok (.ireturn, 1) := by decide +kernel
set_option maxRecDepth 20000 in
theorem ggX6_comes_X6_isCell : GoodIn wsX6_comes wsX6_isCell := goodIn_r _ [10] (by decide +kernel) (by decide +kernel)
set_option maxRecDepth 20000 in
theorem gX6_comes_X6_isCell : GoodIn wsX6_comes (va_wsS RX6 111 yX6_isCell wsX6_isCell) := goodIn_app (goodIn_of _ (by decide +kernel)) ggX6_comes_X6_isCell
set_option maxRecDepth 20000 in
theorem ggX6_comes_X6_adds : GoodIn wsX6_comes wsX6_adds := goodIn_r _ [14, 15, 3, 16, 6, 5, 98, 99, 100, 101, 102, 103, 104, 105, 106, 107, 108, 109, 110, 111, 112, 113, 114, 115, 116, 117, 118, 119, 120, 121, 122] (by decide +kernel) (by decide +kernel)
set_option maxRecDepth 20000 in
theorem gX6_comes_X6_adds : GoodIn wsX6_comes (wsV RX6 114 RX6 yX6_adds wsX6_adds) := goodIn_app (goodIn_of _ (by decide +kernel)) ggX6_comes_X6_adds
set_option maxRecDepth 20000 in
theorem ggX6_comes_X6_isOne : GoodIn wsX6_comes wsX6_isOne := goodIn_r _ [20, 3, 98, 99, 100, 101, 102, 103, 104, 105, 106, 107, 108, 109, 110, 111, 112, 113, 114, 115, 116, 117, 118, 119, 120, 121, 122] (by decide +kernel) (by decide +kernel)
set_option maxRecDepth 20000 in
theorem gX6_comes_X6_isOne : GoodIn wsX6_comes (wsV RX6 118 RX6 yX6_isOne wsX6_isOne) := goodIn_app (goodIn_of _ (by decide +kernel)) ggX6_comes_X6_isOne
set_option maxRecDepth 20000 in
theorem ggX6_comes_X6_comesYears : GoodIn wsX6_comes wsX6_comesYears := goodIn_r _ [24, 25, 26, 27, 9, 28, 29, 30, 31, 32, 33, 34, 35, 36, 3, 37, 4, 5, 6, 38, 39, 40, 41, 42, 43, 44, 45, 46, 47, 48, 49, 50, 51, 52, 53, 54, 55, 56, 57, 58, 59, 60, 61, 62, 63, 64, 65, 66, 67, 15, 68, 69, 70, 71, 16, 72, 73, 74, 75, 76, 77, 78, 79, 80, 81, 82, 83, 84, 85, 86, 87, 88, 89, 90, 91, 92, 93, 94, 95, 96, 97, 98, 99, 100, 101, 102, 103, 104, 105, 106, 107, 108, 109, 110, 111, 112, 113, 114, 115, 116, 117, 118, 119, 120, 121, 122] (by decide +kernel) (by decide +kernel)
set_option maxRecDepth 20000 in
theorem gX6_comes_X6_comesYears : GoodIn wsX6_comes (wsV RX6 121 RX6 yX6_comesYears wsX6_comesYears) := goodIn_app (goodIn_of _ (by decide +kernel)) ggX6_comes_X6_comesYears
theorem dX6_comes_0 : decode cX6_comes 0 = .ok (.iconst 4, 1) := by decide +kernel
theorem dX6_comes_1 : decode cX6_comes 1 = .ok (.iload_n 1, 1) := by decide +kernel
theorem dX6_comes_2 : decode cX6_comes 2 = .ok (.imul, 1) := by decide +kernel
theorem dX6_comes_3 : decode cX6_comes 3 = .ok (.istore_n 2, 1) := by decide +kernel
theorem dX6_comes_4 : decode cX6_comes 4 = .ok (.aload_n 0, 1) := by decide +kernel
theorem dX6_comes_5 : decode cX6_comes 5 = .ok (.getfield 31, 3) := by decide +kernel
theorem dX6_comes_8 : decode cX6_comes 8 = .ok (.iload_n 1, 1) := by decide +kernel
theorem dX6_comes_9 : decode cX6_comes 9 = .ok (.iaload, 1) := by decide +kernel
theorem dX6_comes_10 : decode cX6_comes 10 = .ok (.lookupswitch 224 #[(97, 174), (98, 138), (104, 103), (112, 42)], 42) := by decide +kernel
theorem dX6_comes_52 : decode cX6_comes 52 = .ok (.aload_n 0, 1) := by decide +kernel
theorem dX6_comes_53 : decode cX6_comes 53 = .ok (.getfield 37, 3) := by decide +kernel
theorem dX6_comes_56 : decode cX6_comes 56 = .ok (.iload_n 2, 1) := by decide +kernel
theorem dX6_comes_57 : decode cX6_comes 57 = .ok (.iconst 2, 1) := by decide +kernel
theorem dX6_comes_58 : decode cX6_comes 58 = .ok (.iadd, 1) := by decide +kernel
theorem dX6_comes_59 : decode cX6_comes 59 = .ok (.iaload, 1) := by decide +kernel
theorem dX6_comes_60 : decode cX6_comes 60 = .ok (.invokestatic 111, 3) := by decide +kernel
theorem dX6_comes_63 : decode cX6_comes 63 = .ok (.ifCond .eq 12, 3) := by decide +kernel
theorem dX6_comes_66 : decode cX6_comes 66 = .ok (.aload_n 0, 1) := by decide +kernel
theorem dX6_comes_67 : decode cX6_comes 67 = .ok (.getfield 52, 3) := by decide +kernel
theorem dX6_comes_70 : decode cX6_comes 70 = .ok (.bipush 8, 2) := by decide +kernel
theorem dX6_comes_72 : decode cX6_comes 72 = .ok (.if_icmp .ne 5, 3) := by decide +kernel
theorem dX6_comes_75 : decode cX6_comes 75 = .ok (.iconst 0, 1) := by decide +kernel
theorem dX6_comes_76 : decode cX6_comes 76 = .ok (.ireturn, 1) := by decide +kernel
theorem dX6_comes_77 : decode cX6_comes 77 = .ok (.aload_n 0, 1) := by decide +kernel
theorem dX6_comes_78 : decode cX6_comes 78 = .ok (.aload_n 0, 1) := by decide +kernel
theorem dX6_comes_79 : decode cX6_comes 79 = .ok (.getfield 37, 3) := by decide +kernel
theorem dX6_comes_82 : decode cX6_comes 82 = .ok (.iload_n 2, 1) := by decide +kernel
theorem dX6_comes_83 : decode cX6_comes 83 = .ok (.iaload, 1) := by decide +kernel
theorem dX6_comes_84 : decode cX6_comes 84 = .ok (.aload_n 0, 1) := by decide +kernel
theorem dX6_comes_85 : decode cX6_comes 85 = .ok (.getfield 37, 3) := by decide +kernel
theorem dX6_comes_88 : decode cX6_comes 88 = .ok (.iload_n 2, 1) := by decide +kernel
theorem dX6_comes_89 : decode cX6_comes 89 = .ok (.iconst 1, 1) := by decide +kernel
theorem dX6_comes_90 : decode cX6_comes 90 = .ok (.iadd, 1) := by decide +kernel
theorem dX6_comes_91 : decode cX6_comes 91 = .ok (.iaload, 1) := by decide +kernel
theorem dX6_comes_92 : decode cX6_comes 92 = .ok (.aload_n 0, 1) := by decide +kernel
theorem dX6_comes_93 : decode cX6_comes 93 = .ok (.getfield 37, 3) := by decide +kernel
theorem dX6_comes_96 : decode cX6_comes 96 = .ok (.iload_n 2, 1) := by decide +kernel
theorem dX6_comes_97 : decode cX6_comes 97 = .ok (.iconst 2, 1) := by decide +kernel
theorem dX6_comes_98 : decode cX6_comes 98 = .ok (.iadd, 1) := by decide +kernel
theorem dX6_comes_99 : decode cX6_comes 99 = .ok (.iaload, 1) := by decide +kernel
theorem dX6_comes_100 : decode cX6_comes 100 = .ok (.aload_n 0, 1) := by decide +kernel
theorem dX6_comes_101 : decode cX6_comes 101 = .ok (.getfield 37, 3) := by decide +kernel
theorem dX6_comes_104 : decode cX6_comes 104 = .ok (.iload_n 2, 1) := by decide +kernel
theorem dX6_comes_105 : decode cX6_comes 105 = .ok (.iconst 3, 1) := by decide +kernel
theorem dX6_comes_106 : decode cX6_comes 106 = .ok (.iadd, 1) := by decide +kernel
theorem dX6_comes_107 : decode cX6_comes 107 = .ok (.iaload, 1) := by decide +kernel
theorem dX6_comes_108 : decode cX6_comes 108 = .ok (.invokevirtual 114, 3) := by decide +kernel
theorem dX6_comes_111 : decode cX6_comes 111 = .ok (.iconst 1, 1) := by decide +kernel
theorem dX6_comes_112 : decode cX6_comes 112 = .ok (.ireturn, 1) := by decide +kernel
theorem dX6_comes_113 : decode cX6_comes 113 = .ok (.aload_n 0, 1) := by decide +kernel
theorem dX6_comes_114 : decode cX6_comes 114 = .ok (.getfield 37, 3) := by decide +kernel
theorem dX6_comes_117 : decode cX6_comes 117 = .ok (.iload_n 2, 1) := by decide +kernel
theorem dX6_comes_118 : decode cX6_comes 118 = .ok (.iaload, 1) := by decide +kernel
theorem dX6_comes_119 : decode cX6_comes 119 = .ok (.invokestatic 111, 3) := by decide +kernel
theorem dX6_comes_122 : decode cX6_comes 122 = .ok (.ifCond .ne 5, 3) := by decide +kernel
theorem dX6_comes_125 : decode cX6_comes 125 = .ok (.iconst 0, 1) := by decide +kernel
theorem dX6_comes_126 : decode cX6_comes 126 = .ok (.ireturn, 1) := by decide +kernel
theorem dX6_comes_127 : decode cX6_comes 127 = .ok (.aload_n 0, 1) := by decide +kernel
theorem dX6_comes_128 : decode cX6_comes 128 = .ok (.getfield 13, 3) := by decide +kernel
theorem dX6_comes_131 : decode cX6_comes 131 = .ok (.aload_n 0, 1) := by decide +kernel
theorem dX6_comes_132 : decode cX6_comes 132 = .ok (.getfield 37, 3) := by decide +kernel
theorem dX6_comes_135 : decode cX6_comes 135 = .ok (.iload_n 2, 1) := by decide +kernel
theorem dX6_comes_136 : decode cX6_comes 136 = .ok (.iaload, 1) := by decide +kernel
theorem dX6_comes_137 : decode cX6_comes 137 = .ok (.aload_n 0, 1) := by decide +kernel
theorem dX6_comes_138 : decode cX6_comes 138 = .ok (.getfield 37, 3) := by decide +kernel
theorem dX6_comes_141 : decode cX6_comes 141 = .ok (.iload_n 2, 1) := by decide +kernel
theorem dX6_comes_142 : decode cX6_comes 142 = .ok (.iconst 1, 1) := by decide +kernel
theorem dX6_comes_143 : decode cX6_comes 143 = .ok (.iadd, 1) := by decide +kernel
theorem dX6_comes_144 : decode cX6_comes 144 = .ok (.iaload, 1) := by decide +kernel
theorem dX6_comes_145 : decode cX6_comes 145 = .ok (.iastore, 1) := by decide +kernel
theorem dX6_comes_146 : decode cX6_comes 146 = .ok (.iconst 1, 1) := by decide +kernel
theorem dX6_comes_147 : decode cX6_comes 147 = .ok (.ireturn, 1) := by decide +kernel
theorem dX6_comes_148 : decode cX6_comes 148 = .ok (.aload_n 0, 1) := by decide +kernel
theorem dX6_comes_149 : decode cX6_comes 149 = .ok (.aload_n 0, 1) := by decide +kernel
theorem dX6_comes_150 : decode cX6_comes 150 = .ok (.getfield 37, 3) := by decide +kernel
theorem dX6_comes_153 : decode cX6_comes 153 = .ok (.iload_n 2, 1) := by decide +kernel
theorem dX6_comes_154 : decode cX6_comes 154 = .ok (.iaload, 1) := by decide +kernel
theorem dX6_comes_155 : decode cX6_comes 155 = .ok (.invokevirtual 118, 3) := by decide +kernel
theorem dX6_comes_158 : decode cX6_comes 158 = .ok (.ifCond .ne 5, 3) := by decide +kernel
theorem dX6_comes_161 : decode cX6_comes 161 = .ok (.iconst 0, 1) := by decide +kernel
theorem dX6_comes_162 : decode cX6_comes 162 = .ok (.ireturn, 1) := by decide +kernel
theorem dX6_comes_163 : decode cX6_comes 163 = .ok (.aload_n 0, 1) := by decide +kernel
theorem dX6_comes_164 : decode cX6_comes 164 = .ok (.getfield 25, 3) := by decide +kernel
theorem dX6_comes_167 : decode cX6_comes 167 = .ok (.aload_n 0, 1) := by decide +kernel
theorem dX6_comes_168 : decode cX6_comes 168 = .ok (.getfield 37, 3) := by decide +kernel
theorem dX6_comes_171 : decode cX6_comes 171 = .ok (.iload_n 2, 1) := by decide +kernel
theorem dX6_comes_172 : decode cX6_comes 172 = .ok (.iaload, 1) := by decide +kernel
theorem dX6_comes_173 : decode cX6_comes 173 = .ok (.aload_n 0, 1) := by decide +kernel
theorem dX6_comes_174 : decode cX6_comes 174 = .ok (.getfield 37, 3) := by decide +kernel
theorem dX6_comes_177 : decode cX6_comes 177 = .ok (.iload_n 2, 1) := by decide +kernel
theorem dX6_comes_178 : decode cX6_comes 178 = .ok (.iconst 1, 1) := by decide +kernel
theorem dX6_comes_179 : decode cX6_comes 179 = .ok (.iadd, 1) := by decide +kernel
theorem dX6_comes_180 : decode cX6_comes 180 = .ok (.iaload, 1) := by decide +kernel
theorem dX6_comes_181 : decode cX6_comes 181 = .ok (.iastore, 1) := by decide +kernel
theorem dX6_comes_182 : decode cX6_comes 182 = .ok (.iconst 1, 1) := by decide +kernel
theorem dX6_comes_183 : decode cX6_comes 183 = .ok (.ireturn, 1) := by decide +kernel
theorem dX6_comes_184 : decode cX6_comes 184 = .ok (.aload_n 0, 1) := by decide +kernel
theorem dX6_comes_185 : decode cX6_comes 185 = .ok (.aload_n 0, 1) := by decide +kernel
theorem dX6_comes_186 : decode cX6_comes 186 = .ok (.getfield 37, 3) := by decide +kernel
theorem dX6_comes_189 : decode cX6_comes 189 = .ok (.iload_n 2, 1) := by decide +kernel
theorem dX6_comes_190 : decode cX6_comes 190 = .ok (.iaload, 1) := by decide +kernel
theorem dX6_comes_191 : decode cX6_comes 191 = .ok (.invokevirtual 118, 3) := by decide +kernel
theorem dX6_comes_194 : decode cX6_comes 194 = .ok (.ifCond .eq 17, 3) := by decide +kernel
theorem dX6_comes_197 : decode cX6_comes 197 = .ok (.aload_n 0, 1) := by decide +kernel
theorem dX6_comes_198 : decode cX6_comes 198 = .ok (.getfield 37, 3) := by decide +kernel
theorem dX6_comes_201 : decode cX6_comes 201 = .ok (.iload_n 2, 1) := by decide +kernel
theorem dX6_comes_202 : decode cX6_comes 202 = .ok (.iconst 1, 1) := by decide +kernel
theorem dX6_comes_203 : decode cX6_comes 203 = .ok (.iadd, 1) := by decide +kernel
theorem dX6_comes_204 : decode cX6_comes 204 = .ok (.iaload, 1) := by decide +kernel
theorem dX6_comes_205 : decode cX6_comes 205 = .ok (.invokestatic 111, 3) := by decide +kernel
theorem dX6_comes_208 : decode cX6_comes 208 = .ok (.ifCond .ne 5, 3) := by decide +kernel
theorem dX6_comes_211 : decode cX6_comes 211 = .ok (.iconst 0, 1) := by decide +kernel
theorem dX6_comes_212 : decode cX6_comes 212 = .ok (.ireturn, 1) := by decide +kernel
theorem dX6_comes_213 : decode cX6_comes 213 = .ok (.aload_n 0, 1) := by decide +kernel
theorem dX6_comes_214 : decode cX6_comes 214 = .ok (.getfield 22, 3) := by decide +kernel
theorem dX6_comes_217 : decode cX6_comes 217 = .ok (.aload_n 0, 1) := by decide +kernel
theorem dX6_comes_218 : decode cX6_comes 218 = .ok (.getfield 37, 3) := by decide +kernel
theorem dX6_comes_221 : decode cX6_comes 221 = .ok (.iload_n 2, 1) := by decide +kernel
theorem dX6_comes_222 : decode cX6_comes 222 = .ok (.iaload, 1) := by decide +kernel
theorem dX6_comes_223 : decode cX6_comes 223 = .ok (.aload_n 0, 1) := by decide +kernel
theorem dX6_comes_224 : decode cX6_comes 224 = .ok (.getfield 37, 3) := by decide +kernel
theorem dX6_comes_227 : decode cX6_comes 227 = .ok (.iload_n 2, 1) := by decide +kernel
theorem dX6_comes_228 : decode cX6_comes 228 = .ok (.iconst 1, 1) := by decide +kernel
theorem dX6_comes_229 : decode cX6_comes 229 = .ok (.iadd, 1) := by decide +kernel
theorem dX6_comes_230 : decode cX6_comes 230 = .ok (.iaload, 1) := by decide +kernel
theorem dX6_comes_231 : decode cX6_comes 231 = .ok (.iastore, 1) := by decide +kernel
theorem dX6_comes_232 : decode cX6_comes 232 = .ok (.iconst 1, 1) := by decide +kernel
theorem dX6_comes_233 : decode cX6_comes 233 = .ok (.ireturn, 1) := by decide +kernel
theorem dX6_comes_234 : decode cX6_comes 234 = .ok (.aload_n 0, 1) := by decide +kernel
theorem dX6_comes_235 : decode cX6_comes 235 = .ok (.aload_n 0, 1) := by decide +kernel
theorem dX6_comes_236 : decode cX6_comes 236 = .ok (.getfield 37, 3) := by decide +kernel
theorem dX6_comes_239 : decode cX6_comes 239 = .ok (.iload_n 2, 1) := by decide +kernel
theorem dX6_comes_240 : decode cX6_comes 240 = .ok (.iaload, 1) := by decide +kernel
theorem dX6_comes_241 : decode cX6_comes 241 = .ok (.invokevirtual 121, 3) := by decide +kernel
theorem dX6_comes_244 : decode cX6_comes 244 = .ok (.ireturn, 1) := by decide +kernel
set_option maxRecDepth 20000 in
theorem ggX6_slope_X6_statement : GoodIn wsX6_slope wsX6_statement := goodIn_r _ [9, 10, 2, 4, 1, 11, 12, 13, 8, 14, 3, 15, 16, 17, 18, 19, 20, 21, 22, 23, 24, 25, 26, 27, 28, 29, 30, 31, 32, 33, 34, 145, 146, 147, 148, 149, 150, 151, 152, 153, 154, 155, 156, 157, 158, 159, 160, 161, 162, 163, 164, 165, 166, 167, 168, 169] (by decide +kernel) (by decide +kernel)
set_option maxRecDepth 20000 in
theorem gX6_slope_X6_statement : GoodIn wsX6_slope (wsV RX6 124 RX6 yX6_statement wsX6_statement) := goodIn_app (goodIn_of _ (by decide +kernel)) ggX6_slope_X6_statement
set_option maxRecDepth 20000 in
theorem ggX6_slope_X6_passesAll : GoodIn wsX6_slope wsX6_passesAll := goodIn_r _ [38, 39, 40, 41, 42, 43, 44, 45, 46, 47, 48, 49, 50, 8, 51, 52, 53, 54, 55, 56, 145, 146, 147, 148, 149, 150, 151, 152, 153, 154, 155, 156, 157, 158, 159, 160, 161, 162, 163, 164, 165, 166, 167, 168, 169] (by decide +kernel) (by decide +kernel)
set_option maxRecDepth 20000 in
theorem gX6_slope_X6_passesAll : GoodIn wsX6_slope (wsV RX6 128 RX6 yX6_passesAll wsX6_passesAll) := goodIn_app (goodIn_of _ (by decide +kernel)) ggX6_slope_X6_passesAll
set_option maxRecDepth 20000 in
theorem ggX6_slope_X6_comes : GoodIn wsX6_slope wsX6_comes := goodIn_r _ [60, 10, 24, 46, 41, 45, 44, 61, 62, 8, 63, 64, 65, 66, 67, 42, 43, 68, 69, 70, 71, 72, 73, 74, 75, 47, 32, 33, 34, 76, 77, 78, 79, 80, 81, 82, 83, 84, 85, 86, 87, 88, 89, 90, 91, 92, 93, 94, 95, 96, 97, 98, 99, 100, 101, 102, 103, 104, 105, 106, 107, 108, 109, 110, 111, 112, 113, 114, 115, 116, 117, 118, 119, 120, 121, 122, 123, 124, 125, 126, 127, 128, 129, 130, 131, 132, 133, 134, 135, 136, 137, 138, 139, 140, 141, 142, 143, 144, 145, 146, 147, 148, 149, 150, 151, 152, 153, 154, 155, 156, 157, 158, 159, 160, 161, 162, 163, 164, 165, 166, 167, 168, 169] (by decide +kernel) (by decide +kernel)
set_option maxRecDepth 20000 in
theorem gX6_slope_X6_comes : GoodIn wsX6_slope (wsV RX6 132 RX6 yX6_comes wsX6_comes) := goodIn_app (goodIn_of _ (by decide +kernel)) ggX6_slope_X6_comes
theorem dX6_slope_0 : decode cX6_slope 0 = .ok (.aload_n 0, 1) := by decide +kernel
theorem dX6_slope_1 : decode cX6_slope 1 = .ok (.iconst 0, 1) := by decide +kernel
theorem dX6_slope_2 : decode cX6_slope 2 = .ok (.putfield 77, 3) := by decide +kernel
theorem dX6_slope_5 : decode cX6_slope 5 = .ok (.aload_n 0, 1) := by decide +kernel
theorem dX6_slope_6 : decode cX6_slope 6 = .ok (.iconst 0, 1) := by decide +kernel
theorem dX6_slope_7 : decode cX6_slope 7 = .ok (.putfield 98, 3) := by decide +kernel
theorem dX6_slope_10 : decode cX6_slope 10 = .ok (.iconst 1, 1) := by decide +kernel
theorem dX6_slope_11 : decode cX6_slope 11 = .ok (.istore_n 1, 1) := by decide +kernel
theorem dX6_slope_12 : decode cX6_slope 12 = .ok (.iload_n 1, 1) := by decide +kernel
theorem dX6_slope_13 : decode cX6_slope 13 = .ok (.ifCond .eq 47, 3) := by decide +kernel
theorem dX6_slope_16 : decode cX6_slope 16 = .ok (.aload_n 0, 1) := by decide +kernel
theorem dX6_slope_17 : decode cX6_slope 17 = .ok (.getfield 77, 3) := by decide +kernel
theorem dX6_slope_20 : decode cX6_slope 20 = .ok (.aload_n 0, 1) := by decide +kernel
theorem dX6_slope_21 : decode cX6_slope 21 = .ok (.getfield 70, 3) := by decide +kernel
theorem dX6_slope_24 : decode cX6_slope 24 = .ok (.if_icmp .lt 10, 3) := by decide +kernel
theorem dX6_slope_27 : decode cX6_slope 27 = .ok (.aload_n 0, 1) := by decide +kernel
theorem dX6_slope_28 : decode cX6_slope 28 = .ok (.getfield 98, 3) := by decide +kernel
theorem dX6_slope_31 : decode cX6_slope 31 = .ok (.ifCond .ne 29, 3) := by decide +kernel
theorem dX6_slope_34 : decode cX6_slope 34 = .ok (.aload_n 0, 1) := by decide +kernel
theorem dX6_slope_35 : decode cX6_slope 35 = .ok (.invokevirtual 124, 3) := by decide +kernel
theorem dX6_slope_38 : decode cX6_slope 38 = .ok (.istore_n 1, 1) := by decide +kernel
theorem dX6_slope_39 : decode cX6_slope 39 = .ok (.aload_n 0, 1) := by decide +kernel
theorem dX6_slope_40 : decode cX6_slope 40 = .ok (.dup, 1) := by decide +kernel
theorem dX6_slope_41 : decode cX6_slope 41 = .ok (.getfield 98, 3) := by decide +kernel
theorem dX6_slope_44 : decode cX6_slope 44 = .ok (.iload_n 1, 1) := by decide +kernel
theorem dX6_slope_45 : decode cX6_slope 45 = .ok (.ifCond .eq 7, 3) := by decide +kernel
theorem dX6_slope_48 : decode cX6_slope 48 = .ok (.iconst 1, 1) := by decide +kernel
theorem dX6_slope_49 : decode cX6_slope 49 = .ok (.goto 4, 3) := by decide +kernel
theorem dX6_slope_52 : decode cX6_slope 52 = .ok (.iconst 0, 1) := by decide +kernel
theorem dX6_slope_53 : decode cX6_slope 53 = .ok (.iadd, 1) := by decide +kernel
theorem dX6_slope_54 : decode cX6_slope 54 = .ok (.putfield 98, 3) := by decide +kernel
theorem dX6_slope_57 : decode cX6_slope 57 = .ok (.goto (-45), 3) := by decide +kernel
theorem dX6_slope_60 : decode cX6_slope 60 = .ok (.aload_n 0, 1) := by decide +kernel
theorem dX6_slope_61 : decode cX6_slope 61 = .ok (.iconst 0, 1) := by decide +kernel
theorem dX6_slope_62 : decode cX6_slope 62 = .ok (.putfield 70, 3) := by decide +kernel
theorem dX6_slope_65 : decode cX6_slope 65 = .ok (.iload_n 1, 1) := by decide +kernel
theorem dX6_slope_66 : decode cX6_slope 66 = .ok (.ifCond .ne 12, 3) := by decide +kernel
theorem dX6_slope_69 : decode cX6_slope 69 = .ok (.sipush (-1000), 3) := by decide +kernel
theorem dX6_slope_72 : decode cX6_slope 72 = .ok (.aload_n 0, 1) := by decide +kernel
theorem dX6_slope_73 : decode cX6_slope 73 = .ok (.getfield 77, 3) := by decide +kernel
theorem dX6_slope_76 : decode cX6_slope 76 = .ok (.isub, 1) := by decide +kernel
theorem dX6_slope_77 : decode cX6_slope 77 = .ok (.ireturn, 1) := by decide +kernel
theorem dX6_slope_78 : decode cX6_slope 78 = .ok (.aload_n 0, 1) := by decide +kernel
theorem dX6_slope_79 : decode cX6_slope 79 = .ok (.iconst 1, 1) := by decide +kernel
theorem dX6_slope_80 : decode cX6_slope 80 = .ok (.iconst 1, 1) := by decide +kernel
theorem dX6_slope_81 : decode cX6_slope 81 = .ok (.invokevirtual 128, 3) := by decide +kernel
theorem dX6_slope_84 : decode cX6_slope 84 = .ok (.iconst 0, 1) := by decide +kernel
theorem dX6_slope_85 : decode cX6_slope 85 = .ok (.istore_n 2, 1) := by decide +kernel
theorem dX6_slope_86 : decode cX6_slope 86 = .ok (.iload_n 2, 1) := by decide +kernel
theorem dX6_slope_87 : decode cX6_slope 87 = .ok (.aload_n 0, 1) := by decide +kernel
theorem dX6_slope_88 : decode cX6_slope 88 = .ok (.getfield 98, 3) := by decide +kernel
theorem dX6_slope_91 : decode cX6_slope 91 = .ok (.if_icmp .ge 37, 3) := by decide +kernel
theorem dX6_slope_94 : decode cX6_slope 94 = .ok (.aload_n 0, 1) := by decide +kernel
theorem dX6_slope_95 : decode cX6_slope 95 = .ok (.iload_n 2, 1) := by decide +kernel
theorem dX6_slope_96 : decode cX6_slope 96 = .ok (.invokevirtual 132, 3) := by decide +kernel
theorem dX6_slope_99 : decode cX6_slope 99 = .ok (.ifCond .eq 6, 3) := by decide +kernel
theorem dX6_slope_102 : decode cX6_slope 102 = .ok (.goto 20, 3) := by decide +kernel
theorem dX6_slope_105 : decode cX6_slope 105 = .ok (.aload_n 0, 1) := by decide +kernel
theorem dX6_slope_106 : decode cX6_slope 106 = .ok (.iconst 1, 1) := by decide +kernel
theorem dX6_slope_107 : decode cX6_slope 107 = .ok (.iconst 0, 1) := by decide +kernel
theorem dX6_slope_108 : decode cX6_slope 108 = .ok (.invokevirtual 128, 3) := by decide +kernel
theorem dX6_slope_111 : decode cX6_slope 111 = .ok (.sipush (-2000), 3) := by decide +kernel
theorem dX6_slope_114 : decode cX6_slope 114 = .ok (.aload_n 0, 1) := by decide +kernel
theorem dX6_slope_115 : decode cX6_slope 115 = .ok (.getfield 34, 3) := by decide +kernel
theorem dX6_slope_118 : decode cX6_slope 118 = .ok (.iload_n 2, 1) := by decide +kernel
theorem dX6_slope_119 : decode cX6_slope 119 = .ok (.iaload, 1) := by decide +kernel
theorem dX6_slope_120 : decode cX6_slope 120 = .ok (.isub, 1) := by decide +kernel
theorem dX6_slope_121 : decode cX6_slope 121 = .ok (.ireturn, 1) := by decide +kernel
theorem dX6_slope_122 : decode cX6_slope 122 = .ok (.iinc 2 1, 3) := by decide +kernel
theorem dX6_slope_125 : decode cX6_slope 125 = .ok (.goto (-39), 3) := by decide +kernel
theorem dX6_slope_128 : decode cX6_slope 128 = .ok (.aload_n 0, 1) := by decide +kernel
theorem dX6_slope_129 : decode cX6_slope 129 = .ok (.getfield 98, 3) := by decide +kernel
theorem dX6_slope_132 : decode cX6_slope 132 = .ok (.ireturn, 1) := by decide +kernel
theorem dX6_passes_0 : decode cX6_passes 0 = .ok (.iconst 0, 1) := by decide +kernel
theorem dX6_passes_1 : decode cX6_passes 1 = .ok (.istore_n 2, 1) := by decide +kernel
theorem dX6_passes_2 : decode cX6_passes 2 = .ok (.iload_n 2, 1) := by decide +kernel
theorem dX6_passes_3 : decode cX6_passes 3 = .ok (.aload_n 1, 1) := by decide +kernel
theorem dX6_passes_4 : decode cX6_passes 4 = .ok (.arraylength, 1) := by decide +kernel
theorem dX6_passes_5 : decode cX6_passes 5 = .ok (.if_icmp .ge 53, 3) := by decide +kernel
theorem dX6_passes_8 : decode cX6_passes 8 = .ok (.aload_n 0, 1) := by decide +kernel
theorem dX6_passes_9 : decode cX6_passes 9 = .ok (.getfield 135, 3) := by decide +kernel
theorem dX6_passes_12 : decode cX6_passes 12 = .ok (.ifCond .eq 18, 3) := by decide +kernel
theorem dX6_passes_15 : decode cX6_passes 15 = .ok (.aload_n 0, 1) := by decide +kernel
theorem dX6_passes_16 : decode cX6_passes 16 = .ok (.getfield 40, 3) := by decide +kernel
theorem dX6_passes_19 : decode cX6_passes 19 = .ok (.aload_n 0, 1) := by decide +kernel
theorem dX6_passes_20 : decode cX6_passes 20 = .ok (.getfield 139, 3) := by decide +kernel
theorem dX6_passes_23 : decode cX6_passes 23 = .ok (.aload_n 1, 1) := by decide +kernel
theorem dX6_passes_24 : decode cX6_passes 24 = .ok (.iload_n 2, 1) := by decide +kernel
theorem dX6_passes_25 : decode cX6_passes 25 = .ok (.iaload, 1) := by decide +kernel
theorem dX6_passes_26 : decode cX6_passes 26 = .ok (.iastore, 1) := by decide +kernel
theorem dX6_passes_27 : decode cX6_passes 27 = .ok (.goto 15, 3) := by decide +kernel
theorem dX6_passes_30 : decode cX6_passes 30 = .ok (.aload_n 1, 1) := by decide +kernel
theorem dX6_passes_31 : decode cX6_passes 31 = .ok (.iload_n 2, 1) := by decide +kernel
theorem dX6_passes_32 : decode cX6_passes 32 = .ok (.aload_n 0, 1) := by decide +kernel
theorem dX6_passes_33 : decode cX6_passes 33 = .ok (.getfield 40, 3) := by decide +kernel
theorem dX6_passes_36 : decode cX6_passes 36 = .ok (.aload_n 0, 1) := by decide +kernel
theorem dX6_passes_37 : decode cX6_passes 37 = .ok (.getfield 139, 3) := by decide +kernel
theorem dX6_passes_40 : decode cX6_passes 40 = .ok (.iaload, 1) := by decide +kernel
theorem dX6_passes_41 : decode cX6_passes 41 = .ok (.iastore, 1) := by decide +kernel
theorem dX6_passes_42 : decode cX6_passes 42 = .ok (.aload_n 0, 1) := by decide +kernel
theorem dX6_passes_43 : decode cX6_passes 43 = .ok (.dup, 1) := by decide +kernel
theorem dX6_passes_44 : decode cX6_passes 44 = .ok (.getfield 139, 3) := by decide +kernel
theorem dX6_passes_47 : decode cX6_passes 47 = .ok (.iconst 1, 1) := by decide +kernel
theorem dX6_passes_48 : decode cX6_passes 48 = .ok (.iadd, 1) := by decide +kernel
theorem dX6_passes_49 : decode cX6_passes 49 = .ok (.putfield 139, 3) := by decide +kernel
theorem dX6_passes_52 : decode cX6_passes 52 = .ok (.iinc 2 1, 3) := by decide +kernel
theorem dX6_passes_55 : decode cX6_passes 55 = .ok (.goto (-53), 3) := by decide +kernel
theorem dX6_passes_58 : decode cX6_passes 58 = .ok (.return_, 1) := by decide +kernel
theorem dX6_passOne_0 : decode cX6_passOne 0 = .ok (.aload_n 0, 1) := by decide +kernel
theorem dX6_passOne_1 : decode cX6_passOne 1 = .ok (.getfield 135, 3) := by decide +kernel
theorem dX6_passOne_4 : decode cX6_passOne 4 = .ok (.ifCond .eq 7, 3) := by decide +kernel
theorem dX6_passOne_7 : decode cX6_passOne 7 = .ok (.iload_n 1, 1) := by decide +kernel
theorem dX6_passOne_8 : decode cX6_passOne 8 = .ok (.goto 12, 3) := by decide +kernel
theorem dX6_passOne_11 : decode cX6_passOne 11 = .ok (.aload_n 0, 1) := by decide +kernel
theorem dX6_passOne_12 : decode cX6_passOne 12 = .ok (.getfield 40, 3) := by decide +kernel
theorem dX6_passOne_15 : decode cX6_passOne 15 = .ok (.aload_n 0, 1) := by decide +kernel
theorem dX6_passOne_16 : decode cX6_passOne 16 = .ok (.getfield 139, 3) := by decide +kernel
theorem dX6_passOne_19 : decode cX6_passOne 19 = .ok (.iaload, 1) := by decide +kernel
theorem dX6_passOne_20 : decode cX6_passOne 20 = .ok (.istore_n 2, 1) := by decide +kernel
theorem dX6_passOne_21 : decode cX6_passOne 21 = .ok (.aload_n 0, 1) := by decide +kernel
theorem dX6_passOne_22 : decode cX6_passOne 22 = .ok (.getfield 135, 3) := by decide +kernel
theorem dX6_passOne_25 : decode cX6_passOne 25 = .ok (.ifCond .eq 13, 3) := by decide +kernel
theorem dX6_passOne_28 : decode cX6_passOne 28 = .ok (.aload_n 0, 1) := by decide +kernel
theorem dX6_passOne_29 : decode cX6_passOne 29 = .ok (.getfield 40, 3) := by decide +kernel
theorem dX6_passOne_32 : decode cX6_passOne 32 = .ok (.aload_n 0, 1) := by decide +kernel
theorem dX6_passOne_33 : decode cX6_passOne 33 = .ok (.getfield 139, 3) := by decide +kernel
theorem dX6_passOne_36 : decode cX6_passOne 36 = .ok (.iload_n 1, 1) := by decide +kernel
theorem dX6_passOne_37 : decode cX6_passOne 37 = .ok (.iastore, 1) := by decide +kernel
theorem dX6_passOne_38 : decode cX6_passOne 38 = .ok (.aload_n 0, 1) := by decide +kernel
theorem dX6_passOne_39 : decode cX6_passOne 39 = .ok (.dup, 1) := by decide +kernel
theorem dX6_passOne_40 : decode cX6_passOne 40 = .ok (.getfield 139, 3) := by decide +kernel
theorem dX6_passOne_43 : decode cX6_passOne 43 = .ok (.iconst 1, 1) := by decide +kernel
theorem dX6_passOne_44 : decode cX6_passOne 44 = .ok (.iadd, 1) := by decide +kernel
theorem dX6_passOne_45 : decode cX6_passOne 45 = .ok (.putfield 139, 3) := by decide +kernel
theorem dX6_passOne_48 : decode cX6_passOne 48 = .ok (.iload_n 2, 1) := by decide +kernel
theorem dX6_passOne_49 : decode cX6_passOne 49 = .ok (.ireturn, 1) := by decide +kernel
set_option maxRecDepth 20000 in
theorem ggX6_passesAll_X6_passes : GoodIn wsX6_passesAll wsX6_passes := goodIn_r _ [14, 2, 15, 1, 20, 21, 22, 23, 24, 25, 26, 27, 28, 29, 30, 31, 32, 33, 34, 35, 36, 37, 38, 39, 40, 41, 42, 43, 44] (by decide +kernel) (by decide +kernel)
set_option maxRecDepth 20000 in
theorem gX6_passesAll_X6_passes : GoodIn wsX6_passesAll (wsV RX6 142 RX6 yX6_passes wsX6_passes) := goodIn_app (goodIn_of _ (by decide +kernel)) ggX6_passesAll_X6_passes
set_option maxRecDepth 20000 in
theorem ggX6_passesAll_X6_passOne : GoodIn wsX6_passesAll wsX6_passOne := goodIn_r _ [19, 2, 15, 1, 20, 21, 22, 23, 24, 25, 26, 27, 28, 29, 30, 31, 32, 33, 34, 35, 36, 37, 38, 39, 40, 41, 42, 43, 44] (by decide +kernel) (by decide +kernel)
set_option maxRecDepth 20000 in
theorem gX6_passesAll_X6_passOne : GoodIn wsX6_passesAll (wsV RX6 146 RX6 yX6_passOne wsX6_passOne) := goodIn_app (goodIn_of _ (by decide +kernel)) ggX6_passesAll_X6_passOne
theorem dX6_passesAll_0 : decode cX6_passesAll 0 = .ok (.aload_n 0, 1) := by decide +kernel
theorem dX6_passesAll_1 : decode cX6_passesAll 1 = .ok (.bipush 60, 2) := by decide +kernel
theorem dX6_passesAll_3 : decode cX6_passesAll 3 = .ok (.iload_n 1, 1) := by decide +kernel
theorem dX6_passesAll_4 : decode cX6_passesAll 4 = .ok (.imul, 1) := by decide +kernel
theorem dX6_passesAll_5 : decode cX6_passesAll 5 = .ok (.putfield 139, 3) := by decide +kernel
theorem dX6_passesAll_8 : decode cX6_passesAll 8 = .ok (.aload_n 0, 1) := by decide +kernel
theorem dX6_passesAll_9 : decode cX6_passesAll 9 = .ok (.iload_n 2, 1) := by decide +kernel
theorem dX6_passesAll_10 : decode cX6_passesAll 10 = .ok (.putfield 135, 3) := by decide +kernel
theorem dX6_passesAll_13 : decode cX6_passesAll 13 = .ok (.aload_n 0, 1) := by decide +kernel
theorem dX6_passesAll_14 : decode cX6_passesAll 14 = .ok (.aload_n 0, 1) := by decide +kernel
theorem dX6_passesAll_15 : decode cX6_passesAll 15 = .ok (.getfield 13, 3) := by decide +kernel
theorem dX6_passesAll_18 : decode cX6_passesAll 18 = .ok (.invokevirtual 142, 3) := by decide +kernel
theorem dX6_passesAll_21 : decode cX6_passesAll 21 = .ok (.aload_n 0, 1) := by decide +kernel
theorem dX6_passesAll_22 : decode cX6_passesAll 22 = .ok (.aload_n 0, 1) := by decide +kernel
theorem dX6_passesAll_23 : decode cX6_passesAll 23 = .ok (.getfield 16, 3) := by decide +kernel
theorem dX6_passesAll_26 : decode cX6_passesAll 26 = .ok (.invokevirtual 142, 3) := by decide +kernel
theorem dX6_passesAll_29 : decode cX6_passesAll 29 = .ok (.aload_n 0, 1) := by decide +kernel
theorem dX6_passesAll_30 : decode cX6_passesAll 30 = .ok (.aload_n 0, 1) := by decide +kernel
theorem dX6_passesAll_31 : decode cX6_passesAll 31 = .ok (.getfield 19, 3) := by decide +kernel
theorem dX6_passesAll_34 : decode cX6_passesAll 34 = .ok (.invokevirtual 142, 3) := by decide +kernel
theorem dX6_passesAll_37 : decode cX6_passesAll 37 = .ok (.aload_n 0, 1) := by decide +kernel
theorem dX6_passesAll_38 : decode cX6_passesAll 38 = .ok (.aload_n 0, 1) := by decide +kernel
theorem dX6_passesAll_39 : decode cX6_passesAll 39 = .ok (.getfield 22, 3) := by decide +kernel
theorem dX6_passesAll_42 : decode cX6_passesAll 42 = .ok (.invokevirtual 142, 3) := by decide +kernel
theorem dX6_passesAll_45 : decode cX6_passesAll 45 = .ok (.aload_n 0, 1) := by decide +kernel
theorem dX6_passesAll_46 : decode cX6_passesAll 46 = .ok (.aload_n 0, 1) := by decide +kernel
theorem dX6_passesAll_47 : decode cX6_passesAll 47 = .ok (.getfield 25, 3) := by decide +kernel
theorem dX6_passesAll_50 : decode cX6_passesAll 50 = .ok (.invokevirtual 142, 3) := by decide +kernel
theorem dX6_passesAll_53 : decode cX6_passesAll 53 = .ok (.aload_n 0, 1) := by decide +kernel
theorem dX6_passesAll_54 : decode cX6_passesAll 54 = .ok (.aload_n 0, 1) := by decide +kernel
theorem dX6_passesAll_55 : decode cX6_passesAll 55 = .ok (.aload_n 0, 1) := by decide +kernel
theorem dX6_passesAll_56 : decode cX6_passesAll 56 = .ok (.getfield 52, 3) := by decide +kernel
theorem dX6_passesAll_59 : decode cX6_passesAll 59 = .ok (.invokevirtual 146, 3) := by decide +kernel
theorem dX6_passesAll_62 : decode cX6_passesAll 62 = .ok (.putfield 52, 3) := by decide +kernel
theorem dX6_passesAll_65 : decode cX6_passesAll 65 = .ok (.aload_n 0, 1) := by decide +kernel
theorem dX6_passesAll_66 : decode cX6_passesAll 66 = .ok (.aload_n 0, 1) := by decide +kernel
theorem dX6_passesAll_67 : decode cX6_passesAll 67 = .ok (.aload_n 0, 1) := by decide +kernel
theorem dX6_passesAll_68 : decode cX6_passesAll 68 = .ok (.getfield 104, 3) := by decide +kernel
theorem dX6_passesAll_71 : decode cX6_passesAll 71 = .ok (.invokevirtual 146, 3) := by decide +kernel
theorem dX6_passesAll_74 : decode cX6_passesAll 74 = .ok (.putfield 104, 3) := by decide +kernel
theorem dX6_passesAll_77 : decode cX6_passesAll 77 = .ok (.return_, 1) := by decide +kernel
set_option maxRecDepth 20000 in
theorem ggX6_thinks_X6_passesAll : GoodIn wsX6_thinks wsX6_passesAll := goodIn_r _ [5, 6, 7, 8, 9, 10, 11, 12, 13, 14, 15, 16, 17, 4, 18, 19, 20, 21, 22, 23, 24, 25, 26, 27, 28, 29, 30, 31, 32, 33, 34, 35, 36, 37, 38, 39, 40, 41, 42, 43, 44, 45, 46, 47, 48] (by decide +kernel) (by decide +kernel)
set_option maxRecDepth 20000 in
theorem gX6_thinks_X6_passesAll : GoodIn wsX6_thinks (wsV RX6 128 RX6 yX6_passesAll wsX6_passesAll) := goodIn_app (goodIn_of _ (by decide +kernel)) ggX6_thinks_X6_passesAll
theorem dX6_thinks_0 : decode cX6_thinks 0 = .ok (.aload_n 0, 1) := by decide +kernel
theorem dX6_thinks_1 : decode cX6_thinks 1 = .ok (.iconst 2, 1) := by decide +kernel
theorem dX6_thinks_2 : decode cX6_thinks 2 = .ok (.iconst 1, 1) := by decide +kernel
theorem dX6_thinks_3 : decode cX6_thinks 3 = .ok (.invokevirtual 128, 3) := by decide +kernel
theorem dX6_thinks_6 : decode cX6_thinks 6 = .ok (.return_, 1) := by decide +kernel
set_option maxRecDepth 20000 in
theorem ggX6_forgets_X6_passesAll : GoodIn wsX6_forgets wsX6_passesAll := goodIn_r _ [5, 6, 7, 8, 9, 10, 11, 12, 13, 14, 15, 16, 17, 4, 18, 19, 20, 21, 22, 23, 24, 25, 26, 27, 28, 29, 30, 31, 32, 33, 34, 35, 36, 37, 38, 39, 40, 41, 42, 43, 44, 45, 46, 47, 48] (by decide +kernel) (by decide +kernel)
set_option maxRecDepth 20000 in
theorem gX6_forgets_X6_passesAll : GoodIn wsX6_forgets (wsV RX6 128 RX6 yX6_passesAll wsX6_passesAll) := goodIn_app (goodIn_of _ (by decide +kernel)) ggX6_forgets_X6_passesAll
theorem dX6_forgets_0 : decode cX6_forgets 0 = .ok (.aload_n 0, 1) := by decide +kernel
theorem dX6_forgets_1 : decode cX6_forgets 1 = .ok (.iconst 2, 1) := by decide +kernel
theorem dX6_forgets_2 : decode cX6_forgets 2 = .ok (.iconst 0, 1) := by decide +kernel
theorem dX6_forgets_3 : decode cX6_forgets 3 = .ok (.invokevirtual 128, 3) := by decide +kernel
theorem dX6_forgets_6 : decode cX6_forgets 6 = .ok (.return_, 1) := by decide +kernel
set_option maxRecDepth 20000 in
theorem ggX6_image_X6_passesAll : GoodIn wsX6_image wsX6_passesAll := goodIn_r _ [7, 8, 9, 10, 11, 12, 13, 14, 15, 2, 16, 17, 18, 6, 19, 20, 21, 22, 23, 24, 25, 26, 27, 28, 29, 30, 31, 32, 33, 34, 35, 36, 37, 38, 39, 40, 41, 42, 43, 44, 45, 46, 47, 48, 49] (by decide +kernel) (by decide +kernel)
set_option maxRecDepth 20000 in
theorem gX6_image_X6_passesAll : GoodIn wsX6_image (wsV RX6 128 RX6 yX6_passesAll wsX6_passesAll) := goodIn_app (goodIn_of _ (by decide +kernel)) ggX6_image_X6_passesAll
theorem dX6_image_0 : decode cX6_image 0 = .ok (.aload_n 0, 1) := by decide +kernel
theorem dX6_image_1 : decode cX6_image 1 = .ok (.iconst 1, 1) := by decide +kernel
theorem dX6_image_2 : decode cX6_image 2 = .ok (.putfield 149, 3) := by decide +kernel
theorem dX6_image_5 : decode cX6_image 5 = .ok (.aload_n 0, 1) := by decide +kernel
theorem dX6_image_6 : decode cX6_image 6 = .ok (.iconst 0, 1) := by decide +kernel
theorem dX6_image_7 : decode cX6_image 7 = .ok (.iconst 1, 1) := by decide +kernel
theorem dX6_image_8 : decode cX6_image 8 = .ok (.invokevirtual 128, 3) := by decide +kernel
theorem dX6_image_11 : decode cX6_image 11 = .ok (.aload_n 0, 1) := by decide +kernel
theorem dX6_image_12 : decode cX6_image 12 = .ok (.getfield 104, 3) := by decide +kernel
theorem dX6_image_15 : decode cX6_image 15 = .ok (.ireturn, 1) := by decide +kernel
set_option maxRecDepth 20000 in
theorem ggX6_on_X6_no : GoodIn wsX6_on wsX6_no := goodIn_r _ [7, 8, 30, 31, 32, 33, 34, 35, 36, 37, 38, 39, 40, 41, 42, 43, 44, 45, 46, 47, 48, 49, 50, 51, 52, 53, 54] (by decide +kernel) (by decide +kernel)
set_option maxRecDepth 20000 in
theorem gX6_on_X6_no : GoodIn wsX6_on (wsV RX6 73 RX6 yX6_no wsX6_no) := goodIn_app (goodIn_of _ (by decide +kernel)) ggX6_on_X6_no
set_option maxRecDepth 20000 in
theorem ggX6_on_X6_passesAll : GoodIn wsX6_on wsX6_passesAll := goodIn_r _ [12, 13, 14, 15, 16, 17, 18, 19, 20, 2, 21, 22, 23, 6, 24, 25, 26, 27, 28, 29, 30, 31, 32, 33, 34, 35, 36, 37, 38, 39, 40, 41, 42, 43, 44, 45, 46, 47, 48, 49, 50, 51, 52, 53, 54] (by decide +kernel) (by decide +kernel)
set_option maxRecDepth 20000 in
theorem gX6_on_X6_passesAll : GoodIn wsX6_on (wsV RX6 128 RX6 yX6_passesAll wsX6_passesAll) := goodIn_app (goodIn_of _ (by decide +kernel)) ggX6_on_X6_passesAll
theorem dX6_on_0 : decode cX6_on 0 = .ok (.aload_n 0, 1) := by decide +kernel
theorem dX6_on_1 : decode cX6_on 1 = .ok (.getfield 149, 3) := by decide +kernel
theorem dX6_on_4 : decode cX6_on 4 = .ok (.ifCond .ne 10, 3) := by decide +kernel
theorem dX6_on_7 : decode cX6_on 7 = .ok (.aload_n 0, 1) := by decide +kernel
theorem dX6_on_8 : decode cX6_on 8 = .ok (.bipush (-3), 2) := by decide +kernel
theorem dX6_on_10 : decode cX6_on 10 = .ok (.invokevirtual 73, 3) := by decide +kernel
theorem dX6_on_13 : decode cX6_on 13 = .ok (.ireturn, 1) := by decide +kernel
theorem dX6_on_14 : decode cX6_on 14 = .ok (.aload_n 0, 1) := by decide +kernel
theorem dX6_on_15 : decode cX6_on 15 = .ok (.iconst 0, 1) := by decide +kernel
theorem dX6_on_16 : decode cX6_on 16 = .ok (.iconst 0, 1) := by decide +kernel
theorem dX6_on_17 : decode cX6_on 17 = .ok (.invokevirtual 128, 3) := by decide +kernel
theorem dX6_on_20 : decode cX6_on 20 = .ok (.aload_n 0, 1) := by decide +kernel
theorem dX6_on_21 : decode cX6_on 21 = .ok (.getfield 104, 3) := by decide +kernel
theorem dX6_on_24 : decode cX6_on 24 = .ok (.ireturn, 1) := by decide +kernel
theorem dX6_far_0 : decode cX6_far 0 = .ok (.iload_n 0, 1) := by decide +kernel
theorem dX6_far_1 : decode cX6_far 1 = .ok (.iload_n 1, 1) := by decide +kernel
theorem dX6_far_2 : decode cX6_far 2 = .ok (.if_icmp .le 9, 3) := by decide +kernel
theorem dX6_far_5 : decode cX6_far 5 = .ok (.iload_n 0, 1) := by decide +kernel
theorem dX6_far_6 : decode cX6_far 6 = .ok (.iload_n 1, 1) := by decide +kernel
theorem dX6_far_7 : decode cX6_far 7 = .ok (.isub, 1) := by decide +kernel
theorem dX6_far_8 : decode cX6_far 8 = .ok (.goto 6, 3) := by decide +kernel
theorem dX6_far_11 : decode cX6_far 11 = .ok (.iload_n 1, 1) := by decide +kernel
theorem dX6_far_12 : decode cX6_far 12 = .ok (.iload_n 0, 1) := by decide +kernel
theorem dX6_far_13 : decode cX6_far 13 = .ok (.isub, 1) := by decide +kernel
theorem dX6_far_14 : decode cX6_far 14 = .ok (.ireturn, 1) := by decide +kernel
set_option maxRecDepth 20000 in
theorem ggX6_steps_X6_far : GoodIn wsX6_steps wsX6_far := goodIn_r _ [4] (by decide +kernel) (by decide +kernel)
set_option maxRecDepth 20000 in
theorem gX6_steps_X6_far : GoodIn wsX6_steps (va_wsS RX6 152 yX6_far wsX6_far) := goodIn_app (goodIn_of _ (by decide +kernel)) ggX6_steps_X6_far
theorem dX6_steps_0 : decode cX6_steps 0 = .ok (.iload_n 0, 1) := by decide +kernel
theorem dX6_steps_1 : decode cX6_steps 1 = .ok (.iconst 5, 1) := by decide +kernel
theorem dX6_steps_2 : decode cX6_steps 2 = .ok (.idiv, 1) := by decide +kernel
theorem dX6_steps_3 : decode cX6_steps 3 = .ok (.iload_n 1, 1) := by decide +kernel
theorem dX6_steps_4 : decode cX6_steps 4 = .ok (.iconst 5, 1) := by decide +kernel
theorem dX6_steps_5 : decode cX6_steps 5 = .ok (.idiv, 1) := by decide +kernel
theorem dX6_steps_6 : decode cX6_steps 6 = .ok (.invokestatic 152, 3) := by decide +kernel
theorem dX6_steps_9 : decode cX6_steps 9 = .ok (.iload_n 0, 1) := by decide +kernel
theorem dX6_steps_10 : decode cX6_steps 10 = .ok (.iconst 5, 1) := by decide +kernel
theorem dX6_steps_11 : decode cX6_steps 11 = .ok (.irem, 1) := by decide +kernel
theorem dX6_steps_12 : decode cX6_steps 12 = .ok (.iload_n 1, 1) := by decide +kernel
theorem dX6_steps_13 : decode cX6_steps 13 = .ok (.iconst 5, 1) := by decide +kernel
theorem dX6_steps_14 : decode cX6_steps 14 = .ok (.irem, 1) := by decide +kernel
theorem dX6_steps_15 : decode cX6_steps 15 = .ok (.invokestatic 152, 3) := by decide +kernel
theorem dX6_steps_18 : decode cX6_steps 18 = .ok (.iadd, 1) := by decide +kernel
theorem dX6_steps_19 : decode cX6_steps 19 = .ok (.ireturn, 1) := by decide +kernel
theorem dX6_here_0 : decode cX6_here 0 = .ok (.iconst 0, 1) := by decide +kernel
theorem dX6_here_1 : decode cX6_here 1 = .ok (.istore_n 1, 1) := by decide +kernel
theorem dX6_here_2 : decode cX6_here 2 = .ok (.iconst 1, 1) := by decide +kernel
theorem dX6_here_3 : decode cX6_here 3 = .ok (.istore_n 2, 1) := by decide +kernel
theorem dX6_here_4 : decode cX6_here 4 = .ok (.iload_n 2, 1) := by decide +kernel
theorem dX6_here_5 : decode cX6_here 5 = .ok (.bipush 25, 2) := by decide +kernel
theorem dX6_here_7 : decode cX6_here 7 = .ok (.if_icmp .ge 30, 3) := by decide +kernel
theorem dX6_here_10 : decode cX6_here 10 = .ok (.aload_n 0, 1) := by decide +kernel
theorem dX6_here_11 : decode cX6_here 11 = .ok (.getfield 13, 3) := by decide +kernel
theorem dX6_here_14 : decode cX6_here 14 = .ok (.iload_n 2, 1) := by decide +kernel
theorem dX6_here_15 : decode cX6_here 15 = .ok (.iaload, 1) := by decide +kernel
theorem dX6_here_16 : decode cX6_here 16 = .ok (.aload_n 0, 1) := by decide +kernel
theorem dX6_here_17 : decode cX6_here 17 = .ok (.getfield 13, 3) := by decide +kernel
theorem dX6_here_20 : decode cX6_here 20 = .ok (.iload_n 1, 1) := by decide +kernel
theorem dX6_here_21 : decode cX6_here 21 = .ok (.iaload, 1) := by decide +kernel
theorem dX6_here_22 : decode cX6_here 22 = .ok (.if_icmp .le 7, 3) := by decide +kernel
theorem dX6_here_25 : decode cX6_here 25 = .ok (.iload_n 2, 1) := by decide +kernel
theorem dX6_here_26 : decode cX6_here 26 = .ok (.goto 4, 3) := by decide +kernel
theorem dX6_here_29 : decode cX6_here 29 = .ok (.iload_n 1, 1) := by decide +kernel
theorem dX6_here_30 : decode cX6_here 30 = .ok (.istore_n 1, 1) := by decide +kernel
theorem dX6_here_31 : decode cX6_here 31 = .ok (.iinc 2 1, 3) := by decide +kernel
theorem dX6_here_34 : decode cX6_here 34 = .ok (.goto (-30), 3) := by decide +kernel
theorem dX6_here_37 : decode cX6_here 37 = .ok (.iload_n 1, 1) := by decide +kernel
theorem dX6_here_38 : decode cX6_here 38 = .ok (.ireturn, 1) := by decide +kernel
theorem dX6_believesNow_0 : decode cX6_believesNow 0 = .ok (.aload_n 0, 1) := by decide +kernel
theorem dX6_believesNow_1 : decode cX6_believesNow 1 = .ok (.getfield 25, 3) := by decide +kernel
theorem dX6_believesNow_4 : decode cX6_believesNow 4 = .ok (.iload_n 1, 1) := by decide +kernel
theorem dX6_believesNow_5 : decode cX6_believesNow 5 = .ok (.iaload, 1) := by decide +kernel
theorem dX6_believesNow_6 : decode cX6_believesNow 6 = .ok (.iconst 5, 1) := by decide +kernel
theorem dX6_believesNow_7 : decode cX6_believesNow 7 = .ok (.if_icmp .lt 7, 3) := by decide +kernel
theorem dX6_believesNow_10 : decode cX6_believesNow 10 = .ok (.iconst 1, 1) := by decide +kernel
theorem dX6_believesNow_11 : decode cX6_believesNow 11 = .ok (.goto 4, 3) := by decide +kernel
theorem dX6_believesNow_14 : decode cX6_believesNow 14 = .ok (.iconst 0, 1) := by decide +kernel
theorem dX6_believesNow_15 : decode cX6_believesNow 15 = .ok (.ireturn, 1) := by decide +kernel
set_option maxRecDepth 20000 in
theorem ggX6_areBeside_X6_isThere : GoodIn wsX6_areBeside wsX6_isThere := goodIn_r _ [6, 7, 8, 9, 10, 5, 11, 18, 19, 20, 21, 22, 23, 24, 25, 26, 27, 28, 29, 30, 31, 32, 33, 34, 35, 36, 37, 38, 39, 40, 41, 42] (by decide +kernel) (by decide +kernel)
set_option maxRecDepth 20000 in
theorem gX6_areBeside_X6_isThere : GoodIn wsX6_areBeside (wsV RX6 156 RX6 yX6_isThere wsX6_isThere) := goodIn_app (goodIn_of _ (by decide +kernel)) ggX6_areBeside_X6_isThere
set_option maxRecDepth 20000 in
theorem ggX6_areBeside_X6_steps : GoodIn wsX6_areBeside wsX6_steps := goodIn_r _ [14, 15, 16, 5, 17] (by decide +kernel) (by decide +kernel)
set_option maxRecDepth 20000 in
theorem gX6_areBeside_X6_steps : GoodIn wsX6_areBeside (va_wsS RX6 159 yX6_steps wsX6_steps) := goodIn_app (goodIn_of _ (by decide +kernel)) ggX6_areBeside_X6_steps
theorem dX6_areBeside_0 : decode cX6_areBeside 0 = .ok (.iload_n 1, 1) := by decide +kernel
theorem dX6_areBeside_1 : decode cX6_areBeside 1 = .ok (.iload_n 2, 1) := by decide +kernel
theorem dX6_areBeside_2 : decode cX6_areBeside 2 = .ok (.if_icmp .eq 34, 3) := by decide +kernel
theorem dX6_areBeside_5 : decode cX6_areBeside 5 = .ok (.aload_n 0, 1) := by decide +kernel
theorem dX6_areBeside_6 : decode cX6_areBeside 6 = .ok (.iload_n 2, 1) := by decide +kernel
theorem dX6_areBeside_7 : decode cX6_areBeside 7 = .ok (.invokevirtual 156, 3) := by decide +kernel
theorem dX6_areBeside_10 : decode cX6_areBeside 10 = .ok (.ifCond .eq 26, 3) := by decide +kernel
theorem dX6_areBeside_13 : decode cX6_areBeside 13 = .ok (.aload_n 0, 1) := by decide +kernel
theorem dX6_areBeside_14 : decode cX6_areBeside 14 = .ok (.getfield 22, 3) := by decide +kernel
theorem dX6_areBeside_17 : decode cX6_areBeside 17 = .ok (.iload_n 1, 1) := by decide +kernel
theorem dX6_areBeside_18 : decode cX6_areBeside 18 = .ok (.iaload, 1) := by decide +kernel
theorem dX6_areBeside_19 : decode cX6_areBeside 19 = .ok (.aload_n 0, 1) := by decide +kernel
theorem dX6_areBeside_20 : decode cX6_areBeside 20 = .ok (.getfield 22, 3) := by decide +kernel
theorem dX6_areBeside_23 : decode cX6_areBeside 23 = .ok (.iload_n 2, 1) := by decide +kernel
theorem dX6_areBeside_24 : decode cX6_areBeside 24 = .ok (.iaload, 1) := by decide +kernel
theorem dX6_areBeside_25 : decode cX6_areBeside 25 = .ok (.invokestatic 159, 3) := by decide +kernel
theorem dX6_areBeside_28 : decode cX6_areBeside 28 = .ok (.iconst 3, 1) := by decide +kernel
theorem dX6_areBeside_29 : decode cX6_areBeside 29 = .ok (.if_icmp .ge 7, 3) := by decide +kernel
theorem dX6_areBeside_32 : decode cX6_areBeside 32 = .ok (.iconst 1, 1) := by decide +kernel
theorem dX6_areBeside_33 : decode cX6_areBeside 33 = .ok (.goto 4, 3) := by decide +kernel
theorem dX6_areBeside_36 : decode cX6_areBeside 36 = .ok (.iconst 0, 1) := by decide +kernel
theorem dX6_areBeside_37 : decode cX6_areBeside 37 = .ok (.ireturn, 1) := by decide +kernel
set_option maxRecDepth 20000 in
theorem ggX6_manyBeside_X6_areBeside : GoodIn wsX6_manyBeside wsX6_areBeside := goodIn_r _ [6, 7, 8, 9, 10, 5, 11, 1, 12, 13, 14, 15, 16, 17, 18, 19, 20, 21, 22, 23, 24, 25, 26, 27, 28, 29, 30, 31, 32, 33, 34, 35, 36, 37, 38, 39, 40, 41, 42, 43, 44, 45, 46] (by decide +kernel) (by decide +kernel)
set_option maxRecDepth 20000 in
theorem gX6_manyBeside_X6_areBeside : GoodIn wsX6_manyBeside (wsV RX6 162 RX6 yX6_areBeside wsX6_areBeside) := goodIn_app (goodIn_of _ (by decide +kernel)) ggX6_manyBeside_X6_areBeside
theorem dX6_manyBeside_0 : decode cX6_manyBeside 0 = .ok (.iconst 0, 1) := by decide +kernel
theorem dX6_manyBeside_1 : decode cX6_manyBeside 1 = .ok (.istore_n 2, 1) := by decide +kernel
theorem dX6_manyBeside_2 : decode cX6_manyBeside 2 = .ok (.iconst 0, 1) := by decide +kernel
theorem dX6_manyBeside_3 : decode cX6_manyBeside 3 = .ok (.istore_n 3, 1) := by decide +kernel
theorem dX6_manyBeside_4 : decode cX6_manyBeside 4 = .ok (.iload_n 3, 1) := by decide +kernel
theorem dX6_manyBeside_5 : decode cX6_manyBeside 5 = .ok (.aload_n 0, 1) := by decide +kernel
theorem dX6_manyBeside_6 : decode cX6_manyBeside 6 = .ok (.getfield 52, 3) := by decide +kernel
theorem dX6_manyBeside_9 : decode cX6_manyBeside 9 = .ok (.if_icmp .ge 26, 3) := by decide +kernel
theorem dX6_manyBeside_12 : decode cX6_manyBeside 12 = .ok (.iload_n 2, 1) := by decide +kernel
theorem dX6_manyBeside_13 : decode cX6_manyBeside 13 = .ok (.aload_n 0, 1) := by decide +kernel
theorem dX6_manyBeside_14 : decode cX6_manyBeside 14 = .ok (.iload_n 1, 1) := by decide +kernel
theorem dX6_manyBeside_15 : decode cX6_manyBeside 15 = .ok (.iload_n 3, 1) := by decide +kernel
theorem dX6_manyBeside_16 : decode cX6_manyBeside 16 = .ok (.invokevirtual 162, 3) := by decide +kernel
theorem dX6_manyBeside_19 : decode cX6_manyBeside 19 = .ok (.ifCond .eq 7, 3) := by decide +kernel
theorem dX6_manyBeside_22 : decode cX6_manyBeside 22 = .ok (.iconst 1, 1) := by decide +kernel
theorem dX6_manyBeside_23 : decode cX6_manyBeside 23 = .ok (.goto 4, 3) := by decide +kernel
theorem dX6_manyBeside_26 : decode cX6_manyBeside 26 = .ok (.iconst 0, 1) := by decide +kernel
theorem dX6_manyBeside_27 : decode cX6_manyBeside 27 = .ok (.iadd, 1) := by decide +kernel
theorem dX6_manyBeside_28 : decode cX6_manyBeside 28 = .ok (.istore_n 2, 1) := by decide +kernel
theorem dX6_manyBeside_29 : decode cX6_manyBeside 29 = .ok (.iinc 3 1, 3) := by decide +kernel
theorem dX6_manyBeside_32 : decode cX6_manyBeside 32 = .ok (.goto (-28), 3) := by decide +kernel
theorem dX6_manyBeside_35 : decode cX6_manyBeside 35 = .ok (.iload_n 2, 1) := by decide +kernel
theorem dX6_manyBeside_36 : decode cX6_manyBeside 36 = .ok (.ireturn, 1) := by decide +kernel
set_option maxRecDepth 20000 in
theorem ggX6_believersBeside_X6_areBeside : GoodIn wsX6_believersBeside wsX6_areBeside := goodIn_r _ [6, 7, 8, 9, 10, 5, 11, 1, 12, 13, 14, 15, 16, 17, 18, 19, 20, 21, 27, 28, 29, 30, 31, 32, 33, 34, 35, 36, 37, 38, 39, 40, 41, 42, 43, 44, 45, 46, 47, 48, 49, 50, 51] (by decide +kernel) (by decide +kernel)
set_option maxRecDepth 20000 in
theorem gX6_believersBeside_X6_areBeside : GoodIn wsX6_believersBeside (wsV RX6 162 RX6 yX6_areBeside wsX6_areBeside) := goodIn_app (goodIn_of _ (by decide +kernel)) ggX6_believersBeside_X6_areBeside
set_option maxRecDepth 20000 in
theorem ggX6_believersBeside_X6_believesNow : GoodIn wsX6_believersBeside wsX6_believesNow := goodIn_r _ [25, 26, 27, 28, 29, 30, 31, 32, 33, 34, 35, 36, 37, 38, 39, 40, 41, 42, 43, 44, 45, 46, 47, 48, 49, 50, 51] (by decide +kernel) (by decide +kernel)
set_option maxRecDepth 20000 in
theorem gX6_believersBeside_X6_believesNow : GoodIn wsX6_believersBeside (wsV RX6 165 RX6 yX6_believesNow wsX6_believesNow) := goodIn_app (goodIn_of _ (by decide +kernel)) ggX6_believersBeside_X6_believesNow
theorem dX6_believersBeside_0 : decode cX6_believersBeside 0 = .ok (.iconst 0, 1) := by decide +kernel
theorem dX6_believersBeside_1 : decode cX6_believersBeside 1 = .ok (.istore_n 2, 1) := by decide +kernel
theorem dX6_believersBeside_2 : decode cX6_believersBeside 2 = .ok (.iconst 0, 1) := by decide +kernel
theorem dX6_believersBeside_3 : decode cX6_believersBeside 3 = .ok (.istore_n 3, 1) := by decide +kernel
theorem dX6_believersBeside_4 : decode cX6_believersBeside 4 = .ok (.iload_n 3, 1) := by decide +kernel
theorem dX6_believersBeside_5 : decode cX6_believersBeside 5 = .ok (.aload_n 0, 1) := by decide +kernel
theorem dX6_believersBeside_6 : decode cX6_believersBeside 6 = .ok (.getfield 52, 3) := by decide +kernel
theorem dX6_believersBeside_9 : decode cX6_believersBeside 9 = .ok (.if_icmp .ge 34, 3) := by decide +kernel
theorem dX6_believersBeside_12 : decode cX6_believersBeside 12 = .ok (.iload_n 2, 1) := by decide +kernel
theorem dX6_believersBeside_13 : decode cX6_believersBeside 13 = .ok (.aload_n 0, 1) := by decide +kernel
theorem dX6_believersBeside_14 : decode cX6_believersBeside 14 = .ok (.iload_n 1, 1) := by decide +kernel
theorem dX6_believersBeside_15 : decode cX6_believersBeside 15 = .ok (.iload_n 3, 1) := by decide +kernel
theorem dX6_believersBeside_16 : decode cX6_believersBeside 16 = .ok (.invokevirtual 162, 3) := by decide +kernel
theorem dX6_believersBeside_19 : decode cX6_believersBeside 19 = .ok (.ifCond .eq 15, 3) := by decide +kernel
theorem dX6_believersBeside_22 : decode cX6_believersBeside 22 = .ok (.aload_n 0, 1) := by decide +kernel
theorem dX6_believersBeside_23 : decode cX6_believersBeside 23 = .ok (.iload_n 3, 1) := by decide +kernel
theorem dX6_believersBeside_24 : decode cX6_believersBeside 24 = .ok (.invokevirtual 165, 3) := by decide +kernel
theorem dX6_believersBeside_27 : decode cX6_believersBeside 27 = .ok (.ifCond .eq 7, 3) := by decide +kernel
theorem dX6_believersBeside_30 : decode cX6_believersBeside 30 = .ok (.iconst 1, 1) := by decide +kernel
theorem dX6_believersBeside_31 : decode cX6_believersBeside 31 = .ok (.goto 4, 3) := by decide +kernel
theorem dX6_believersBeside_34 : decode cX6_believersBeside 34 = .ok (.iconst 0, 1) := by decide +kernel
theorem dX6_believersBeside_35 : decode cX6_believersBeside 35 = .ok (.iadd, 1) := by decide +kernel
theorem dX6_believersBeside_36 : decode cX6_believersBeside 36 = .ok (.istore_n 2, 1) := by decide +kernel
theorem dX6_believersBeside_37 : decode cX6_believersBeside 37 = .ok (.iinc 3 1, 3) := by decide +kernel
theorem dX6_believersBeside_40 : decode cX6_believersBeside 40 = .ok (.goto (-36), 3) := by decide +kernel
theorem dX6_believersBeside_43 : decode cX6_believersBeside 43 = .ok (.iload_n 2, 1) := by decide +kernel
theorem dX6_believersBeside_44 : decode cX6_believersBeside 44 = .ok (.ireturn, 1) := by decide +kernel
set_option maxRecDepth 20000 in
theorem ggX6_asGuest_X6_believersBeside : GoodIn wsX6_asGuest wsX6_believersBeside := goodIn_r _ [6, 7, 8, 9, 10, 5, 11, 12, 13, 14, 15, 16, 17, 18, 19, 20, 21, 22, 23, 24, 25, 26, 27, 28, 29, 30, 1, 35, 36, 37, 38, 39, 40, 41, 42, 43, 44, 45, 46, 47, 48, 49, 50, 51, 52, 53, 54, 55, 56, 57, 58, 59] (by decide +kernel) (by decide +kernel)
set_option maxRecDepth 20000 in
theorem gX6_asGuest_X6_believersBeside : GoodIn wsX6_asGuest (wsV RX6 168 RX6 yX6_believersBeside wsX6_believersBeside) := goodIn_app (goodIn_of _ (by decide +kernel)) ggX6_asGuest_X6_believersBeside
set_option maxRecDepth 20000 in
theorem ggX6_asGuest_X6_manyBeside : GoodIn wsX6_asGuest wsX6_manyBeside := goodIn_r _ [34, 7, 8, 9, 10, 5, 11, 12, 13, 14, 15, 16, 17, 18, 19, 20, 21, 22, 23, 24, 25, 26, 35, 36, 37, 38, 39, 40, 41, 42, 43, 44, 45, 46, 47, 48, 49, 50, 51, 52, 53, 54, 55, 56, 57, 58, 59] (by decide +kernel) (by decide +kernel)
set_option maxRecDepth 20000 in
theorem gX6_asGuest_X6_manyBeside : GoodIn wsX6_asGuest (wsV RX6 171 RX6 yX6_manyBeside wsX6_manyBeside) := goodIn_app (goodIn_of _ (by decide +kernel)) ggX6_asGuest_X6_manyBeside
theorem dX6_asGuest_0 : decode cX6_asGuest 0 = .ok (.iconst 2, 1) := by decide +kernel
theorem dX6_asGuest_1 : decode cX6_asGuest 1 = .ok (.aload_n 0, 1) := by decide +kernel
theorem dX6_asGuest_2 : decode cX6_asGuest 2 = .ok (.iload_n 1, 1) := by decide +kernel
theorem dX6_asGuest_3 : decode cX6_asGuest 3 = .ok (.invokevirtual 168, 3) := by decide +kernel
theorem dX6_asGuest_6 : decode cX6_asGuest 6 = .ok (.imul, 1) := by decide +kernel
theorem dX6_asGuest_7 : decode cX6_asGuest 7 = .ok (.aload_n 0, 1) := by decide +kernel
theorem dX6_asGuest_8 : decode cX6_asGuest 8 = .ok (.iload_n 1, 1) := by decide +kernel
theorem dX6_asGuest_9 : decode cX6_asGuest 9 = .ok (.invokevirtual 171, 3) := by decide +kernel
theorem dX6_asGuest_12 : decode cX6_asGuest 12 = .ok (.isub, 1) := by decide +kernel
theorem dX6_asGuest_13 : decode cX6_asGuest 13 = .ok (.istore_n 2, 1) := by decide +kernel
theorem dX6_asGuest_14 : decode cX6_asGuest 14 = .ok (.aload_n 0, 1) := by decide +kernel
theorem dX6_asGuest_15 : decode cX6_asGuest 15 = .ok (.getfield 25, 3) := by decide +kernel
theorem dX6_asGuest_18 : decode cX6_asGuest 18 = .ok (.iload_n 1, 1) := by decide +kernel
theorem dX6_asGuest_19 : decode cX6_asGuest 19 = .ok (.iaload, 1) := by decide +kernel
theorem dX6_asGuest_20 : decode cX6_asGuest 20 = .ok (.iload_n 2, 1) := by decide +kernel
theorem dX6_asGuest_21 : decode cX6_asGuest 21 = .ok (.ifCond .le 7, 3) := by decide +kernel
theorem dX6_asGuest_24 : decode cX6_asGuest 24 = .ok (.iconst 1, 1) := by decide +kernel
theorem dX6_asGuest_25 : decode cX6_asGuest 25 = .ok (.goto 12, 3) := by decide +kernel
theorem dX6_asGuest_28 : decode cX6_asGuest 28 = .ok (.iload_n 2, 1) := by decide +kernel
theorem dX6_asGuest_29 : decode cX6_asGuest 29 = .ok (.ifCond .ge 7, 3) := by decide +kernel
theorem dX6_asGuest_32 : decode cX6_asGuest 32 = .ok (.iconst (-1), 1) := by decide +kernel
theorem dX6_asGuest_33 : decode cX6_asGuest 33 = .ok (.goto 4, 3) := by decide +kernel
theorem dX6_asGuest_36 : decode cX6_asGuest 36 = .ok (.iconst 0, 1) := by decide +kernel
theorem dX6_asGuest_37 : decode cX6_asGuest 37 = .ok (.iadd, 1) := by decide +kernel
theorem dX6_asGuest_38 : decode cX6_asGuest 38 = .ok (.ireturn, 1) := by decide +kernel
set_option maxRecDepth 20000 in
theorem ggX6_asFriend_X6_asGuest : GoodIn wsX6_asFriend wsX6_asGuest := goodIn_r _ [7, 8, 9, 10, 11, 6, 12, 13, 14, 15, 16, 17, 1, 18, 19, 20, 21, 22, 23, 24, 25, 26, 27, 28, 29, 30, 31, 32, 33, 34, 35, 36, 37, 38, 39, 40, 41, 42, 43, 44, 45, 46, 47, 48, 49, 50, 51, 52, 53, 54, 55, 56, 57, 58, 59, 60, 61, 62, 63, 64] (by decide +kernel) (by decide +kernel)
set_option maxRecDepth 20000 in
theorem gX6_asFriend_X6_asGuest : GoodIn wsX6_asFriend (wsV RX6 174 RX6 yX6_asGuest wsX6_asGuest) := goodIn_app (goodIn_of _ (by decide +kernel)) ggX6_asFriend_X6_asGuest
set_option maxRecDepth 20000 in
theorem ggX6_asFriend_X6_steps : GoodIn wsX6_asFriend wsX6_steps := goodIn_r _ [28, 29, 30, 6, 31] (by decide +kernel) (by decide +kernel)
set_option maxRecDepth 20000 in
theorem gX6_asFriend_X6_steps : GoodIn wsX6_asFriend (va_wsS RX6 159 yX6_steps wsX6_steps) := goodIn_app (goodIn_of _ (by decide +kernel)) ggX6_asFriend_X6_steps
theorem dX6_asFriend_0 : decode cX6_asFriend 0 = .ok (.aload_n 0, 1) := by decide +kernel
theorem dX6_asFriend_1 : decode cX6_asFriend 1 = .ok (.iload_n 1, 1) := by decide +kernel
theorem dX6_asFriend_2 : decode cX6_asFriend 2 = .ok (.invokevirtual 174, 3) := by decide +kernel
theorem dX6_asFriend_5 : decode cX6_asFriend 5 = .ok (.aload_n 0, 1) := by decide +kernel
theorem dX6_asFriend_6 : decode cX6_asFriend 6 = .ok (.getfield 22, 3) := by decide +kernel
theorem dX6_asFriend_9 : decode cX6_asFriend 9 = .ok (.iload_n 1, 1) := by decide +kernel
theorem dX6_asFriend_10 : decode cX6_asFriend 10 = .ok (.iaload, 1) := by decide +kernel
theorem dX6_asFriend_11 : decode cX6_asFriend 11 = .ok (.iload_n 2, 1) := by decide +kernel
theorem dX6_asFriend_12 : decode cX6_asFriend 12 = .ok (.invokestatic 159, 3) := by decide +kernel
theorem dX6_asFriend_15 : decode cX6_asFriend 15 = .ok (.aload_n 0, 1) := by decide +kernel
theorem dX6_asFriend_16 : decode cX6_asFriend 16 = .ok (.getfield 19, 3) := by decide +kernel
theorem dX6_asFriend_19 : decode cX6_asFriend 19 = .ok (.iload_n 1, 1) := by decide +kernel
theorem dX6_asFriend_20 : decode cX6_asFriend 20 = .ok (.iaload, 1) := by decide +kernel
theorem dX6_asFriend_21 : decode cX6_asFriend 21 = .ok (.if_icmp .gt 7, 3) := by decide +kernel
theorem dX6_asFriend_24 : decode cX6_asFriend 24 = .ok (.iconst 1, 1) := by decide +kernel
theorem dX6_asFriend_25 : decode cX6_asFriend 25 = .ok (.goto 4, 3) := by decide +kernel
theorem dX6_asFriend_28 : decode cX6_asFriend 28 = .ok (.iconst 0, 1) := by decide +kernel
theorem dX6_asFriend_29 : decode cX6_asFriend 29 = .ok (.iadd, 1) := by decide +kernel
theorem dX6_asFriend_30 : decode cX6_asFriend 30 = .ok (.ireturn, 1) := by decide +kernel
set_option maxRecDepth 20000 in
theorem ggX6_asChild_X6_manyBeside : GoodIn wsX6_asChild wsX6_manyBeside := goodIn_r _ [7, 2, 8, 9, 10, 6, 11, 12, 13, 14, 15, 16, 17, 18, 19, 20, 21, 22, 23, 24, 25, 26, 27, 28, 29, 30, 31, 32, 33, 34, 35, 36, 37, 38, 39, 40, 41, 42, 43, 44, 45, 46, 47, 48, 49, 50, 51] (by decide +kernel) (by decide +kernel)
set_option maxRecDepth 20000 in
theorem gX6_asChild_X6_manyBeside : GoodIn wsX6_asChild (wsV RX6 171 RX6 yX6_manyBeside wsX6_manyBeside) := goodIn_app (goodIn_of _ (by decide +kernel)) ggX6_asChild_X6_manyBeside
set_option maxRecDepth 20000 in
theorem ggX6_asChild_X6_areBeside : GoodIn wsX6_asChild wsX6_areBeside := goodIn_r _ [11, 12, 13, 14, 15, 6, 16, 2, 17, 18, 19, 20, 21, 22, 23, 24, 25, 26, 27, 28, 29, 30, 31, 32, 33, 34, 35, 36, 37, 38, 39, 40, 41, 42, 43, 44, 45, 46, 47, 48, 49, 50, 51] (by decide +kernel) (by decide +kernel)
set_option maxRecDepth 20000 in
theorem gX6_asChild_X6_areBeside : GoodIn wsX6_asChild (wsV RX6 162 RX6 yX6_areBeside wsX6_areBeside) := goodIn_app (goodIn_of _ (by decide +kernel)) ggX6_asChild_X6_areBeside
theorem dX6_asChild_0 : decode cX6_asChild 0 = .ok (.aload_n 0, 1) := by decide +kernel
theorem dX6_asChild_1 : decode cX6_asChild 1 = .ok (.iload_n 1, 1) := by decide +kernel
theorem dX6_asChild_2 : decode cX6_asChild 2 = .ok (.invokevirtual 171, 3) := by decide +kernel
theorem dX6_asChild_5 : decode cX6_asChild 5 = .ok (.ifCond .ne 10, 3) := by decide +kernel
theorem dX6_asChild_8 : decode cX6_asChild 8 = .ok (.aload_n 0, 1) := by decide +kernel
theorem dX6_asChild_9 : decode cX6_asChild 9 = .ok (.getfield 25, 3) := by decide +kernel
theorem dX6_asChild_12 : decode cX6_asChild 12 = .ok (.iload_n 1, 1) := by decide +kernel
theorem dX6_asChild_13 : decode cX6_asChild 13 = .ok (.iaload, 1) := by decide +kernel
theorem dX6_asChild_14 : decode cX6_asChild 14 = .ok (.ireturn, 1) := by decide +kernel
theorem dX6_asChild_15 : decode cX6_asChild 15 = .ok (.iconst 0, 1) := by decide +kernel
theorem dX6_asChild_16 : decode cX6_asChild 16 = .ok (.istore_n 2, 1) := by decide +kernel
theorem dX6_asChild_17 : decode cX6_asChild 17 = .ok (.iconst 0, 1) := by decide +kernel
theorem dX6_asChild_18 : decode cX6_asChild 18 = .ok (.istore_n 3, 1) := by decide +kernel
theorem dX6_asChild_19 : decode cX6_asChild 19 = .ok (.iload_n 3, 1) := by decide +kernel
theorem dX6_asChild_20 : decode cX6_asChild 20 = .ok (.aload_n 0, 1) := by decide +kernel
theorem dX6_asChild_21 : decode cX6_asChild 21 = .ok (.getfield 52, 3) := by decide +kernel
theorem dX6_asChild_24 : decode cX6_asChild 24 = .ok (.if_icmp .ge 39, 3) := by decide +kernel
theorem dX6_asChild_27 : decode cX6_asChild 27 = .ok (.aload_n 0, 1) := by decide +kernel
theorem dX6_asChild_28 : decode cX6_asChild 28 = .ok (.iload_n 1, 1) := by decide +kernel
theorem dX6_asChild_29 : decode cX6_asChild 29 = .ok (.iload_n 3, 1) := by decide +kernel
theorem dX6_asChild_30 : decode cX6_asChild 30 = .ok (.invokevirtual 162, 3) := by decide +kernel
theorem dX6_asChild_33 : decode cX6_asChild 33 = .ok (.ifCond .eq 22, 3) := by decide +kernel
theorem dX6_asChild_36 : decode cX6_asChild 36 = .ok (.aload_n 0, 1) := by decide +kernel
theorem dX6_asChild_37 : decode cX6_asChild 37 = .ok (.getfield 25, 3) := by decide +kernel
theorem dX6_asChild_40 : decode cX6_asChild 40 = .ok (.iload_n 3, 1) := by decide +kernel
theorem dX6_asChild_41 : decode cX6_asChild 41 = .ok (.iaload, 1) := by decide +kernel
theorem dX6_asChild_42 : decode cX6_asChild 42 = .ok (.iload_n 2, 1) := by decide +kernel
theorem dX6_asChild_43 : decode cX6_asChild 43 = .ok (.if_icmp .le 12, 3) := by decide +kernel
theorem dX6_asChild_46 : decode cX6_asChild 46 = .ok (.aload_n 0, 1) := by decide +kernel
theorem dX6_asChild_47 : decode cX6_asChild 47 = .ok (.getfield 25, 3) := by decide +kernel
theorem dX6_asChild_50 : decode cX6_asChild 50 = .ok (.iload_n 3, 1) := by decide +kernel
theorem dX6_asChild_51 : decode cX6_asChild 51 = .ok (.iaload, 1) := by decide +kernel
theorem dX6_asChild_52 : decode cX6_asChild 52 = .ok (.goto 4, 3) := by decide +kernel
theorem dX6_asChild_55 : decode cX6_asChild 55 = .ok (.iload_n 2, 1) := by decide +kernel
theorem dX6_asChild_56 : decode cX6_asChild 56 = .ok (.istore_n 2, 1) := by decide +kernel
theorem dX6_asChild_57 : decode cX6_asChild 57 = .ok (.iinc 3 1, 3) := by decide +kernel
theorem dX6_asChild_60 : decode cX6_asChild 60 = .ok (.goto (-41), 3) := by decide +kernel
theorem dX6_asChild_63 : decode cX6_asChild 63 = .ok (.iload_n 2, 1) := by decide +kernel
theorem dX6_asChild_64 : decode cX6_asChild 64 = .ok (.ireturn, 1) := by decide +kernel
set_option maxRecDepth 20000 in
theorem ggX6_nextBelief_X6_asFriend : GoodIn wsX6_nextBelief wsX6_asFriend := goodIn_r _ [7, 8, 9, 10, 11, 12, 6, 13, 2, 14, 15, 16, 17, 18, 19, 20, 21, 22, 23, 24, 25, 26, 27, 28, 29, 30, 31, 32, 33, 34, 35, 36, 37, 38, 39, 40, 41, 42, 43, 44, 52, 53, 54, 55, 56, 57, 58, 59, 60, 61, 62, 63, 64, 65, 66, 67, 68, 69, 70, 71, 72, 73, 74, 75, 76] (by decide +kernel) (by decide +kernel)
set_option maxRecDepth 20000 in
theorem gX6_nextBelief_X6_asFriend : GoodIn wsX6_nextBelief (wsV RX6 177 RX6 yX6_asFriend wsX6_asFriend) := goodIn_app (goodIn_of _ (by decide +kernel)) ggX6_nextBelief_X6_asFriend
set_option maxRecDepth 20000 in
theorem ggX6_nextBelief_X6_held : GoodIn wsX6_nextBelief wsX6_held := goodIn_r _ [47] (by decide +kernel) (by decide +kernel)
set_option maxRecDepth 20000 in
theorem gX6_nextBelief_X6_held : GoodIn wsX6_nextBelief (va_wsS RX6 180 yX6_held wsX6_held) := goodIn_app (goodIn_of _ (by decide +kernel)) ggX6_nextBelief_X6_held
set_option maxRecDepth 20000 in
theorem ggX6_nextBelief_X6_asChild : GoodIn wsX6_nextBelief wsX6_asChild := goodIn_r _ [51, 2, 18, 41, 42, 43, 6, 44, 19, 20, 21, 22, 8, 23, 24, 25, 26, 27, 28, 29, 30, 31, 32, 33, 34, 35, 36, 52, 53, 54, 55, 56, 57, 58, 59, 60, 61, 62, 63, 64, 65, 66, 67, 68, 69, 70, 71, 72, 73, 74, 75, 76] (by decide +kernel) (by decide +kernel)
set_option maxRecDepth 20000 in
theorem gX6_nextBelief_X6_asChild : GoodIn wsX6_nextBelief (wsV RX6 183 RX6 yX6_asChild wsX6_asChild) := goodIn_app (goodIn_of _ (by decide +kernel)) ggX6_nextBelief_X6_asChild
set_option maxRecDepth 20000 in
theorem ggX6_nextBelief_X6_asGuest : GoodIn wsX6_nextBelief wsX6_asGuest := goodIn_r _ [13, 2, 14, 15, 16, 6, 17, 18, 19, 20, 21, 22, 8, 23, 24, 25, 26, 27, 28, 29, 30, 31, 32, 33, 34, 35, 36, 37, 38, 39, 40, 41, 42, 43, 44, 52, 53, 54, 55, 56, 57, 58, 59, 60, 61, 62, 63, 64, 65, 66, 67, 68, 69, 70, 71, 72, 73, 74, 75, 76] (by decide +kernel) (by decide +kernel)
set_option maxRecDepth 20000 in
theorem gX6_nextBelief_X6_asGuest : GoodIn wsX6_nextBelief (wsV RX6 174 RX6 yX6_asGuest wsX6_asGuest) := goodIn_app (goodIn_of _ (by decide +kernel)) ggX6_nextBelief_X6_asGuest
theorem dX6_nextBelief_0 : decode cX6_nextBelief 0 = .ok (.aload_n 0, 1) := by decide +kernel
theorem dX6_nextBelief_1 : decode cX6_nextBelief 1 = .ok (.getfield 16, 3) := by decide +kernel
theorem dX6_nextBelief_4 : decode cX6_nextBelief 4 = .ok (.iload_n 1, 1) := by decide +kernel
theorem dX6_nextBelief_5 : decode cX6_nextBelief 5 = .ok (.iaload, 1) := by decide +kernel
theorem dX6_nextBelief_6 : decode cX6_nextBelief 6 = .ok (.tableswitch 99 1 5 #[34, 47, 53, 67, 85], 34) := by decide +kernel
theorem dX6_nextBelief_40 : decode cX6_nextBelief 40 = .ok (.aload_n 0, 1) := by decide +kernel
theorem dX6_nextBelief_41 : decode cX6_nextBelief 41 = .ok (.iload_n 1, 1) := by decide +kernel
theorem dX6_nextBelief_42 : decode cX6_nextBelief 42 = .ok (.iload_n 2, 1) := by decide +kernel
theorem dX6_nextBelief_43 : decode cX6_nextBelief 43 = .ok (.invokevirtual 177, 3) := by decide +kernel
theorem dX6_nextBelief_46 : decode cX6_nextBelief 46 = .ok (.iconst 0, 1) := by decide +kernel
theorem dX6_nextBelief_47 : decode cX6_nextBelief 47 = .ok (.bipush 9, 2) := by decide +kernel
theorem dX6_nextBelief_49 : decode cX6_nextBelief 49 = .ok (.invokestatic 180, 3) := by decide +kernel
theorem dX6_nextBelief_52 : decode cX6_nextBelief 52 = .ok (.ireturn, 1) := by decide +kernel
theorem dX6_nextBelief_53 : decode cX6_nextBelief 53 = .ok (.aload_n 0, 1) := by decide +kernel
theorem dX6_nextBelief_54 : decode cX6_nextBelief 54 = .ok (.iload_n 1, 1) := by decide +kernel
theorem dX6_nextBelief_55 : decode cX6_nextBelief 55 = .ok (.invokevirtual 183, 3) := by decide +kernel
theorem dX6_nextBelief_58 : decode cX6_nextBelief 58 = .ok (.ireturn, 1) := by decide +kernel
theorem dX6_nextBelief_59 : decode cX6_nextBelief 59 = .ok (.aload_n 0, 1) := by decide +kernel
theorem dX6_nextBelief_60 : decode cX6_nextBelief 60 = .ok (.iload_n 1, 1) := by decide +kernel
theorem dX6_nextBelief_61 : decode cX6_nextBelief 61 = .ok (.invokevirtual 174, 3) := by decide +kernel
theorem dX6_nextBelief_64 : decode cX6_nextBelief 64 = .ok (.iconst 1, 1) := by decide +kernel
theorem dX6_nextBelief_65 : decode cX6_nextBelief 65 = .ok (.isub, 1) := by decide +kernel
theorem dX6_nextBelief_66 : decode cX6_nextBelief 66 = .ok (.iconst 0, 1) := by decide +kernel
theorem dX6_nextBelief_67 : decode cX6_nextBelief 67 = .ok (.bipush 9, 2) := by decide +kernel
theorem dX6_nextBelief_69 : decode cX6_nextBelief 69 = .ok (.invokestatic 180, 3) := by decide +kernel
theorem dX6_nextBelief_72 : decode cX6_nextBelief 72 = .ok (.ireturn, 1) := by decide +kernel
theorem dX6_nextBelief_73 : decode cX6_nextBelief 73 = .ok (.aload_n 0, 1) := by decide +kernel
theorem dX6_nextBelief_74 : decode cX6_nextBelief 74 = .ok (.iload_n 1, 1) := by decide +kernel
theorem dX6_nextBelief_75 : decode cX6_nextBelief 75 = .ok (.iload_n 2, 1) := by decide +kernel
theorem dX6_nextBelief_76 : decode cX6_nextBelief 76 = .ok (.invokevirtual 177, 3) := by decide +kernel
theorem dX6_nextBelief_79 : decode cX6_nextBelief 79 = .ok (.aload_n 0, 1) := by decide +kernel
theorem dX6_nextBelief_80 : decode cX6_nextBelief 80 = .ok (.getfield 25, 3) := by decide +kernel
theorem dX6_nextBelief_83 : decode cX6_nextBelief 83 = .ok (.iload_n 1, 1) := by decide +kernel
theorem dX6_nextBelief_84 : decode cX6_nextBelief 84 = .ok (.iaload, 1) := by decide +kernel
theorem dX6_nextBelief_85 : decode cX6_nextBelief 85 = .ok (.bipush 9, 2) := by decide +kernel
theorem dX6_nextBelief_87 : decode cX6_nextBelief 87 = .ok (.invokestatic 180, 3) := by decide +kernel
theorem dX6_nextBelief_90 : decode cX6_nextBelief 90 = .ok (.ireturn, 1) := by decide +kernel
theorem dX6_nextBelief_91 : decode cX6_nextBelief 91 = .ok (.aload_n 0, 1) := by decide +kernel
theorem dX6_nextBelief_92 : decode cX6_nextBelief 92 = .ok (.iload_n 1, 1) := by decide +kernel
theorem dX6_nextBelief_93 : decode cX6_nextBelief 93 = .ok (.invokevirtual 183, 3) := by decide +kernel
theorem dX6_nextBelief_96 : decode cX6_nextBelief 96 = .ok (.iconst 1, 1) := by decide +kernel
theorem dX6_nextBelief_97 : decode cX6_nextBelief 97 = .ok (.iadd, 1) := by decide +kernel
theorem dX6_nextBelief_98 : decode cX6_nextBelief 98 = .ok (.iconst 0, 1) := by decide +kernel
theorem dX6_nextBelief_99 : decode cX6_nextBelief 99 = .ok (.bipush 9, 2) := by decide +kernel
theorem dX6_nextBelief_101 : decode cX6_nextBelief 101 = .ok (.invokestatic 180, 3) := by decide +kernel
theorem dX6_nextBelief_104 : decode cX6_nextBelief 104 = .ok (.ireturn, 1) := by decide +kernel
theorem dX6_nextBelief_105 : decode cX6_nextBelief 105 = .ok (.aload_n 0, 1) := by decide +kernel
theorem dX6_nextBelief_106 : decode cX6_nextBelief 106 = .ok (.iload_n 1, 1) := by decide +kernel
theorem dX6_nextBelief_107 : decode cX6_nextBelief 107 = .ok (.invokevirtual 174, 3) := by decide +kernel
theorem dX6_nextBelief_110 : decode cX6_nextBelief 110 = .ok (.iconst 0, 1) := by decide +kernel
theorem dX6_nextBelief_111 : decode cX6_nextBelief 111 = .ok (.bipush 9, 2) := by decide +kernel
theorem dX6_nextBelief_113 : decode cX6_nextBelief 113 = .ok (.invokestatic 180, 3) := by decide +kernel
theorem dX6_nextBelief_116 : decode cX6_nextBelief 116 = .ok (.ireturn, 1) := by decide +kernel
set_option maxRecDepth 20000 in
theorem ggX6_believersAt_X6_isThere : GoodIn wsX6_believersAt wsX6_isThere := goodIn_r _ [7, 1, 8, 9, 10, 6, 11, 23, 24, 25, 26, 27, 28, 29, 30, 31, 32, 33, 34, 35, 36, 37, 38, 39, 40, 41, 42, 43, 44, 45, 46, 47] (by decide +kernel) (by decide +kernel)
set_option maxRecDepth 20000 in
theorem gX6_believersAt_X6_isThere : GoodIn wsX6_believersAt (wsV RX6 156 RX6 yX6_isThere wsX6_isThere) := goodIn_app (goodIn_of _ (by decide +kernel)) ggX6_believersAt_X6_isThere
set_option maxRecDepth 20000 in
theorem ggX6_believersAt_X6_believesNow : GoodIn wsX6_believersAt wsX6_believesNow := goodIn_r _ [15, 16, 23, 24, 25, 26, 27, 28, 29, 30, 31, 32, 33, 34, 35, 36, 37, 38, 39, 40, 41, 42, 43, 44, 45, 46, 47] (by decide +kernel) (by decide +kernel)
set_option maxRecDepth 20000 in
theorem gX6_believersAt_X6_believesNow : GoodIn wsX6_believersAt (wsV RX6 165 RX6 yX6_believesNow wsX6_believesNow) := goodIn_app (goodIn_of _ (by decide +kernel)) ggX6_believersAt_X6_believesNow
set_option maxRecDepth 20000 in
theorem ggX6_believersAt_X6_steps : GoodIn wsX6_believersAt wsX6_steps := goodIn_r _ [19, 20, 21, 6, 22] (by decide +kernel) (by decide +kernel)
set_option maxRecDepth 20000 in
theorem gX6_believersAt_X6_steps : GoodIn wsX6_believersAt (va_wsS RX6 159 yX6_steps wsX6_steps) := goodIn_app (goodIn_of _ (by decide +kernel)) ggX6_believersAt_X6_steps
theorem dX6_believersAt_0 : decode cX6_believersAt 0 = .ok (.iconst 0, 1) := by decide +kernel
theorem dX6_believersAt_1 : decode cX6_believersAt 1 = .ok (.istore_n 2, 1) := by decide +kernel
theorem dX6_believersAt_2 : decode cX6_believersAt 2 = .ok (.iconst 0, 1) := by decide +kernel
theorem dX6_believersAt_3 : decode cX6_believersAt 3 = .ok (.istore_n 3, 1) := by decide +kernel
theorem dX6_believersAt_4 : decode cX6_believersAt 4 = .ok (.iload_n 3, 1) := by decide +kernel
theorem dX6_believersAt_5 : decode cX6_believersAt 5 = .ok (.aload_n 0, 1) := by decide +kernel
theorem dX6_believersAt_6 : decode cX6_believersAt 6 = .ok (.getfield 52, 3) := by decide +kernel
theorem dX6_believersAt_9 : decode cX6_believersAt 9 = .ok (.if_icmp .ge 47, 3) := by decide +kernel
theorem dX6_believersAt_12 : decode cX6_believersAt 12 = .ok (.iload_n 2, 1) := by decide +kernel
theorem dX6_believersAt_13 : decode cX6_believersAt 13 = .ok (.aload_n 0, 1) := by decide +kernel
theorem dX6_believersAt_14 : decode cX6_believersAt 14 = .ok (.iload_n 3, 1) := by decide +kernel
theorem dX6_believersAt_15 : decode cX6_believersAt 15 = .ok (.invokevirtual 156, 3) := by decide +kernel
theorem dX6_believersAt_18 : decode cX6_believersAt 18 = .ok (.ifCond .eq 29, 3) := by decide +kernel
theorem dX6_believersAt_21 : decode cX6_believersAt 21 = .ok (.aload_n 0, 1) := by decide +kernel
theorem dX6_believersAt_22 : decode cX6_believersAt 22 = .ok (.iload_n 3, 1) := by decide +kernel
theorem dX6_believersAt_23 : decode cX6_believersAt 23 = .ok (.invokevirtual 165, 3) := by decide +kernel
theorem dX6_believersAt_26 : decode cX6_believersAt 26 = .ok (.ifCond .eq 21, 3) := by decide +kernel
theorem dX6_believersAt_29 : decode cX6_believersAt 29 = .ok (.aload_n 0, 1) := by decide +kernel
theorem dX6_believersAt_30 : decode cX6_believersAt 30 = .ok (.getfield 22, 3) := by decide +kernel
theorem dX6_believersAt_33 : decode cX6_believersAt 33 = .ok (.iload_n 3, 1) := by decide +kernel
theorem dX6_believersAt_34 : decode cX6_believersAt 34 = .ok (.iaload, 1) := by decide +kernel
theorem dX6_believersAt_35 : decode cX6_believersAt 35 = .ok (.iload_n 1, 1) := by decide +kernel
theorem dX6_believersAt_36 : decode cX6_believersAt 36 = .ok (.invokestatic 159, 3) := by decide +kernel
theorem dX6_believersAt_39 : decode cX6_believersAt 39 = .ok (.iconst 3, 1) := by decide +kernel
theorem dX6_believersAt_40 : decode cX6_believersAt 40 = .ok (.if_icmp .ge 7, 3) := by decide +kernel
theorem dX6_believersAt_43 : decode cX6_believersAt 43 = .ok (.iconst 1, 1) := by decide +kernel
theorem dX6_believersAt_44 : decode cX6_believersAt 44 = .ok (.goto 4, 3) := by decide +kernel
theorem dX6_believersAt_47 : decode cX6_believersAt 47 = .ok (.iconst 0, 1) := by decide +kernel
theorem dX6_believersAt_48 : decode cX6_believersAt 48 = .ok (.iadd, 1) := by decide +kernel
theorem dX6_believersAt_49 : decode cX6_believersAt 49 = .ok (.istore_n 2, 1) := by decide +kernel
theorem dX6_believersAt_50 : decode cX6_believersAt 50 = .ok (.iinc 3 1, 3) := by decide +kernel
theorem dX6_believersAt_53 : decode cX6_believersAt 53 = .ok (.goto (-49), 3) := by decide +kernel
theorem dX6_believersAt_56 : decode cX6_believersAt 56 = .ok (.iload_n 2, 1) := by decide +kernel
theorem dX6_believersAt_57 : decode cX6_believersAt 57 = .ok (.ireturn, 1) := by decide +kernel
theorem dX6_towards_0 : decode cX6_towards 0 = .ok (.iload_n 0, 1) := by decide +kernel
theorem dX6_towards_1 : decode cX6_towards 1 = .ok (.iconst 5, 1) := by decide +kernel
theorem dX6_towards_2 : decode cX6_towards 2 = .ok (.idiv, 1) := by decide +kernel
theorem dX6_towards_3 : decode cX6_towards 3 = .ok (.iload_n 1, 1) := by decide +kernel
theorem dX6_towards_4 : decode cX6_towards 4 = .ok (.iconst 5, 1) := by decide +kernel
theorem dX6_towards_5 : decode cX6_towards 5 = .ok (.idiv, 1) := by decide +kernel
theorem dX6_towards_6 : decode cX6_towards 6 = .ok (.if_icmp .eq 22, 3) := by decide +kernel
theorem dX6_towards_9 : decode cX6_towards 9 = .ok (.iload_n 0, 1) := by decide +kernel
theorem dX6_towards_10 : decode cX6_towards 10 = .ok (.iconst 5, 1) := by decide +kernel
theorem dX6_towards_11 : decode cX6_towards 11 = .ok (.idiv, 1) := by decide +kernel
theorem dX6_towards_12 : decode cX6_towards 12 = .ok (.iload_n 1, 1) := by decide +kernel
theorem dX6_towards_13 : decode cX6_towards 13 = .ok (.iconst 5, 1) := by decide +kernel
theorem dX6_towards_14 : decode cX6_towards 14 = .ok (.idiv, 1) := by decide +kernel
theorem dX6_towards_15 : decode cX6_towards 15 = .ok (.if_icmp .ge 9, 3) := by decide +kernel
theorem dX6_towards_18 : decode cX6_towards 18 = .ok (.iload_n 0, 1) := by decide +kernel
theorem dX6_towards_19 : decode cX6_towards 19 = .ok (.iconst 5, 1) := by decide +kernel
theorem dX6_towards_20 : decode cX6_towards 20 = .ok (.iadd, 1) := by decide +kernel
theorem dX6_towards_21 : decode cX6_towards 21 = .ok (.goto 6, 3) := by decide +kernel
theorem dX6_towards_24 : decode cX6_towards 24 = .ok (.iload_n 0, 1) := by decide +kernel
theorem dX6_towards_25 : decode cX6_towards 25 = .ok (.iconst 5, 1) := by decide +kernel
theorem dX6_towards_26 : decode cX6_towards 26 = .ok (.isub, 1) := by decide +kernel
theorem dX6_towards_27 : decode cX6_towards 27 = .ok (.ireturn, 1) := by decide +kernel
theorem dX6_towards_28 : decode cX6_towards 28 = .ok (.iload_n 0, 1) := by decide +kernel
theorem dX6_towards_29 : decode cX6_towards 29 = .ok (.iconst 5, 1) := by decide +kernel
theorem dX6_towards_30 : decode cX6_towards 30 = .ok (.irem, 1) := by decide +kernel
theorem dX6_towards_31 : decode cX6_towards 31 = .ok (.iload_n 1, 1) := by decide +kernel
theorem dX6_towards_32 : decode cX6_towards 32 = .ok (.iconst 5, 1) := by decide +kernel
theorem dX6_towards_33 : decode cX6_towards 33 = .ok (.irem, 1) := by decide +kernel
theorem dX6_towards_34 : decode cX6_towards 34 = .ok (.if_icmp .ge 9, 3) := by decide +kernel
theorem dX6_towards_37 : decode cX6_towards 37 = .ok (.iload_n 0, 1) := by decide +kernel
theorem dX6_towards_38 : decode cX6_towards 38 = .ok (.iconst 1, 1) := by decide +kernel
theorem dX6_towards_39 : decode cX6_towards 39 = .ok (.iadd, 1) := by decide +kernel
theorem dX6_towards_40 : decode cX6_towards 40 = .ok (.goto 19, 3) := by decide +kernel
theorem dX6_towards_43 : decode cX6_towards 43 = .ok (.iload_n 0, 1) := by decide +kernel
theorem dX6_towards_44 : decode cX6_towards 44 = .ok (.iconst 5, 1) := by decide +kernel
theorem dX6_towards_45 : decode cX6_towards 45 = .ok (.irem, 1) := by decide +kernel
theorem dX6_towards_46 : decode cX6_towards 46 = .ok (.iload_n 1, 1) := by decide +kernel
theorem dX6_towards_47 : decode cX6_towards 47 = .ok (.iconst 5, 1) := by decide +kernel
theorem dX6_towards_48 : decode cX6_towards 48 = .ok (.irem, 1) := by decide +kernel
theorem dX6_towards_49 : decode cX6_towards 49 = .ok (.if_icmp .le 9, 3) := by decide +kernel
theorem dX6_towards_52 : decode cX6_towards 52 = .ok (.iload_n 0, 1) := by decide +kernel
theorem dX6_towards_53 : decode cX6_towards 53 = .ok (.iconst 1, 1) := by decide +kernel
theorem dX6_towards_54 : decode cX6_towards 54 = .ok (.isub, 1) := by decide +kernel
theorem dX6_towards_55 : decode cX6_towards 55 = .ok (.goto 4, 3) := by decide +kernel
theorem dX6_towards_58 : decode cX6_towards 58 = .ok (.iload_n 0, 1) := by decide +kernel
theorem dX6_towards_59 : decode cX6_towards 59 = .ok (.ireturn, 1) := by decide +kernel
set_option maxRecDepth 20000 in
theorem ggX6_goesYear_X6_here : GoodIn wsX6_goesYear wsX6_here := goodIn_r _ [11, 4, 70, 71, 72, 73, 74, 75, 76, 77, 78, 79, 80, 81, 82, 83, 84, 85, 86, 87, 88, 89, 90, 91, 92, 93, 94] (by decide +kernel) (by decide +kernel)
set_option maxRecDepth 20000 in
theorem gX6_goesYear_X6_here : GoodIn wsX6_goesYear (wsV RX6 186 RX6 yX6_here wsX6_here) := goodIn_app (goodIn_of _ (by decide +kernel)) ggX6_goesYear_X6_here
set_option maxRecDepth 20000 in
theorem ggX6_goesYear_X6_believersAt : GoodIn wsX6_goesYear wsX6_believersAt := goodIn_r _ [15, 1, 6, 16, 17, 18, 10, 19, 20, 21, 22, 23, 24, 25, 26, 27, 5, 28, 29, 30, 31, 32, 33, 70, 71, 72, 73, 74, 75, 76, 77, 78, 79, 80, 81, 82, 83, 84, 85, 86, 87, 88, 89, 90, 91, 92, 93, 94] (by decide +kernel) (by decide +kernel)
set_option maxRecDepth 20000 in
theorem gX6_goesYear_X6_believersAt : GoodIn wsX6_goesYear (wsV RX6 189 RX6 yX6_believersAt wsX6_believersAt) := goodIn_app (goodIn_of _ (by decide +kernel)) ggX6_goesYear_X6_believersAt
set_option maxRecDepth 20000 in
theorem ggX6_goesYear_X6_nextBelief : GoodIn wsX6_goesYear wsX6_nextBelief := goodIn_r _ [37, 38, 5, 39, 40, 41, 10, 42, 6, 43, 44, 45, 46, 47, 48, 49, 50, 51, 1, 52, 53, 54, 55, 16, 17, 18, 19, 20, 21, 22, 23, 28, 29, 30, 31, 32, 33, 24, 25, 26, 27, 56, 57, 58, 59, 60, 61, 62, 63, 64, 65, 66, 70, 71, 72, 73, 74, 75, 76, 77, 78, 79, 80, 81, 82, 83, 84, 85, 86, 87, 88, 89, 90, 91, 92, 93, 94] (by decide +kernel) (by decide +kernel)
set_option maxRecDepth 20000 in
theorem gX6_goesYear_X6_nextBelief : GoodIn wsX6_goesYear (wsV RX6 192 RX6 yX6_nextBelief wsX6_nextBelief) := goodIn_app (goodIn_of _ (by decide +kernel)) ggX6_goesYear_X6_nextBelief
set_option maxRecDepth 20000 in
theorem ggX6_goesYear_X6_held : GoodIn wsX6_goesYear wsX6_held := goodIn_r _ [62] (by decide +kernel) (by decide +kernel)
set_option maxRecDepth 20000 in
theorem gX6_goesYear_X6_held : GoodIn wsX6_goesYear (va_wsS RX6 180 yX6_held wsX6_held) := goodIn_app (goodIn_of _ (by decide +kernel)) ggX6_goesYear_X6_held
set_option maxRecDepth 20000 in
theorem ggX6_goesYear_X6_believesNow : GoodIn wsX6_goesYear wsX6_believesNow := goodIn_r _ [27, 5, 70, 71, 72, 73, 74, 75, 76, 77, 78, 79, 80, 81, 82, 83, 84, 85, 86, 87, 88, 89, 90, 91, 92, 93, 94] (by decide +kernel) (by decide +kernel)
set_option maxRecDepth 20000 in
theorem gX6_goesYear_X6_believesNow : GoodIn wsX6_goesYear (wsV RX6 165 RX6 yX6_believesNow wsX6_believesNow) := goodIn_app (goodIn_of _ (by decide +kernel)) ggX6_goesYear_X6_believesNow
set_option maxRecDepth 20000 in
theorem ggX6_goesYear_X6_towards : GoodIn wsX6_goesYear wsX6_towards := goodIn_r _ [69] (by decide +kernel) (by decide +kernel)
set_option maxRecDepth 20000 in
theorem gX6_goesYear_X6_towards : GoodIn wsX6_goesYear (va_wsS RX6 195 yX6_towards wsX6_towards) := goodIn_app (goodIn_of _ (by decide +kernel)) ggX6_goesYear_X6_towards
theorem dX6_goesYear_0 : decode cX6_goesYear 0 = .ok (.aload_n 0, 1) := by decide +kernel
theorem dX6_goesYear_1 : decode cX6_goesYear 1 = .ok (.invokevirtual 186, 3) := by decide +kernel
theorem dX6_goesYear_4 : decode cX6_goesYear 4 = .ok (.istore_n 2, 1) := by decide +kernel
theorem dX6_goesYear_5 : decode cX6_goesYear 5 = .ok (.iload_n 1, 1) := by decide +kernel
theorem dX6_goesYear_6 : decode cX6_goesYear 6 = .ok (.ifCond .eq 7, 3) := by decide +kernel
theorem dX6_goesYear_9 : decode cX6_goesYear 9 = .ok (.iconst 0, 1) := by decide +kernel
theorem dX6_goesYear_10 : decode cX6_goesYear 10 = .ok (.goto 8, 3) := by decide +kernel
theorem dX6_goesYear_13 : decode cX6_goesYear 13 = .ok (.aload_n 0, 1) := by decide +kernel
theorem dX6_goesYear_14 : decode cX6_goesYear 14 = .ok (.iload_n 2, 1) := by decide +kernel
theorem dX6_goesYear_15 : decode cX6_goesYear 15 = .ok (.invokevirtual 189, 3) := by decide +kernel
theorem dX6_goesYear_18 : decode cX6_goesYear 18 = .ok (.istore_n 3, 1) := by decide +kernel
theorem dX6_goesYear_19 : decode cX6_goesYear 19 = .ok (.iconst 0, 1) := by decide +kernel
theorem dX6_goesYear_20 : decode cX6_goesYear 20 = .ok (.istore 4, 2) := by decide +kernel
theorem dX6_goesYear_22 : decode cX6_goesYear 22 = .ok (.iload 4, 2) := by decide +kernel
theorem dX6_goesYear_24 : decode cX6_goesYear 24 = .ok (.aload_n 0, 1) := by decide +kernel
theorem dX6_goesYear_25 : decode cX6_goesYear 25 = .ok (.getfield 52, 3) := by decide +kernel
theorem dX6_goesYear_28 : decode cX6_goesYear 28 = .ok (.if_icmp .ge 23, 3) := by decide +kernel
theorem dX6_goesYear_31 : decode cX6_goesYear 31 = .ok (.aload_n 0, 1) := by decide +kernel
theorem dX6_goesYear_32 : decode cX6_goesYear 32 = .ok (.getfield 43, 3) := by decide +kernel
theorem dX6_goesYear_35 : decode cX6_goesYear 35 = .ok (.iload 4, 2) := by decide +kernel
theorem dX6_goesYear_37 : decode cX6_goesYear 37 = .ok (.aload_n 0, 1) := by decide +kernel
theorem dX6_goesYear_38 : decode cX6_goesYear 38 = .ok (.iload 4, 2) := by decide +kernel
theorem dX6_goesYear_40 : decode cX6_goesYear 40 = .ok (.iload_n 2, 1) := by decide +kernel
theorem dX6_goesYear_41 : decode cX6_goesYear 41 = .ok (.invokevirtual 192, 3) := by decide +kernel
theorem dX6_goesYear_44 : decode cX6_goesYear 44 = .ok (.iastore, 1) := by decide +kernel
theorem dX6_goesYear_45 : decode cX6_goesYear 45 = .ok (.iinc 4 1, 3) := by decide +kernel
theorem dX6_goesYear_48 : decode cX6_goesYear 48 = .ok (.goto (-26), 3) := by decide +kernel
theorem dX6_goesYear_51 : decode cX6_goesYear 51 = .ok (.aload_n 0, 1) := by decide +kernel
theorem dX6_goesYear_52 : decode cX6_goesYear 52 = .ok (.dup, 1) := by decide +kernel
theorem dX6_goesYear_53 : decode cX6_goesYear 53 = .ok (.getfield 104, 3) := by decide +kernel
theorem dX6_goesYear_56 : decode cX6_goesYear 56 = .ok (.iconst 1, 1) := by decide +kernel
theorem dX6_goesYear_57 : decode cX6_goesYear 57 = .ok (.iadd, 1) := by decide +kernel
theorem dX6_goesYear_58 : decode cX6_goesYear 58 = .ok (.putfield 104, 3) := by decide +kernel
theorem dX6_goesYear_61 : decode cX6_goesYear 61 = .ok (.iconst 0, 1) := by decide +kernel
theorem dX6_goesYear_62 : decode cX6_goesYear 62 = .ok (.istore 4, 2) := by decide +kernel
theorem dX6_goesYear_64 : decode cX6_goesYear 64 = .ok (.iload 4, 2) := by decide +kernel
theorem dX6_goesYear_66 : decode cX6_goesYear 66 = .ok (.bipush 25, 2) := by decide +kernel
theorem dX6_goesYear_68 : decode cX6_goesYear 68 = .ok (.if_icmp .ge 49, 3) := by decide +kernel
theorem dX6_goesYear_71 : decode cX6_goesYear 71 = .ok (.aload_n 0, 1) := by decide +kernel
theorem dX6_goesYear_72 : decode cX6_goesYear 72 = .ok (.getfield 13, 3) := by decide +kernel
theorem dX6_goesYear_75 : decode cX6_goesYear 75 = .ok (.iload 4, 2) := by decide +kernel
theorem dX6_goesYear_77 : decode cX6_goesYear 77 = .ok (.iload 4, 2) := by decide +kernel
theorem dX6_goesYear_79 : decode cX6_goesYear 79 = .ok (.iload_n 2, 1) := by decide +kernel
theorem dX6_goesYear_80 : decode cX6_goesYear 80 = .ok (.if_icmp .ne 15, 3) := by decide +kernel
theorem dX6_goesYear_83 : decode cX6_goesYear 83 = .ok (.aload_n 0, 1) := by decide +kernel
theorem dX6_goesYear_84 : decode cX6_goesYear 84 = .ok (.getfield 13, 3) := by decide +kernel
theorem dX6_goesYear_87 : decode cX6_goesYear 87 = .ok (.iload 4, 2) := by decide +kernel
theorem dX6_goesYear_89 : decode cX6_goesYear 89 = .ok (.iaload, 1) := by decide +kernel
theorem dX6_goesYear_90 : decode cX6_goesYear 90 = .ok (.iload_n 3, 1) := by decide +kernel
theorem dX6_goesYear_91 : decode cX6_goesYear 91 = .ok (.iadd, 1) := by decide +kernel
theorem dX6_goesYear_92 : decode cX6_goesYear 92 = .ok (.goto 12, 3) := by decide +kernel
theorem dX6_goesYear_95 : decode cX6_goesYear 95 = .ok (.aload_n 0, 1) := by decide +kernel
theorem dX6_goesYear_96 : decode cX6_goesYear 96 = .ok (.getfield 13, 3) := by decide +kernel
theorem dX6_goesYear_99 : decode cX6_goesYear 99 = .ok (.iload 4, 2) := by decide +kernel
theorem dX6_goesYear_101 : decode cX6_goesYear 101 = .ok (.iaload, 1) := by decide +kernel
theorem dX6_goesYear_102 : decode cX6_goesYear 102 = .ok (.iconst 1, 1) := by decide +kernel
theorem dX6_goesYear_103 : decode cX6_goesYear 103 = .ok (.isub, 1) := by decide +kernel
theorem dX6_goesYear_104 : decode cX6_goesYear 104 = .ok (.iconst 0, 1) := by decide +kernel
theorem dX6_goesYear_105 : decode cX6_goesYear 105 = .ok (.bipush 99, 2) := by decide +kernel
theorem dX6_goesYear_107 : decode cX6_goesYear 107 = .ok (.invokestatic 180, 3) := by decide +kernel
theorem dX6_goesYear_110 : decode cX6_goesYear 110 = .ok (.iastore, 1) := by decide +kernel
theorem dX6_goesYear_111 : decode cX6_goesYear 111 = .ok (.iinc 4 1, 3) := by decide +kernel
theorem dX6_goesYear_114 : decode cX6_goesYear 114 = .ok (.goto (-50), 3) := by decide +kernel
theorem dX6_goesYear_117 : decode cX6_goesYear 117 = .ok (.iconst 0, 1) := by decide +kernel
theorem dX6_goesYear_118 : decode cX6_goesYear 118 = .ok (.istore 4, 2) := by decide +kernel
theorem dX6_goesYear_120 : decode cX6_goesYear 120 = .ok (.iload 4, 2) := by decide +kernel
theorem dX6_goesYear_122 : decode cX6_goesYear 122 = .ok (.aload_n 0, 1) := by decide +kernel
theorem dX6_goesYear_123 : decode cX6_goesYear 123 = .ok (.getfield 52, 3) := by decide +kernel
theorem dX6_goesYear_126 : decode cX6_goesYear 126 = .ok (.if_icmp .ge 50, 3) := by decide +kernel
theorem dX6_goesYear_129 : decode cX6_goesYear 129 = .ok (.aload_n 0, 1) := by decide +kernel
theorem dX6_goesYear_130 : decode cX6_goesYear 130 = .ok (.getfield 25, 3) := by decide +kernel
theorem dX6_goesYear_133 : decode cX6_goesYear 133 = .ok (.iload 4, 2) := by decide +kernel
theorem dX6_goesYear_135 : decode cX6_goesYear 135 = .ok (.aload_n 0, 1) := by decide +kernel
theorem dX6_goesYear_136 : decode cX6_goesYear 136 = .ok (.getfield 43, 3) := by decide +kernel
theorem dX6_goesYear_139 : decode cX6_goesYear 139 = .ok (.iload 4, 2) := by decide +kernel
theorem dX6_goesYear_141 : decode cX6_goesYear 141 = .ok (.iaload, 1) := by decide +kernel
theorem dX6_goesYear_142 : decode cX6_goesYear 142 = .ok (.iastore, 1) := by decide +kernel
theorem dX6_goesYear_143 : decode cX6_goesYear 143 = .ok (.aload_n 0, 1) := by decide +kernel
theorem dX6_goesYear_144 : decode cX6_goesYear 144 = .ok (.iload 4, 2) := by decide +kernel
theorem dX6_goesYear_146 : decode cX6_goesYear 146 = .ok (.invokevirtual 165, 3) := by decide +kernel
theorem dX6_goesYear_149 : decode cX6_goesYear 149 = .ok (.ifCond .eq 21, 3) := by decide +kernel
theorem dX6_goesYear_152 : decode cX6_goesYear 152 = .ok (.aload_n 0, 1) := by decide +kernel
theorem dX6_goesYear_153 : decode cX6_goesYear 153 = .ok (.getfield 22, 3) := by decide +kernel
theorem dX6_goesYear_156 : decode cX6_goesYear 156 = .ok (.iload 4, 2) := by decide +kernel
theorem dX6_goesYear_158 : decode cX6_goesYear 158 = .ok (.aload_n 0, 1) := by decide +kernel
theorem dX6_goesYear_159 : decode cX6_goesYear 159 = .ok (.getfield 22, 3) := by decide +kernel
theorem dX6_goesYear_162 : decode cX6_goesYear 162 = .ok (.iload 4, 2) := by decide +kernel
theorem dX6_goesYear_164 : decode cX6_goesYear 164 = .ok (.iaload, 1) := by decide +kernel
theorem dX6_goesYear_165 : decode cX6_goesYear 165 = .ok (.iload_n 2, 1) := by decide +kernel
theorem dX6_goesYear_166 : decode cX6_goesYear 166 = .ok (.invokestatic 195, 3) := by decide +kernel
theorem dX6_goesYear_169 : decode cX6_goesYear 169 = .ok (.iastore, 1) := by decide +kernel
theorem dX6_goesYear_170 : decode cX6_goesYear 170 = .ok (.iinc 4 1, 3) := by decide +kernel
theorem dX6_goesYear_173 : decode cX6_goesYear 173 = .ok (.goto (-53), 3) := by decide +kernel
theorem dX6_goesYear_176 : decode cX6_goesYear 176 = .ok (.return_, 1) := by decide +kernel
set_option maxRecDepth 20000 in
theorem ggX6_goes_X6_goesYear : GoodIn wsX6_goes wsX6_goesYear := goodIn_r _ [5, 6, 7, 8, 9, 10, 11, 12, 13, 14, 4, 15, 16, 17, 18, 19, 20, 21, 22, 23, 24, 25, 26, 27, 28, 29, 30, 31, 32, 33, 34, 35, 36, 37, 38, 39, 40, 41, 42, 43, 44, 45, 46, 47, 48, 49, 50, 51, 52, 53, 54, 55, 56, 57, 58, 59, 60, 61, 62, 63, 64, 65, 66, 67, 68, 69, 70, 71, 72, 73, 74, 75, 76, 77, 78, 79, 80, 81, 82, 83, 84, 85, 86, 87, 88, 89, 90, 91, 92, 93, 94, 95, 96, 97, 98] (by decide +kernel) (by decide +kernel)
set_option maxRecDepth 20000 in
theorem gX6_goes_X6_goesYear : GoodIn wsX6_goes (wsV RX6 198 RX6 yX6_goesYear wsX6_goesYear) := goodIn_app (goodIn_of _ (by decide +kernel)) ggX6_goes_X6_goesYear
theorem dX6_goes_0 : decode cX6_goes 0 = .ok (.iconst 0, 1) := by decide +kernel
theorem dX6_goes_1 : decode cX6_goes 1 = .ok (.istore_n 2, 1) := by decide +kernel
theorem dX6_goes_2 : decode cX6_goes 2 = .ok (.iload_n 2, 1) := by decide +kernel
theorem dX6_goes_3 : decode cX6_goes 3 = .ok (.iload_n 1, 1) := by decide +kernel
theorem dX6_goes_4 : decode cX6_goes 4 = .ok (.if_icmp .ge 14, 3) := by decide +kernel
theorem dX6_goes_7 : decode cX6_goes 7 = .ok (.aload_n 0, 1) := by decide +kernel
theorem dX6_goes_8 : decode cX6_goes 8 = .ok (.iconst 0, 1) := by decide +kernel
theorem dX6_goes_9 : decode cX6_goes 9 = .ok (.invokevirtual 198, 3) := by decide +kernel
theorem dX6_goes_12 : decode cX6_goes 12 = .ok (.iinc 2 1, 3) := by decide +kernel
theorem dX6_goes_15 : decode cX6_goes 15 = .ok (.goto (-13), 3) := by decide +kernel
theorem dX6_goes_18 : decode cX6_goes 18 = .ok (.return_, 1) := by decide +kernel
set_option maxRecDepth 20000 in
theorem ggX6_believers_X6_isThere : GoodIn wsX6_believers wsX6_isThere := goodIn_r _ [6, 1, 7, 8, 9, 5, 10, 16, 17, 18, 19, 20, 21, 22, 23, 24, 25, 26, 27, 28, 29, 30, 31, 32, 33, 34, 35, 36, 37, 38, 39, 40] (by decide +kernel) (by decide +kernel)
set_option maxRecDepth 20000 in
theorem gX6_believers_X6_isThere : GoodIn wsX6_believers (wsV RX6 156 RX6 yX6_isThere wsX6_isThere) := goodIn_app (goodIn_of _ (by decide +kernel)) ggX6_believers_X6_isThere
set_option maxRecDepth 20000 in
theorem ggX6_believers_X6_believesNow : GoodIn wsX6_believers wsX6_believesNow := goodIn_r _ [14, 15, 16, 17, 18, 19, 20, 21, 22, 23, 24, 25, 26, 27, 28, 29, 30, 31, 32, 33, 34, 35, 36, 37, 38, 39, 40] (by decide +kernel) (by decide +kernel)
set_option maxRecDepth 20000 in
theorem gX6_believers_X6_believesNow : GoodIn wsX6_believers (wsV RX6 165 RX6 yX6_believesNow wsX6_believesNow) := goodIn_app (goodIn_of _ (by decide +kernel)) ggX6_believers_X6_believesNow
theorem dX6_believers_0 : decode cX6_believers 0 = .ok (.iconst 0, 1) := by decide +kernel
theorem dX6_believers_1 : decode cX6_believers 1 = .ok (.istore_n 1, 1) := by decide +kernel
theorem dX6_believers_2 : decode cX6_believers 2 = .ok (.iconst 0, 1) := by decide +kernel
theorem dX6_believers_3 : decode cX6_believers 3 = .ok (.istore_n 2, 1) := by decide +kernel
theorem dX6_believers_4 : decode cX6_believers 4 = .ok (.iload_n 2, 1) := by decide +kernel
theorem dX6_believers_5 : decode cX6_believers 5 = .ok (.aload_n 0, 1) := by decide +kernel
theorem dX6_believers_6 : decode cX6_believers 6 = .ok (.getfield 52, 3) := by decide +kernel
theorem dX6_believers_9 : decode cX6_believers 9 = .ok (.if_icmp .ge 35, 3) := by decide +kernel
theorem dX6_believers_12 : decode cX6_believers 12 = .ok (.iload_n 1, 1) := by decide +kernel
theorem dX6_believers_13 : decode cX6_believers 13 = .ok (.aload_n 0, 1) := by decide +kernel
theorem dX6_believers_14 : decode cX6_believers 14 = .ok (.iload_n 2, 1) := by decide +kernel
theorem dX6_believers_15 : decode cX6_believers 15 = .ok (.invokevirtual 156, 3) := by decide +kernel
theorem dX6_believers_18 : decode cX6_believers 18 = .ok (.ifCond .eq 17, 3) := by decide +kernel
theorem dX6_believers_21 : decode cX6_believers 21 = .ok (.aload_n 0, 1) := by decide +kernel
theorem dX6_believers_22 : decode cX6_believers 22 = .ok (.iload_n 2, 1) := by decide +kernel
theorem dX6_believers_23 : decode cX6_believers 23 = .ok (.invokevirtual 165, 3) := by decide +kernel
theorem dX6_believers_26 : decode cX6_believers 26 = .ok (.ifCond .eq 9, 3) := by decide +kernel
theorem dX6_believers_29 : decode cX6_believers 29 = .ok (.iconst 1, 1) := by decide +kernel
theorem dX6_believers_30 : decode cX6_believers 30 = .ok (.iload_n 2, 1) := by decide +kernel
theorem dX6_believers_31 : decode cX6_believers 31 = .ok (.ishl, 1) := by decide +kernel
theorem dX6_believers_32 : decode cX6_believers 32 = .ok (.goto 4, 3) := by decide +kernel
theorem dX6_believers_35 : decode cX6_believers 35 = .ok (.iconst 0, 1) := by decide +kernel
theorem dX6_believers_36 : decode cX6_believers 36 = .ok (.ior, 1) := by decide +kernel
theorem dX6_believers_37 : decode cX6_believers 37 = .ok (.istore_n 1, 1) := by decide +kernel
theorem dX6_believers_38 : decode cX6_believers 38 = .ok (.iinc 2 1, 3) := by decide +kernel
theorem dX6_believers_41 : decode cX6_believers 41 = .ok (.goto (-37), 3) := by decide +kernel
theorem dX6_believers_44 : decode cX6_believers 44 = .ok (.iload_n 1, 1) := by decide +kernel
theorem dX6_believers_45 : decode cX6_believers 45 = .ok (.ireturn, 1) := by decide +kernel
theorem dX6_everybody_0 : decode cX6_everybody 0 = .ok (.iconst 1, 1) := by decide +kernel
theorem dX6_everybody_1 : decode cX6_everybody 1 = .ok (.aload_n 0, 1) := by decide +kernel
theorem dX6_everybody_2 : decode cX6_everybody 2 = .ok (.getfield 52, 3) := by decide +kernel
theorem dX6_everybody_5 : decode cX6_everybody 5 = .ok (.ishl, 1) := by decide +kernel
theorem dX6_everybody_6 : decode cX6_everybody 6 = .ok (.iconst 1, 1) := by decide +kernel
theorem dX6_everybody_7 : decode cX6_everybody 7 = .ok (.isub, 1) := by decide +kernel
theorem dX6_everybody_8 : decode cX6_everybody 8 = .ok (.ireturn, 1) := by decide +kernel
set_option maxRecDepth 20000 in
theorem ggX6_depth_X6_isCell : GoodIn wsX6_depth wsX6_isCell := goodIn_r _ [5] (by decide +kernel) (by decide +kernel)
set_option maxRecDepth 20000 in
theorem gX6_depth_X6_isCell : GoodIn wsX6_depth (va_wsS RX6 111 yX6_isCell wsX6_isCell) := goodIn_app (goodIn_of _ (by decide +kernel)) ggX6_depth_X6_isCell
set_option maxRecDepth 20000 in
theorem ggX6_depth_X6_no : GoodIn wsX6_depth wsX6_no := goodIn_r _ [9, 10, 11, 12, 13, 14, 15, 16, 17, 18, 19, 20, 21, 22, 23, 24, 25, 26, 27, 28, 29, 30, 31, 32, 33, 34, 35] (by decide +kernel) (by decide +kernel)
set_option maxRecDepth 20000 in
theorem gX6_depth_X6_no : GoodIn wsX6_depth (wsV RX6 73 RX6 yX6_no wsX6_no) := goodIn_app (goodIn_of _ (by decide +kernel)) ggX6_depth_X6_no
theorem dX6_depth_0 : decode cX6_depth 0 = .ok (.iload_n 1, 1) := by decide +kernel
theorem dX6_depth_1 : decode cX6_depth 1 = .ok (.invokestatic 111, 3) := by decide +kernel
theorem dX6_depth_4 : decode cX6_depth 4 = .ok (.ifCond .eq 12, 3) := by decide +kernel
theorem dX6_depth_7 : decode cX6_depth 7 = .ok (.aload_n 0, 1) := by decide +kernel
theorem dX6_depth_8 : decode cX6_depth 8 = .ok (.getfield 13, 3) := by decide +kernel
theorem dX6_depth_11 : decode cX6_depth 11 = .ok (.iload_n 1, 1) := by decide +kernel
theorem dX6_depth_12 : decode cX6_depth 12 = .ok (.iaload, 1) := by decide +kernel
theorem dX6_depth_13 : decode cX6_depth 13 = .ok (.goto 8, 3) := by decide +kernel
theorem dX6_depth_16 : decode cX6_depth 16 = .ok (.aload_n 0, 1) := by decide +kernel
theorem dX6_depth_17 : decode cX6_depth 17 = .ok (.iconst (-1), 1) := by decide +kernel
theorem dX6_depth_18 : decode cX6_depth 18 = .ok (.invokevirtual 73, 3) := by decide +kernel
theorem dX6_depth_21 : decode cX6_depth 21 = .ok (.ireturn, 1) := by decide +kernel
set_option maxRecDepth 20000 in
theorem ggX6_person_X6_isOne : GoodIn wsX6_person wsX6_isOne := goodIn_r _ [9, 10, 70, 71, 72, 73, 74, 75, 76, 77, 78, 79, 80, 81, 82, 83, 84, 85, 86, 87, 88, 89, 90, 91, 92, 93, 94] (by decide +kernel) (by decide +kernel)
set_option maxRecDepth 20000 in
theorem gX6_person_X6_isOne : GoodIn wsX6_person (wsV RX6 118 RX6 yX6_isOne wsX6_isOne) := goodIn_app (goodIn_of _ (by decide +kernel)) ggX6_person_X6_isOne
set_option maxRecDepth 20000 in
theorem ggX6_person_X6_no : GoodIn wsX6_person wsX6_no := goodIn_r _ [14, 15, 70, 71, 72, 73, 74, 75, 76, 77, 78, 79, 80, 81, 82, 83, 84, 85, 86, 87, 88, 89, 90, 91, 92, 93, 94] (by decide +kernel) (by decide +kernel)
set_option maxRecDepth 20000 in
theorem gX6_person_X6_no : GoodIn wsX6_person (wsV RX6 73 RX6 yX6_no wsX6_no) := goodIn_app (goodIn_of _ (by decide +kernel)) ggX6_person_X6_no
set_option maxRecDepth 20000 in
theorem ggX6_person_X6_manyBeside : GoodIn wsX6_person wsX6_manyBeside := goodIn_r _ [19, 10, 20, 21, 22, 8, 23, 3, 24, 25, 26, 27, 28, 29, 30, 31, 32, 33, 34, 35, 36, 37, 70, 71, 72, 73, 74, 75, 76, 77, 78, 79, 80, 81, 82, 83, 84, 85, 86, 87, 88, 89, 90, 91, 92, 93, 94] (by decide +kernel) (by decide +kernel)
set_option maxRecDepth 20000 in
theorem gX6_person_X6_manyBeside : GoodIn wsX6_person (wsV RX6 171 RX6 yX6_manyBeside wsX6_manyBeside) := goodIn_app (goodIn_of _ (by decide +kernel)) ggX6_person_X6_manyBeside
set_option maxRecDepth 20000 in
theorem ggX6_person_X6_believersBeside : GoodIn wsX6_person wsX6_believersBeside := goodIn_r _ [41, 10, 20, 21, 22, 8, 23, 3, 24, 25, 26, 27, 28, 29, 30, 31, 32, 33, 34, 35, 36, 37, 42, 43, 44, 45, 4, 70, 71, 72, 73, 74, 75, 76, 77, 78, 79, 80, 81, 82, 83, 84, 85, 86, 87, 88, 89, 90, 91, 92, 93, 94] (by decide +kernel) (by decide +kernel)
set_option maxRecDepth 20000 in
theorem gX6_person_X6_believersBeside : GoodIn wsX6_person (wsV RX6 168 RX6 yX6_believersBeside wsX6_believersBeside) := goodIn_app (goodIn_of _ (by decide +kernel)) ggX6_person_X6_believersBeside
set_option maxRecDepth 20000 in
theorem ggX6_person_X6_here : GoodIn wsX6_person wsX6_here := goodIn_r _ [49, 50, 70, 71, 72, 73, 74, 75, 76, 77, 78, 79, 80, 81, 82, 83, 84, 85, 86, 87, 88, 89, 90, 91, 92, 93, 94] (by decide +kernel) (by decide +kernel)
set_option maxRecDepth 20000 in
theorem gX6_person_X6_here : GoodIn wsX6_person (wsV RX6 186 RX6 yX6_here wsX6_here) := goodIn_app (goodIn_of _ (by decide +kernel)) ggX6_person_X6_here
set_option maxRecDepth 20000 in
theorem ggX6_person_X6_nextBelief : GoodIn wsX6_person wsX6_nextBelief := goodIn_r _ [54, 1, 4, 55, 56, 57, 8, 58, 3, 2, 59, 60, 61, 62, 38, 39, 40, 41, 10, 20, 21, 22, 23, 24, 25, 26, 27, 28, 29, 30, 31, 32, 33, 34, 35, 36, 37, 42, 43, 44, 45, 16, 17, 18, 19, 63, 64, 65, 66, 67, 68, 69, 70, 71, 72, 73, 74, 75, 76, 77, 78, 79, 80, 81, 82, 83, 84, 85, 86, 87, 88, 89, 90, 91, 92, 93, 94] (by decide +kernel) (by decide +kernel)
set_option maxRecDepth 20000 in
theorem gX6_person_X6_nextBelief : GoodIn wsX6_person (wsV RX6 192 RX6 yX6_nextBelief wsX6_nextBelief) := goodIn_app (goodIn_of _ (by decide +kernel)) ggX6_person_X6_nextBelief
theorem dX6_person_0 : decode cX6_person 0 = .ok (.aload_n 0, 1) := by decide +kernel
theorem dX6_person_1 : decode cX6_person 1 = .ok (.iload_n 1, 1) := by decide +kernel
theorem dX6_person_2 : decode cX6_person 2 = .ok (.invokevirtual 118, 3) := by decide +kernel
theorem dX6_person_5 : decode cX6_person 5 = .ok (.ifCond .ne 9, 3) := by decide +kernel
theorem dX6_person_8 : decode cX6_person 8 = .ok (.aload_n 0, 1) := by decide +kernel
theorem dX6_person_9 : decode cX6_person 9 = .ok (.iconst (-1), 1) := by decide +kernel
theorem dX6_person_10 : decode cX6_person 10 = .ok (.invokevirtual 73, 3) := by decide +kernel
theorem dX6_person_13 : decode cX6_person 13 = .ok (.ireturn, 1) := by decide +kernel
theorem dX6_person_14 : decode cX6_person 14 = .ok (.iload_n 2, 1) := by decide +kernel
theorem dX6_person_15 : decode cX6_person 15 = .ok (.tableswitch 91 0 6 #[41, 48, 55, 62, 69, 75, 81], 41) := by decide +kernel
theorem dX6_person_56 : decode cX6_person 56 = .ok (.aload_n 0, 1) := by decide +kernel
theorem dX6_person_57 : decode cX6_person 57 = .ok (.getfield 16, 3) := by decide +kernel
theorem dX6_person_60 : decode cX6_person 60 = .ok (.iload_n 1, 1) := by decide +kernel
theorem dX6_person_61 : decode cX6_person 61 = .ok (.iaload, 1) := by decide +kernel
theorem dX6_person_62 : decode cX6_person 62 = .ok (.ireturn, 1) := by decide +kernel
theorem dX6_person_63 : decode cX6_person 63 = .ok (.aload_n 0, 1) := by decide +kernel
theorem dX6_person_64 : decode cX6_person 64 = .ok (.getfield 19, 3) := by decide +kernel
theorem dX6_person_67 : decode cX6_person 67 = .ok (.iload_n 1, 1) := by decide +kernel
theorem dX6_person_68 : decode cX6_person 68 = .ok (.iaload, 1) := by decide +kernel
theorem dX6_person_69 : decode cX6_person 69 = .ok (.ireturn, 1) := by decide +kernel
theorem dX6_person_70 : decode cX6_person 70 = .ok (.aload_n 0, 1) := by decide +kernel
theorem dX6_person_71 : decode cX6_person 71 = .ok (.getfield 22, 3) := by decide +kernel
theorem dX6_person_74 : decode cX6_person 74 = .ok (.iload_n 1, 1) := by decide +kernel
theorem dX6_person_75 : decode cX6_person 75 = .ok (.iaload, 1) := by decide +kernel
theorem dX6_person_76 : decode cX6_person 76 = .ok (.ireturn, 1) := by decide +kernel
theorem dX6_person_77 : decode cX6_person 77 = .ok (.aload_n 0, 1) := by decide +kernel
theorem dX6_person_78 : decode cX6_person 78 = .ok (.getfield 25, 3) := by decide +kernel
theorem dX6_person_81 : decode cX6_person 81 = .ok (.iload_n 1, 1) := by decide +kernel
theorem dX6_person_82 : decode cX6_person 82 = .ok (.iaload, 1) := by decide +kernel
theorem dX6_person_83 : decode cX6_person 83 = .ok (.ireturn, 1) := by decide +kernel
theorem dX6_person_84 : decode cX6_person 84 = .ok (.aload_n 0, 1) := by decide +kernel
theorem dX6_person_85 : decode cX6_person 85 = .ok (.iload_n 1, 1) := by decide +kernel
theorem dX6_person_86 : decode cX6_person 86 = .ok (.invokevirtual 171, 3) := by decide +kernel
theorem dX6_person_89 : decode cX6_person 89 = .ok (.ireturn, 1) := by decide +kernel
theorem dX6_person_90 : decode cX6_person 90 = .ok (.aload_n 0, 1) := by decide +kernel
theorem dX6_person_91 : decode cX6_person 91 = .ok (.iload_n 1, 1) := by decide +kernel
theorem dX6_person_92 : decode cX6_person 92 = .ok (.invokevirtual 168, 3) := by decide +kernel
theorem dX6_person_95 : decode cX6_person 95 = .ok (.ireturn, 1) := by decide +kernel
theorem dX6_person_96 : decode cX6_person 96 = .ok (.aload_n 0, 1) := by decide +kernel
theorem dX6_person_97 : decode cX6_person 97 = .ok (.iload_n 1, 1) := by decide +kernel
theorem dX6_person_98 : decode cX6_person 98 = .ok (.aload_n 0, 1) := by decide +kernel
theorem dX6_person_99 : decode cX6_person 99 = .ok (.invokevirtual 186, 3) := by decide +kernel
theorem dX6_person_102 : decode cX6_person 102 = .ok (.invokevirtual 192, 3) := by decide +kernel
theorem dX6_person_105 : decode cX6_person 105 = .ok (.ireturn, 1) := by decide +kernel
theorem dX6_person_106 : decode cX6_person 106 = .ok (.aload_n 0, 1) := by decide +kernel
theorem dX6_person_107 : decode cX6_person 107 = .ok (.bipush (-2), 2) := by decide +kernel
theorem dX6_person_109 : decode cX6_person 109 = .ok (.invokevirtual 73, 3) := by decide +kernel
theorem dX6_person_112 : decode cX6_person 112 = .ok (.ireturn, 1) := by decide +kernel
set_option maxRecDepth 20000 in
theorem ggX6_place_X6_here : GoodIn wsX6_place wsX6_here := goodIn_r _ [5, 6, 7, 8, 9, 10, 11, 12, 13, 14, 15, 16, 17, 18, 19, 20, 21, 22, 23, 24, 25, 26, 27, 28, 29, 30, 31] (by decide +kernel) (by decide +kernel)
set_option maxRecDepth 20000 in
theorem gX6_place_X6_here : GoodIn wsX6_place (wsV RX6 186 RX6 yX6_here wsX6_here) := goodIn_app (goodIn_of _ (by decide +kernel)) ggX6_place_X6_here
theorem dX6_place_0 : decode cX6_place 0 = .ok (.aload_n 0, 1) := by decide +kernel
theorem dX6_place_1 : decode cX6_place 1 = .ok (.invokevirtual 186, 3) := by decide +kernel
theorem dX6_place_4 : decode cX6_place 4 = .ok (.ireturn, 1) := by decide +kernel
set_option maxRecDepth 20000 in
theorem ggX6_digs_X6_isCell : GoodIn wsX6_digs wsX6_isCell := goodIn_r _ [5] (by decide +kernel) (by decide +kernel)
set_option maxRecDepth 20000 in
theorem gX6_digs_X6_isCell : GoodIn wsX6_digs (va_wsS RX6 111 yX6_isCell wsX6_isCell) := goodIn_app (goodIn_of _ (by decide +kernel)) ggX6_digs_X6_isCell
set_option maxRecDepth 20000 in
theorem ggX6_digs_X6_bound : GoodIn wsX6_digs wsX6_bound := goodIn_r _ [8] (by decide +kernel) (by decide +kernel)
set_option maxRecDepth 20000 in
theorem gX6_digs_X6_bound : GoodIn wsX6_digs (va_wsS RX6 66 yX6_bound wsX6_bound) := goodIn_app (goodIn_of _ (by decide +kernel)) ggX6_digs_X6_bound
set_option maxRecDepth 20000 in
theorem ggX6_digs_X6_no : GoodIn wsX6_digs wsX6_no := goodIn_r _ [12, 13, 14, 15, 16, 17, 18, 19, 20, 21, 22, 23, 24, 25, 26, 27, 28, 29, 30, 31, 32, 33, 34, 35, 36, 37, 38] (by decide +kernel) (by decide +kernel)
set_option maxRecDepth 20000 in
theorem gX6_digs_X6_no : GoodIn wsX6_digs (wsV RX6 73 RX6 yX6_no wsX6_no) := goodIn_app (goodIn_of _ (by decide +kernel)) ggX6_digs_X6_no
theorem dX6_digs_0 : decode cX6_digs 0 = .ok (.iload_n 1, 1) := by decide +kernel
theorem dX6_digs_1 : decode cX6_digs 1 = .ok (.invokestatic 111, 3) := by decide +kernel
theorem dX6_digs_4 : decode cX6_digs 4 = .ok (.ifCond .ne 7, 3) := by decide +kernel
theorem dX6_digs_7 : decode cX6_digs 7 = .ok (.iconst (-1), 1) := by decide +kernel
theorem dX6_digs_8 : decode cX6_digs 8 = .ok (.goto 10, 3) := by decide +kernel
theorem dX6_digs_11 : decode cX6_digs 11 = .ok (.iload_n 2, 1) := by decide +kernel
theorem dX6_digs_12 : decode cX6_digs 12 = .ok (.iconst 0, 1) := by decide +kernel
theorem dX6_digs_13 : decode cX6_digs 13 = .ok (.bipush 99, 2) := by decide +kernel
theorem dX6_digs_15 : decode cX6_digs 15 = .ok (.invokestatic 66, 3) := by decide +kernel
theorem dX6_digs_18 : decode cX6_digs 18 = .ok (.istore_n 3, 1) := by decide +kernel
theorem dX6_digs_19 : decode cX6_digs 19 = .ok (.iload_n 3, 1) := by decide +kernel
theorem dX6_digs_20 : decode cX6_digs 20 = .ok (.ifCond .eq 9, 3) := by decide +kernel
theorem dX6_digs_23 : decode cX6_digs 23 = .ok (.aload_n 0, 1) := by decide +kernel
theorem dX6_digs_24 : decode cX6_digs 24 = .ok (.iload_n 3, 1) := by decide +kernel
theorem dX6_digs_25 : decode cX6_digs 25 = .ok (.invokevirtual 73, 3) := by decide +kernel
theorem dX6_digs_28 : decode cX6_digs 28 = .ok (.ireturn, 1) := by decide +kernel
theorem dX6_digs_29 : decode cX6_digs 29 = .ok (.aload_n 0, 1) := by decide +kernel
theorem dX6_digs_30 : decode cX6_digs 30 = .ok (.getfield 13, 3) := by decide +kernel
theorem dX6_digs_33 : decode cX6_digs 33 = .ok (.iload_n 1, 1) := by decide +kernel
theorem dX6_digs_34 : decode cX6_digs 34 = .ok (.iaload, 1) := by decide +kernel
theorem dX6_digs_35 : decode cX6_digs 35 = .ok (.istore 4, 2) := by decide +kernel
theorem dX6_digs_37 : decode cX6_digs 37 = .ok (.aload_n 0, 1) := by decide +kernel
theorem dX6_digs_38 : decode cX6_digs 38 = .ok (.getfield 13, 3) := by decide +kernel
theorem dX6_digs_41 : decode cX6_digs 41 = .ok (.iload_n 1, 1) := by decide +kernel
theorem dX6_digs_42 : decode cX6_digs 42 = .ok (.iload_n 2, 1) := by decide +kernel
theorem dX6_digs_43 : decode cX6_digs 43 = .ok (.iastore, 1) := by decide +kernel
theorem dX6_digs_44 : decode cX6_digs 44 = .ok (.iload 4, 2) := by decide +kernel
theorem dX6_digs_46 : decode cX6_digs 46 = .ok (.ireturn, 1) := by decide +kernel
set_option maxRecDepth 20000 in
theorem ggX6_believes_X6_isOne : GoodIn wsX6_believes wsX6_isOne := goodIn_r _ [6, 7, 16, 17, 18, 19, 20, 21, 22, 23, 24, 25, 26, 27, 28, 29, 30, 31, 32, 33, 34, 35, 36, 37, 38, 39, 40] (by decide +kernel) (by decide +kernel)
set_option maxRecDepth 20000 in
theorem gX6_believes_X6_isOne : GoodIn wsX6_believes (wsV RX6 118 RX6 yX6_isOne wsX6_isOne) := goodIn_app (goodIn_of _ (by decide +kernel)) ggX6_believes_X6_isOne
set_option maxRecDepth 20000 in
theorem ggX6_believes_X6_bound : GoodIn wsX6_believes wsX6_bound := goodIn_r _ [10] (by decide +kernel) (by decide +kernel)
set_option maxRecDepth 20000 in
theorem gX6_believes_X6_bound : GoodIn wsX6_believes (va_wsS RX6 66 yX6_bound wsX6_bound) := goodIn_app (goodIn_of _ (by decide +kernel)) ggX6_believes_X6_bound
set_option maxRecDepth 20000 in
theorem ggX6_believes_X6_no : GoodIn wsX6_believes wsX6_no := goodIn_r _ [14, 15, 16, 17, 18, 19, 20, 21, 22, 23, 24, 25, 26, 27, 28, 29, 30, 31, 32, 33, 34, 35, 36, 37, 38, 39, 40] (by decide +kernel) (by decide +kernel)
set_option maxRecDepth 20000 in
theorem gX6_believes_X6_no : GoodIn wsX6_believes (wsV RX6 73 RX6 yX6_no wsX6_no) := goodIn_app (goodIn_of _ (by decide +kernel)) ggX6_believes_X6_no
theorem dX6_believes_0 : decode cX6_believes 0 = .ok (.aload_n 0, 1) := by decide +kernel
theorem dX6_believes_1 : decode cX6_believes 1 = .ok (.iload_n 1, 1) := by decide +kernel
theorem dX6_believes_2 : decode cX6_believes 2 = .ok (.invokevirtual 118, 3) := by decide +kernel
theorem dX6_believes_5 : decode cX6_believes 5 = .ok (.ifCond .ne 7, 3) := by decide +kernel
theorem dX6_believes_8 : decode cX6_believes 8 = .ok (.iconst (-1), 1) := by decide +kernel
theorem dX6_believes_9 : decode cX6_believes 9 = .ok (.goto 10, 3) := by decide +kernel
theorem dX6_believes_12 : decode cX6_believes 12 = .ok (.iload_n 2, 1) := by decide +kernel
theorem dX6_believes_13 : decode cX6_believes 13 = .ok (.iconst 0, 1) := by decide +kernel
theorem dX6_believes_14 : decode cX6_believes 14 = .ok (.bipush 9, 2) := by decide +kernel
theorem dX6_believes_16 : decode cX6_believes 16 = .ok (.invokestatic 66, 3) := by decide +kernel
theorem dX6_believes_19 : decode cX6_believes 19 = .ok (.istore_n 3, 1) := by decide +kernel
theorem dX6_believes_20 : decode cX6_believes 20 = .ok (.iload_n 3, 1) := by decide +kernel
theorem dX6_believes_21 : decode cX6_believes 21 = .ok (.ifCond .eq 9, 3) := by decide +kernel
theorem dX6_believes_24 : decode cX6_believes 24 = .ok (.aload_n 0, 1) := by decide +kernel
theorem dX6_believes_25 : decode cX6_believes 25 = .ok (.iload_n 3, 1) := by decide +kernel
theorem dX6_believes_26 : decode cX6_believes 26 = .ok (.invokevirtual 73, 3) := by decide +kernel
theorem dX6_believes_29 : decode cX6_believes 29 = .ok (.ireturn, 1) := by decide +kernel
theorem dX6_believes_30 : decode cX6_believes 30 = .ok (.aload_n 0, 1) := by decide +kernel
theorem dX6_believes_31 : decode cX6_believes 31 = .ok (.getfield 25, 3) := by decide +kernel
theorem dX6_believes_34 : decode cX6_believes 34 = .ok (.iload_n 1, 1) := by decide +kernel
theorem dX6_believes_35 : decode cX6_believes 35 = .ok (.iaload, 1) := by decide +kernel
theorem dX6_believes_36 : decode cX6_believes 36 = .ok (.istore 4, 2) := by decide +kernel
theorem dX6_believes_38 : decode cX6_believes 38 = .ok (.aload_n 0, 1) := by decide +kernel
theorem dX6_believes_39 : decode cX6_believes 39 = .ok (.getfield 25, 3) := by decide +kernel
theorem dX6_believes_42 : decode cX6_believes 42 = .ok (.iload_n 1, 1) := by decide +kernel
theorem dX6_believes_43 : decode cX6_believes 43 = .ok (.iload_n 2, 1) := by decide +kernel
theorem dX6_believes_44 : decode cX6_believes 44 = .ok (.iastore, 1) := by decide +kernel
theorem dX6_believes_45 : decode cX6_believes 45 = .ok (.iload 4, 2) := by decide +kernel
theorem dX6_believes_47 : decode cX6_believes 47 = .ok (.ireturn, 1) := by decide +kernel
set_option maxRecDepth 20000 in
theorem ggX6_sits_X6_isOne : GoodIn wsX6_sits wsX6_isOne := goodIn_r _ [6, 7, 16, 17, 18, 19, 20, 21, 22, 23, 24, 25, 26, 27, 28, 29, 30, 31, 32, 33, 34, 35, 36, 37, 38, 39, 40] (by decide +kernel) (by decide +kernel)
set_option maxRecDepth 20000 in
theorem gX6_sits_X6_isOne : GoodIn wsX6_sits (wsV RX6 118 RX6 yX6_isOne wsX6_isOne) := goodIn_app (goodIn_of _ (by decide +kernel)) ggX6_sits_X6_isOne
set_option maxRecDepth 20000 in
theorem ggX6_sits_X6_isCell : GoodIn wsX6_sits wsX6_isCell := goodIn_r _ [10] (by decide +kernel) (by decide +kernel)
set_option maxRecDepth 20000 in
theorem gX6_sits_X6_isCell : GoodIn wsX6_sits (va_wsS RX6 111 yX6_isCell wsX6_isCell) := goodIn_app (goodIn_of _ (by decide +kernel)) ggX6_sits_X6_isCell
set_option maxRecDepth 20000 in
theorem ggX6_sits_X6_no : GoodIn wsX6_sits wsX6_no := goodIn_r _ [14, 15, 16, 17, 18, 19, 20, 21, 22, 23, 24, 25, 26, 27, 28, 29, 30, 31, 32, 33, 34, 35, 36, 37, 38, 39, 40] (by decide +kernel) (by decide +kernel)
set_option maxRecDepth 20000 in
theorem gX6_sits_X6_no : GoodIn wsX6_sits (wsV RX6 73 RX6 yX6_no wsX6_no) := goodIn_app (goodIn_of _ (by decide +kernel)) ggX6_sits_X6_no
theorem dX6_sits_0 : decode cX6_sits 0 = .ok (.aload_n 0, 1) := by decide +kernel
theorem dX6_sits_1 : decode cX6_sits 1 = .ok (.iload_n 1, 1) := by decide +kernel
theorem dX6_sits_2 : decode cX6_sits 2 = .ok (.invokevirtual 118, 3) := by decide +kernel
theorem dX6_sits_5 : decode cX6_sits 5 = .ok (.ifCond .eq 10, 3) := by decide +kernel
theorem dX6_sits_8 : decode cX6_sits 8 = .ok (.iload_n 2, 1) := by decide +kernel
theorem dX6_sits_9 : decode cX6_sits 9 = .ok (.invokestatic 111, 3) := by decide +kernel
theorem dX6_sits_12 : decode cX6_sits 12 = .ok (.ifCond .ne 9, 3) := by decide +kernel
theorem dX6_sits_15 : decode cX6_sits 15 = .ok (.aload_n 0, 1) := by decide +kernel
theorem dX6_sits_16 : decode cX6_sits 16 = .ok (.iconst (-1), 1) := by decide +kernel
theorem dX6_sits_17 : decode cX6_sits 17 = .ok (.invokevirtual 73, 3) := by decide +kernel
theorem dX6_sits_20 : decode cX6_sits 20 = .ok (.ireturn, 1) := by decide +kernel
theorem dX6_sits_21 : decode cX6_sits 21 = .ok (.aload_n 0, 1) := by decide +kernel
theorem dX6_sits_22 : decode cX6_sits 22 = .ok (.getfield 22, 3) := by decide +kernel
theorem dX6_sits_25 : decode cX6_sits 25 = .ok (.iload_n 1, 1) := by decide +kernel
theorem dX6_sits_26 : decode cX6_sits 26 = .ok (.iaload, 1) := by decide +kernel
theorem dX6_sits_27 : decode cX6_sits 27 = .ok (.istore_n 3, 1) := by decide +kernel
theorem dX6_sits_28 : decode cX6_sits 28 = .ok (.aload_n 0, 1) := by decide +kernel
theorem dX6_sits_29 : decode cX6_sits 29 = .ok (.getfield 22, 3) := by decide +kernel
theorem dX6_sits_32 : decode cX6_sits 32 = .ok (.iload_n 1, 1) := by decide +kernel
theorem dX6_sits_33 : decode cX6_sits 33 = .ok (.iload_n 2, 1) := by decide +kernel
theorem dX6_sits_34 : decode cX6_sits 34 = .ok (.iastore, 1) := by decide +kernel
theorem dX6_sits_35 : decode cX6_sits 35 = .ok (.iload_n 3, 1) := by decide +kernel
theorem dX6_sits_36 : decode cX6_sits 36 = .ok (.ireturn, 1) := by decide +kernel
set_option maxRecDepth 20000 in
theorem ggX6_turn_X6_isOne : GoodIn wsX6_turn wsX6_isOne := goodIn_r _ [7, 8, 20, 21, 22, 23, 24, 25, 26, 27, 28, 29, 30, 31, 32, 33, 34, 35, 36, 37, 38, 39, 40, 41, 42, 43, 44] (by decide +kernel) (by decide +kernel)
set_option maxRecDepth 20000 in
theorem gX6_turn_X6_isOne : GoodIn wsX6_turn (wsV RX6 118 RX6 yX6_isOne wsX6_isOne) := goodIn_app (goodIn_of _ (by decide +kernel)) ggX6_turn_X6_isOne
set_option maxRecDepth 20000 in
theorem ggX6_turn_X6_isIn : GoodIn wsX6_turn wsX6_isIn := goodIn_r _ [11] (by decide +kernel) (by decide +kernel)
set_option maxRecDepth 20000 in
theorem gX6_turn_X6_isIn : GoodIn wsX6_turn (va_wsS RX6 84 yX6_isIn wsX6_isIn) := goodIn_app (goodIn_of _ (by decide +kernel)) ggX6_turn_X6_isIn
set_option maxRecDepth 20000 in
theorem ggX6_turn_X6_bound : GoodIn wsX6_turn wsX6_bound := goodIn_r _ [14] (by decide +kernel) (by decide +kernel)
set_option maxRecDepth 20000 in
theorem gX6_turn_X6_bound : GoodIn wsX6_turn (va_wsS RX6 66 yX6_bound wsX6_bound) := goodIn_app (goodIn_of _ (by decide +kernel)) ggX6_turn_X6_bound
set_option maxRecDepth 20000 in
theorem ggX6_turn_X6_no : GoodIn wsX6_turn wsX6_no := goodIn_r _ [18, 19, 20, 21, 22, 23, 24, 25, 26, 27, 28, 29, 30, 31, 32, 33, 34, 35, 36, 37, 38, 39, 40, 41, 42, 43, 44] (by decide +kernel) (by decide +kernel)
set_option maxRecDepth 20000 in
theorem gX6_turn_X6_no : GoodIn wsX6_turn (wsV RX6 73 RX6 yX6_no wsX6_no) := goodIn_app (goodIn_of _ (by decide +kernel)) ggX6_turn_X6_no
theorem dX6_turn_0 : decode cX6_turn 0 = .ok (.aload_n 0, 1) := by decide +kernel
theorem dX6_turn_1 : decode cX6_turn 1 = .ok (.iload_n 1, 1) := by decide +kernel
theorem dX6_turn_2 : decode cX6_turn 2 = .ok (.invokevirtual 118, 3) := by decide +kernel
theorem dX6_turn_5 : decode cX6_turn 5 = .ok (.ifCond .ne 7, 3) := by decide +kernel
theorem dX6_turn_8 : decode cX6_turn 8 = .ok (.iconst (-1), 1) := by decide +kernel
theorem dX6_turn_9 : decode cX6_turn 9 = .ok (.goto 24, 3) := by decide +kernel
theorem dX6_turn_12 : decode cX6_turn 12 = .ok (.iload_n 2, 1) := by decide +kernel
theorem dX6_turn_13 : decode cX6_turn 13 = .ok (.iconst 0, 1) := by decide +kernel
theorem dX6_turn_14 : decode cX6_turn 14 = .ok (.iconst 5, 1) := by decide +kernel
theorem dX6_turn_15 : decode cX6_turn 15 = .ok (.invokestatic 84, 3) := by decide +kernel
theorem dX6_turn_18 : decode cX6_turn 18 = .ok (.ifCond .ne 8, 3) := by decide +kernel
theorem dX6_turn_21 : decode cX6_turn 21 = .ok (.bipush (-2), 2) := by decide +kernel
theorem dX6_turn_23 : decode cX6_turn 23 = .ok (.goto 10, 3) := by decide +kernel
theorem dX6_turn_26 : decode cX6_turn 26 = .ok (.iload_n 3, 1) := by decide +kernel
theorem dX6_turn_27 : decode cX6_turn 27 = .ok (.iconst 0, 1) := by decide +kernel
theorem dX6_turn_28 : decode cX6_turn 28 = .ok (.bipush 9, 2) := by decide +kernel
theorem dX6_turn_30 : decode cX6_turn 30 = .ok (.invokestatic 66, 3) := by decide +kernel
theorem dX6_turn_33 : decode cX6_turn 33 = .ok (.istore 4, 2) := by decide +kernel
theorem dX6_turn_35 : decode cX6_turn 35 = .ok (.iload 4, 2) := by decide +kernel
theorem dX6_turn_37 : decode cX6_turn 37 = .ok (.ifCond .eq 10, 3) := by decide +kernel
theorem dX6_turn_40 : decode cX6_turn 40 = .ok (.aload_n 0, 1) := by decide +kernel
theorem dX6_turn_41 : decode cX6_turn 41 = .ok (.iload 4, 2) := by decide +kernel
theorem dX6_turn_43 : decode cX6_turn 43 = .ok (.invokevirtual 73, 3) := by decide +kernel
theorem dX6_turn_46 : decode cX6_turn 46 = .ok (.ireturn, 1) := by decide +kernel
theorem dX6_turn_47 : decode cX6_turn 47 = .ok (.bipush 10, 2) := by decide +kernel
theorem dX6_turn_49 : decode cX6_turn 49 = .ok (.aload_n 0, 1) := by decide +kernel
theorem dX6_turn_50 : decode cX6_turn 50 = .ok (.getfield 16, 3) := by decide +kernel
theorem dX6_turn_53 : decode cX6_turn 53 = .ok (.iload_n 1, 1) := by decide +kernel
theorem dX6_turn_54 : decode cX6_turn 54 = .ok (.iaload, 1) := by decide +kernel
theorem dX6_turn_55 : decode cX6_turn 55 = .ok (.imul, 1) := by decide +kernel
theorem dX6_turn_56 : decode cX6_turn 56 = .ok (.aload_n 0, 1) := by decide +kernel
theorem dX6_turn_57 : decode cX6_turn 57 = .ok (.getfield 19, 3) := by decide +kernel
theorem dX6_turn_60 : decode cX6_turn 60 = .ok (.iload_n 1, 1) := by decide +kernel
theorem dX6_turn_61 : decode cX6_turn 61 = .ok (.iaload, 1) := by decide +kernel
theorem dX6_turn_62 : decode cX6_turn 62 = .ok (.iadd, 1) := by decide +kernel
theorem dX6_turn_63 : decode cX6_turn 63 = .ok (.istore 5, 2) := by decide +kernel
theorem dX6_turn_65 : decode cX6_turn 65 = .ok (.aload_n 0, 1) := by decide +kernel
theorem dX6_turn_66 : decode cX6_turn 66 = .ok (.getfield 16, 3) := by decide +kernel
theorem dX6_turn_69 : decode cX6_turn 69 = .ok (.iload_n 1, 1) := by decide +kernel
theorem dX6_turn_70 : decode cX6_turn 70 = .ok (.iload_n 2, 1) := by decide +kernel
theorem dX6_turn_71 : decode cX6_turn 71 = .ok (.iastore, 1) := by decide +kernel
theorem dX6_turn_72 : decode cX6_turn 72 = .ok (.aload_n 0, 1) := by decide +kernel
theorem dX6_turn_73 : decode cX6_turn 73 = .ok (.getfield 19, 3) := by decide +kernel
theorem dX6_turn_76 : decode cX6_turn 76 = .ok (.iload_n 1, 1) := by decide +kernel
theorem dX6_turn_77 : decode cX6_turn 77 = .ok (.iload_n 3, 1) := by decide +kernel
theorem dX6_turn_78 : decode cX6_turn 78 = .ok (.iastore, 1) := by decide +kernel
theorem dX6_turn_79 : decode cX6_turn 79 = .ok (.iload 5, 2) := by decide +kernel
theorem dX6_turn_81 : decode cX6_turn 81 = .ok (.ireturn, 1) := by decide +kernel
set_option maxRecDepth 20000 in
theorem ggX6_years_X6_bound : GoodIn wsX6_years wsX6_bound := goodIn_r _ [5] (by decide +kernel) (by decide +kernel)
set_option maxRecDepth 20000 in
theorem gX6_years_X6_bound : GoodIn wsX6_years (va_wsS RX6 66 yX6_bound wsX6_bound) := goodIn_app (goodIn_of _ (by decide +kernel)) ggX6_years_X6_bound
set_option maxRecDepth 20000 in
theorem ggX6_years_X6_no : GoodIn wsX6_years wsX6_no := goodIn_r _ [9, 10, 93, 94, 95, 96, 97, 98, 99, 100, 101, 102, 103, 104, 105, 106, 107, 108, 109, 110, 111, 112, 113, 114, 115, 116, 117] (by decide +kernel) (by decide +kernel)
set_option maxRecDepth 20000 in
theorem gX6_years_X6_no : GoodIn wsX6_years (wsV RX6 73 RX6 yX6_no wsX6_no) := goodIn_app (goodIn_of _ (by decide +kernel)) ggX6_years_X6_no
set_option maxRecDepth 20000 in
theorem ggX6_years_X6_goes : GoodIn wsX6_years wsX6_goes := goodIn_r _ [14, 15, 16, 17, 4, 18, 19, 20, 1, 21, 22, 23, 24, 25, 26, 27, 28, 29, 30, 31, 32, 33, 34, 35, 36, 37, 38, 39, 40, 41, 42, 43, 44, 45, 46, 47, 48, 49, 50, 51, 52, 53, 54, 55, 56, 57, 58, 59, 60, 61, 62, 63, 64, 65, 66, 67, 68, 69, 70, 71, 72, 73, 74, 75, 76, 77, 78, 79, 80, 81, 82, 83, 84, 85, 93, 94, 95, 96, 97, 98, 99, 100, 101, 102, 103, 104, 105, 106, 107, 108, 109, 110, 111, 112, 113, 114, 115, 116, 117] (by decide +kernel) (by decide +kernel)
set_option maxRecDepth 20000 in
theorem gX6_years_X6_goes : GoodIn wsX6_years (wsV RX6 107 RX6 yX6_goes wsX6_goes) := goodIn_app (goodIn_of _ (by decide +kernel)) ggX6_years_X6_goes
set_option maxRecDepth 20000 in
theorem ggX6_years_X6_believers : GoodIn wsX6_years wsX6_believers := goodIn_r _ [89, 19, 32, 33, 34, 4, 35, 36, 37, 38, 39, 40, 41, 42, 43, 22, 93, 94, 95, 96, 97, 98, 99, 100, 101, 102, 103, 104, 105, 106, 107, 108, 109, 110, 111, 112, 113, 114, 115, 116, 117] (by decide +kernel) (by decide +kernel)
set_option maxRecDepth 20000 in
theorem gX6_years_X6_believers : GoodIn wsX6_years (wsV RX6 202 RX6 yX6_believers wsX6_believers) := goodIn_app (goodIn_of _ (by decide +kernel)) ggX6_years_X6_believers
set_option maxRecDepth 20000 in
theorem ggX6_years_X6_bits : GoodIn wsX6_years wsX6_bits := goodIn_r _ [92] (by decide +kernel) (by decide +kernel)
set_option maxRecDepth 20000 in
theorem gX6_years_X6_bits : GoodIn wsX6_years (va_wsS RX6 205 yX6_bits wsX6_bits) := goodIn_app (goodIn_of _ (by decide +kernel)) ggX6_years_X6_bits
theorem dX6_years_0 : decode cX6_years 0 = .ok (.iload_n 1, 1) := by decide +kernel
theorem dX6_years_1 : decode cX6_years 1 = .ok (.iconst 1, 1) := by decide +kernel
theorem dX6_years_2 : decode cX6_years 2 = .ok (.bipush 60, 2) := by decide +kernel
theorem dX6_years_4 : decode cX6_years 4 = .ok (.invokestatic 66, 3) := by decide +kernel
theorem dX6_years_7 : decode cX6_years 7 = .ok (.istore_n 2, 1) := by decide +kernel
theorem dX6_years_8 : decode cX6_years 8 = .ok (.iload_n 2, 1) := by decide +kernel
theorem dX6_years_9 : decode cX6_years 9 = .ok (.ifCond .ne 18, 3) := by decide +kernel
theorem dX6_years_12 : decode cX6_years 12 = .ok (.aload_n 0, 1) := by decide +kernel
theorem dX6_years_13 : decode cX6_years 13 = .ok (.getfield 104, 3) := by decide +kernel
theorem dX6_years_16 : decode cX6_years 16 = .ok (.iload_n 1, 1) := by decide +kernel
theorem dX6_years_17 : decode cX6_years 17 = .ok (.iadd, 1) := by decide +kernel
theorem dX6_years_18 : decode cX6_years 18 = .ok (.sipush 999, 3) := by decide +kernel
theorem dX6_years_21 : decode cX6_years 21 = .ok (.if_icmp .le 6, 3) := by decide +kernel
theorem dX6_years_24 : decode cX6_years 24 = .ok (.bipush (-6), 2) := by decide +kernel
theorem dX6_years_26 : decode cX6_years 26 = .ok (.istore_n 2, 1) := by decide +kernel
theorem dX6_years_27 : decode cX6_years 27 = .ok (.iload_n 2, 1) := by decide +kernel
theorem dX6_years_28 : decode cX6_years 28 = .ok (.ifCond .eq 9, 3) := by decide +kernel
theorem dX6_years_31 : decode cX6_years 31 = .ok (.aload_n 0, 1) := by decide +kernel
theorem dX6_years_32 : decode cX6_years 32 = .ok (.iload_n 2, 1) := by decide +kernel
theorem dX6_years_33 : decode cX6_years 33 = .ok (.invokevirtual 73, 3) := by decide +kernel
theorem dX6_years_36 : decode cX6_years 36 = .ok (.ireturn, 1) := by decide +kernel
theorem dX6_years_37 : decode cX6_years 37 = .ok (.aload_n 0, 1) := by decide +kernel
theorem dX6_years_38 : decode cX6_years 38 = .ok (.iload_n 1, 1) := by decide +kernel
theorem dX6_years_39 : decode cX6_years 39 = .ok (.invokevirtual 107, 3) := by decide +kernel
theorem dX6_years_42 : decode cX6_years 42 = .ok (.aload_n 0, 1) := by decide +kernel
theorem dX6_years_43 : decode cX6_years 43 = .ok (.invokevirtual 202, 3) := by decide +kernel
theorem dX6_years_46 : decode cX6_years 46 = .ok (.invokestatic 205, 3) := by decide +kernel
theorem dX6_years_49 : decode cX6_years 49 = .ok (.ireturn, 1) := by decide +kernel
set_option maxRecDepth 20000 in
theorem ggX6_notYears_X6_bound : GoodIn wsX6_notYears wsX6_bound := goodIn_r _ [4] (by decide +kernel) (by decide +kernel)
set_option maxRecDepth 20000 in
theorem gX6_notYears_X6_bound : GoodIn wsX6_notYears (va_wsS RX6 66 yX6_bound wsX6_bound) := goodIn_app (goodIn_of _ (by decide +kernel)) ggX6_notYears_X6_bound
theorem dX6_notYears_0 : decode cX6_notYears 0 = .ok (.iload_n 0, 1) := by decide +kernel
theorem dX6_notYears_1 : decode cX6_notYears 1 = .ok (.iconst 0, 1) := by decide +kernel
theorem dX6_notYears_2 : decode cX6_notYears 2 = .ok (.bipush 60, 2) := by decide +kernel
theorem dX6_notYears_4 : decode cX6_notYears 4 = .ok (.invokestatic 66, 3) := by decide +kernel
theorem dX6_notYears_7 : decode cX6_notYears 7 = .ok (.ireturn, 1) := by decide +kernel
set_option maxRecDepth 20000 in
theorem ggX6_behind_X6_isOne : GoodIn wsX6_behind wsX6_isOne := goodIn_r _ [7, 8, 119, 120, 121, 122, 123, 124, 125, 126, 127, 128, 129, 130, 131, 132, 133, 134, 135, 136, 137, 138, 139, 140, 141, 142, 143] (by decide +kernel) (by decide +kernel)
set_option maxRecDepth 20000 in
theorem gX6_behind_X6_isOne : GoodIn wsX6_behind (wsV RX6 118 RX6 yX6_isOne wsX6_isOne) := goodIn_app (goodIn_of _ (by decide +kernel)) ggX6_behind_X6_isOne
set_option maxRecDepth 20000 in
theorem ggX6_behind_X6_notYears : GoodIn wsX6_behind wsX6_notYears := goodIn_r _ [11, 12, 13, 6, 14] (by decide +kernel) (by decide +kernel)
set_option maxRecDepth 20000 in
theorem gX6_behind_X6_notYears : GoodIn wsX6_behind (va_wsS RX6 208 yX6_notYears wsX6_notYears) := goodIn_app (goodIn_of _ (by decide +kernel)) ggX6_behind_X6_notYears
set_option maxRecDepth 20000 in
theorem ggX6_behind_X6_isIn : GoodIn wsX6_behind wsX6_isIn := goodIn_r _ [17] (by decide +kernel) (by decide +kernel)
set_option maxRecDepth 20000 in
theorem gX6_behind_X6_isIn : GoodIn wsX6_behind (va_wsS RX6 84 yX6_isIn wsX6_isIn) := goodIn_app (goodIn_of _ (by decide +kernel)) ggX6_behind_X6_isIn
set_option maxRecDepth 20000 in
theorem ggX6_behind_X6_no : GoodIn wsX6_behind wsX6_no := goodIn_r _ [21, 22, 119, 120, 121, 122, 123, 124, 125, 126, 127, 128, 129, 130, 131, 132, 133, 134, 135, 136, 137, 138, 139, 140, 141, 142, 143] (by decide +kernel) (by decide +kernel)
set_option maxRecDepth 20000 in
theorem gX6_behind_X6_no : GoodIn wsX6_behind (wsV RX6 73 RX6 yX6_no wsX6_no) := goodIn_app (goodIn_of _ (by decide +kernel)) ggX6_behind_X6_no
set_option maxRecDepth 20000 in
theorem ggX6_behind_X6_thinks : GoodIn wsX6_behind wsX6_thinks := goodIn_r _ [26, 27, 28, 29, 6, 30, 31, 32, 33, 34, 35, 2, 1, 8, 36, 37, 38, 39, 40, 41, 42, 43, 44, 45, 119, 120, 121, 122, 123, 124, 125, 126, 127, 128, 129, 130, 131, 132, 133, 134, 135, 136, 137, 138, 139, 140, 141, 142, 143] (by decide +kernel) (by decide +kernel)
set_option maxRecDepth 20000 in
theorem gX6_behind_X6_thinks : GoodIn wsX6_behind (wsV RX6 211 RX6 yX6_thinks wsX6_thinks) := goodIn_app (goodIn_of _ (by decide +kernel)) ggX6_behind_X6_thinks
set_option maxRecDepth 20000 in
theorem ggX6_behind_X6_goes : GoodIn wsX6_behind wsX6_goes := goodIn_r _ [49, 50, 51, 52, 6, 53, 8, 54, 36, 33, 1, 2, 55, 56, 57, 58, 59, 60, 61, 62, 63, 64, 65, 66, 67, 68, 69, 70, 71, 72, 73, 74, 75, 76, 77, 78, 79, 80, 81, 82, 83, 84, 34, 85, 86, 87, 88, 35, 89, 90, 91, 92, 93, 94, 95, 96, 97, 98, 99, 100, 101, 102, 103, 104, 105, 106, 107, 108, 109, 110, 111, 112, 113, 114, 119, 120, 121, 122, 123, 124, 125, 126, 127, 128, 129, 130, 131, 132, 133, 134, 135, 136, 137, 138, 139, 140, 141, 142, 143] (by decide +kernel) (by decide +kernel)
set_option maxRecDepth 20000 in
theorem gX6_behind_X6_goes : GoodIn wsX6_behind (wsV RX6 107 RX6 yX6_goes wsX6_goes) := goodIn_app (goodIn_of _ (by decide +kernel)) ggX6_behind_X6_goes
set_option maxRecDepth 20000 in
theorem ggX6_behind_X6_forgets : GoodIn wsX6_behind wsX6_forgets := goodIn_r _ [118, 27, 28, 29, 6, 30, 31, 32, 33, 34, 35, 2, 1, 8, 36, 37, 38, 39, 40, 41, 42, 43, 44, 45, 119, 120, 121, 122, 123, 124, 125, 126, 127, 128, 129, 130, 131, 132, 133, 134, 135, 136, 137, 138, 139, 140, 141, 142, 143] (by decide +kernel) (by decide +kernel)
set_option maxRecDepth 20000 in
theorem gX6_behind_X6_forgets : GoodIn wsX6_behind (wsV RX6 214 RX6 yX6_forgets wsX6_forgets) := goodIn_app (goodIn_of _ (by decide +kernel)) ggX6_behind_X6_forgets
theorem dX6_behind_0 : decode cX6_behind 0 = .ok (.aload_n 0, 1) := by decide +kernel
theorem dX6_behind_1 : decode cX6_behind 1 = .ok (.iload_n 1, 1) := by decide +kernel
theorem dX6_behind_2 : decode cX6_behind 2 = .ok (.invokevirtual 118, 3) := by decide +kernel
theorem dX6_behind_5 : decode cX6_behind 5 = .ok (.ifCond .ne 7, 3) := by decide +kernel
theorem dX6_behind_8 : decode cX6_behind 8 = .ok (.iconst (-1), 1) := by decide +kernel
theorem dX6_behind_9 : decode cX6_behind 9 = .ok (.goto 7, 3) := by decide +kernel
theorem dX6_behind_12 : decode cX6_behind 12 = .ok (.iload_n 2, 1) := by decide +kernel
theorem dX6_behind_13 : decode cX6_behind 13 = .ok (.invokestatic 208, 3) := by decide +kernel
theorem dX6_behind_16 : decode cX6_behind 16 = .ok (.istore 4, 2) := by decide +kernel
theorem dX6_behind_18 : decode cX6_behind 18 = .ok (.iload 4, 2) := by decide +kernel
theorem dX6_behind_20 : decode cX6_behind 20 = .ok (.ifCond .ne 16, 3) := by decide +kernel
theorem dX6_behind_23 : decode cX6_behind 23 = .ok (.iload_n 3, 1) := by decide +kernel
theorem dX6_behind_24 : decode cX6_behind 24 = .ok (.iconst 0, 1) := by decide +kernel
theorem dX6_behind_25 : decode cX6_behind 25 = .ok (.iconst 1, 1) := by decide +kernel
theorem dX6_behind_26 : decode cX6_behind 26 = .ok (.invokestatic 84, 3) := by decide +kernel
theorem dX6_behind_29 : decode cX6_behind 29 = .ok (.ifCond .ne 7, 3) := by decide +kernel
theorem dX6_behind_32 : decode cX6_behind 32 = .ok (.bipush (-2), 2) := by decide +kernel
theorem dX6_behind_34 : decode cX6_behind 34 = .ok (.istore 4, 2) := by decide +kernel
theorem dX6_behind_36 : decode cX6_behind 36 = .ok (.iload 4, 2) := by decide +kernel
theorem dX6_behind_38 : decode cX6_behind 38 = .ok (.ifCond .eq 10, 3) := by decide +kernel
theorem dX6_behind_41 : decode cX6_behind 41 = .ok (.aload_n 0, 1) := by decide +kernel
theorem dX6_behind_42 : decode cX6_behind 42 = .ok (.iload 4, 2) := by decide +kernel
theorem dX6_behind_44 : decode cX6_behind 44 = .ok (.invokevirtual 73, 3) := by decide +kernel
theorem dX6_behind_47 : decode cX6_behind 47 = .ok (.ireturn, 1) := by decide +kernel
theorem dX6_behind_48 : decode cX6_behind 48 = .ok (.aload_n 0, 1) := by decide +kernel
theorem dX6_behind_49 : decode cX6_behind 49 = .ok (.invokevirtual 211, 3) := by decide +kernel
theorem dX6_behind_52 : decode cX6_behind 52 = .ok (.aload_n 0, 1) := by decide +kernel
theorem dX6_behind_53 : decode cX6_behind 53 = .ok (.iload_n 2, 1) := by decide +kernel
theorem dX6_behind_54 : decode cX6_behind 54 = .ok (.invokevirtual 107, 3) := by decide +kernel
theorem dX6_behind_57 : decode cX6_behind 57 = .ok (.iload_n 3, 1) := by decide +kernel
theorem dX6_behind_58 : decode cX6_behind 58 = .ok (.ifCond .ne 12, 3) := by decide +kernel
theorem dX6_behind_61 : decode cX6_behind 61 = .ok (.aload_n 0, 1) := by decide +kernel
theorem dX6_behind_62 : decode cX6_behind 62 = .ok (.getfield 25, 3) := by decide +kernel
theorem dX6_behind_65 : decode cX6_behind 65 = .ok (.iload_n 1, 1) := by decide +kernel
theorem dX6_behind_66 : decode cX6_behind 66 = .ok (.iaload, 1) := by decide +kernel
theorem dX6_behind_67 : decode cX6_behind 67 = .ok (.goto 9, 3) := by decide +kernel
theorem dX6_behind_70 : decode cX6_behind 70 = .ok (.aload_n 0, 1) := by decide +kernel
theorem dX6_behind_71 : decode cX6_behind 71 = .ok (.getfield 22, 3) := by decide +kernel
theorem dX6_behind_74 : decode cX6_behind 74 = .ok (.iload_n 1, 1) := by decide +kernel
theorem dX6_behind_75 : decode cX6_behind 75 = .ok (.iaload, 1) := by decide +kernel
theorem dX6_behind_76 : decode cX6_behind 76 = .ok (.istore 5, 2) := by decide +kernel
theorem dX6_behind_78 : decode cX6_behind 78 = .ok (.aload_n 0, 1) := by decide +kernel
theorem dX6_behind_79 : decode cX6_behind 79 = .ok (.invokevirtual 214, 3) := by decide +kernel
theorem dX6_behind_82 : decode cX6_behind 82 = .ok (.iload 5, 2) := by decide +kernel
theorem dX6_behind_84 : decode cX6_behind 84 = .ok (.ireturn, 1) := by decide +kernel
set_option maxRecDepth 20000 in
theorem ggX6_believersIn_X6_thinks : GoodIn wsX6_believersIn wsX6_thinks := goodIn_r _ [5, 6, 7, 8, 4, 9, 10, 11, 12, 13, 14, 15, 16, 17, 18, 19, 20, 21, 22, 23, 24, 25, 26, 27, 105, 106, 107, 108, 109, 110, 111, 112, 113, 114, 115, 116, 117, 118, 119, 120, 121, 122, 123, 124, 125, 126, 127, 128, 129] (by decide +kernel) (by decide +kernel)
set_option maxRecDepth 20000 in
theorem gX6_believersIn_X6_thinks : GoodIn wsX6_believersIn (wsV RX6 211 RX6 yX6_thinks wsX6_thinks) := goodIn_app (goodIn_of _ (by decide +kernel)) ggX6_believersIn_X6_thinks
set_option maxRecDepth 20000 in
theorem ggX6_believersIn_X6_goes : GoodIn wsX6_believersIn wsX6_goes := goodIn_r _ [31, 32, 33, 34, 4, 35, 17, 36, 18, 12, 16, 15, 37, 38, 39, 40, 41, 42, 43, 44, 45, 46, 47, 48, 49, 50, 51, 52, 53, 54, 55, 56, 57, 58, 59, 60, 61, 62, 63, 64, 65, 66, 13, 67, 68, 69, 70, 14, 71, 72, 73, 74, 75, 76, 77, 78, 79, 80, 81, 82, 83, 84, 85, 86, 87, 88, 89, 90, 91, 92, 93, 94, 95, 96, 105, 106, 107, 108, 109, 110, 111, 112, 113, 114, 115, 116, 117, 118, 119, 120, 121, 122, 123, 124, 125, 126, 127, 128, 129] (by decide +kernel) (by decide +kernel)
set_option maxRecDepth 20000 in
theorem gX6_believersIn_X6_goes : GoodIn wsX6_believersIn (wsV RX6 107 RX6 yX6_goes wsX6_goes) := goodIn_app (goodIn_of _ (by decide +kernel)) ggX6_believersIn_X6_goes
set_option maxRecDepth 20000 in
theorem ggX6_believersIn_X6_believers : GoodIn wsX6_believersIn wsX6_believers := goodIn_r _ [100, 17, 45, 46, 47, 4, 48, 49, 50, 51, 52, 53, 54, 55, 56, 16, 105, 106, 107, 108, 109, 110, 111, 112, 113, 114, 115, 116, 117, 118, 119, 120, 121, 122, 123, 124, 125, 126, 127, 128, 129] (by decide +kernel) (by decide +kernel)
set_option maxRecDepth 20000 in
theorem gX6_believersIn_X6_believers : GoodIn wsX6_believersIn (wsV RX6 202 RX6 yX6_believers wsX6_believers) := goodIn_app (goodIn_of _ (by decide +kernel)) ggX6_believersIn_X6_believers
set_option maxRecDepth 20000 in
theorem ggX6_believersIn_X6_forgets : GoodIn wsX6_believersIn wsX6_forgets := goodIn_r _ [104, 6, 7, 8, 4, 9, 10, 11, 12, 13, 14, 15, 16, 17, 18, 19, 20, 21, 22, 23, 24, 25, 26, 27, 105, 106, 107, 108, 109, 110, 111, 112, 113, 114, 115, 116, 117, 118, 119, 120, 121, 122, 123, 124, 125, 126, 127, 128, 129] (by decide +kernel) (by decide +kernel)
set_option maxRecDepth 20000 in
theorem gX6_believersIn_X6_forgets : GoodIn wsX6_believersIn (wsV RX6 214 RX6 yX6_forgets wsX6_forgets) := goodIn_app (goodIn_of _ (by decide +kernel)) ggX6_believersIn_X6_forgets
theorem dX6_believersIn_0 : decode cX6_believersIn 0 = .ok (.aload_n 0, 1) := by decide +kernel
theorem dX6_believersIn_1 : decode cX6_believersIn 1 = .ok (.invokevirtual 211, 3) := by decide +kernel
theorem dX6_believersIn_4 : decode cX6_believersIn 4 = .ok (.aload_n 0, 1) := by decide +kernel
theorem dX6_believersIn_5 : decode cX6_believersIn 5 = .ok (.iload_n 1, 1) := by decide +kernel
theorem dX6_believersIn_6 : decode cX6_believersIn 6 = .ok (.invokevirtual 107, 3) := by decide +kernel
theorem dX6_believersIn_9 : decode cX6_believersIn 9 = .ok (.aload_n 0, 1) := by decide +kernel
theorem dX6_believersIn_10 : decode cX6_believersIn 10 = .ok (.invokevirtual 202, 3) := by decide +kernel
theorem dX6_believersIn_13 : decode cX6_believersIn 13 = .ok (.istore_n 2, 1) := by decide +kernel
theorem dX6_believersIn_14 : decode cX6_believersIn 14 = .ok (.aload_n 0, 1) := by decide +kernel
theorem dX6_believersIn_15 : decode cX6_believersIn 15 = .ok (.invokevirtual 214, 3) := by decide +kernel
theorem dX6_believersIn_18 : decode cX6_believersIn 18 = .ok (.iload_n 2, 1) := by decide +kernel
theorem dX6_believersIn_19 : decode cX6_believersIn 19 = .ok (.ireturn, 1) := by decide +kernel
set_option maxRecDepth 20000 in
theorem ggX6_then_X6_notYears : GoodIn wsX6_then wsX6_notYears := goodIn_r _ [4, 5, 6, 3, 7] (by decide +kernel) (by decide +kernel)
set_option maxRecDepth 20000 in
theorem gX6_then_X6_notYears : GoodIn wsX6_then (va_wsS RX6 208 yX6_notYears wsX6_notYears) := goodIn_app (goodIn_of _ (by decide +kernel)) ggX6_then_X6_notYears
set_option maxRecDepth 20000 in
theorem ggX6_then_X6_isIn : GoodIn wsX6_then wsX6_isIn := goodIn_r _ [10] (by decide +kernel) (by decide +kernel)
set_option maxRecDepth 20000 in
theorem gX6_then_X6_isIn : GoodIn wsX6_then (va_wsS RX6 84 yX6_isIn wsX6_isIn) := goodIn_app (goodIn_of _ (by decide +kernel)) ggX6_then_X6_isIn
set_option maxRecDepth 20000 in
theorem ggX6_then_X6_no : GoodIn wsX6_then wsX6_no := goodIn_r _ [14, 15, 126, 127, 128, 129, 130, 131, 132, 133, 134, 135, 136, 137, 138, 139, 140, 141, 142, 143, 144, 145, 146, 147, 148, 149, 150] (by decide +kernel) (by decide +kernel)
set_option maxRecDepth 20000 in
theorem gX6_then_X6_no : GoodIn wsX6_then (wsV RX6 73 RX6 yX6_no wsX6_no) := goodIn_app (goodIn_of _ (by decide +kernel)) ggX6_then_X6_no
set_option maxRecDepth 20000 in
theorem ggX6_then_X6_believersIn : GoodIn wsX6_then wsX6_believersIn := goodIn_r _ [19, 20, 21, 22, 3, 23, 24, 25, 26, 27, 28, 29, 30, 31, 32, 33, 34, 35, 36, 37, 38, 39, 40, 41, 42, 43, 44, 45, 46, 47, 48, 49, 50, 51, 52, 53, 54, 55, 56, 57, 58, 59, 60, 61, 62, 63, 64, 65, 66, 67, 68, 69, 70, 71, 72, 73, 74, 75, 76, 77, 78, 79, 80, 81, 82, 83, 84, 85, 86, 87, 88, 89, 90, 91, 92, 93, 94, 95, 96, 97, 98, 99, 100, 101, 102, 103, 104, 105, 106, 107, 108, 109, 110, 111, 112, 113, 114, 115, 116, 117, 118, 119, 120, 121, 122, 126, 127, 128, 129, 130, 131, 132, 133, 134, 135, 136, 137, 138, 139, 140, 141, 142, 143, 144, 145, 146, 147, 148, 149, 150] (by decide +kernel) (by decide +kernel)
set_option maxRecDepth 20000 in
theorem gX6_then_X6_believersIn : GoodIn wsX6_then (wsV RX6 217 RX6 yX6_believersIn wsX6_believersIn) := goodIn_app (goodIn_of _ (by decide +kernel)) ggX6_then_X6_believersIn
set_option maxRecDepth 20000 in
theorem ggX6_then_X6_bits : GoodIn wsX6_then wsX6_bits := goodIn_r _ [125] (by decide +kernel) (by decide +kernel)
set_option maxRecDepth 20000 in
theorem gX6_then_X6_bits : GoodIn wsX6_then (va_wsS RX6 205 yX6_bits wsX6_bits) := goodIn_app (goodIn_of _ (by decide +kernel)) ggX6_then_X6_bits
set_option maxRecDepth 20000 in
theorem ggX6_then_X6_thinks : GoodIn wsX6_then wsX6_thinks := goodIn_r _ [23, 24, 25, 26, 3, 27, 28, 29, 30, 31, 32, 33, 34, 35, 36, 37, 38, 39, 40, 41, 42, 43, 44, 45, 126, 127, 128, 129, 130, 131, 132, 133, 134, 135, 136, 137, 138, 139, 140, 141, 142, 143, 144, 145, 146, 147, 148, 149, 150] (by decide +kernel) (by decide +kernel)
set_option maxRecDepth 20000 in
theorem gX6_then_X6_thinks : GoodIn wsX6_then (wsV RX6 211 RX6 yX6_thinks wsX6_thinks) := goodIn_app (goodIn_of _ (by decide +kernel)) ggX6_then_X6_thinks
set_option maxRecDepth 20000 in
theorem ggX6_then_X6_goes : GoodIn wsX6_then wsX6_goes := goodIn_r _ [49, 50, 51, 52, 3, 53, 35, 54, 36, 30, 34, 33, 55, 56, 57, 58, 59, 60, 61, 62, 63, 64, 65, 66, 67, 68, 69, 70, 71, 72, 73, 74, 75, 76, 77, 78, 79, 80, 81, 82, 83, 84, 31, 85, 86, 87, 88, 32, 89, 90, 91, 92, 93, 94, 95, 96, 97, 98, 99, 100, 101, 102, 103, 104, 105, 106, 107, 108, 109, 110, 111, 112, 113, 114, 126, 127, 128, 129, 130, 131, 132, 133, 134, 135, 136, 137, 138, 139, 140, 141, 142, 143, 144, 145, 146, 147, 148, 149, 150] (by decide +kernel) (by decide +kernel)
set_option maxRecDepth 20000 in
theorem gX6_then_X6_goes : GoodIn wsX6_then (wsV RX6 107 RX6 yX6_goes wsX6_goes) := goodIn_app (goodIn_of _ (by decide +kernel)) ggX6_then_X6_goes
set_option maxRecDepth 20000 in
theorem ggX6_then_X6_here : GoodIn wsX6_then wsX6_here := goodIn_r _ [58, 30, 126, 127, 128, 129, 130, 131, 132, 133, 134, 135, 136, 137, 138, 139, 140, 141, 142, 143, 144, 145, 146, 147, 148, 149, 150] (by decide +kernel) (by decide +kernel)
set_option maxRecDepth 20000 in
theorem gX6_then_X6_here : GoodIn wsX6_then (wsV RX6 186 RX6 yX6_here wsX6_here) := goodIn_app (goodIn_of _ (by decide +kernel)) ggX6_then_X6_here
set_option maxRecDepth 20000 in
theorem ggX6_then_X6_forgets : GoodIn wsX6_then wsX6_forgets := goodIn_r _ [122, 24, 25, 26, 3, 27, 28, 29, 30, 31, 32, 33, 34, 35, 36, 37, 38, 39, 40, 41, 42, 43, 44, 45, 126, 127, 128, 129, 130, 131, 132, 133, 134, 135, 136, 137, 138, 139, 140, 141, 142, 143, 144, 145, 146, 147, 148, 149, 150] (by decide +kernel) (by decide +kernel)
set_option maxRecDepth 20000 in
theorem gX6_then_X6_forgets : GoodIn wsX6_then (wsV RX6 214 RX6 yX6_forgets wsX6_forgets) := goodIn_app (goodIn_of _ (by decide +kernel)) ggX6_then_X6_forgets
theorem dX6_then_0 : decode cX6_then 0 = .ok (.iload_n 1, 1) := by decide +kernel
theorem dX6_then_1 : decode cX6_then 1 = .ok (.invokestatic 208, 3) := by decide +kernel
theorem dX6_then_4 : decode cX6_then 4 = .ok (.istore_n 3, 1) := by decide +kernel
theorem dX6_then_5 : decode cX6_then 5 = .ok (.iload_n 3, 1) := by decide +kernel
theorem dX6_then_6 : decode cX6_then 6 = .ok (.ifCond .ne 15, 3) := by decide +kernel
theorem dX6_then_9 : decode cX6_then 9 = .ok (.iload_n 2, 1) := by decide +kernel
theorem dX6_then_10 : decode cX6_then 10 = .ok (.iconst 0, 1) := by decide +kernel
theorem dX6_then_11 : decode cX6_then 11 = .ok (.iconst 1, 1) := by decide +kernel
theorem dX6_then_12 : decode cX6_then 12 = .ok (.invokestatic 84, 3) := by decide +kernel
theorem dX6_then_15 : decode cX6_then 15 = .ok (.ifCond .ne 6, 3) := by decide +kernel
theorem dX6_then_18 : decode cX6_then 18 = .ok (.bipush (-2), 2) := by decide +kernel
theorem dX6_then_20 : decode cX6_then 20 = .ok (.istore_n 3, 1) := by decide +kernel
theorem dX6_then_21 : decode cX6_then 21 = .ok (.iload_n 3, 1) := by decide +kernel
theorem dX6_then_22 : decode cX6_then 22 = .ok (.ifCond .eq 9, 3) := by decide +kernel
theorem dX6_then_25 : decode cX6_then 25 = .ok (.aload_n 0, 1) := by decide +kernel
theorem dX6_then_26 : decode cX6_then 26 = .ok (.iload_n 3, 1) := by decide +kernel
theorem dX6_then_27 : decode cX6_then 27 = .ok (.invokevirtual 73, 3) := by decide +kernel
theorem dX6_then_30 : decode cX6_then 30 = .ok (.ireturn, 1) := by decide +kernel
theorem dX6_then_31 : decode cX6_then 31 = .ok (.iload_n 2, 1) := by decide +kernel
theorem dX6_then_32 : decode cX6_then 32 = .ok (.iconst 1, 1) := by decide +kernel
theorem dX6_then_33 : decode cX6_then 33 = .ok (.if_icmp .ne 12, 3) := by decide +kernel
theorem dX6_then_36 : decode cX6_then 36 = .ok (.aload_n 0, 1) := by decide +kernel
theorem dX6_then_37 : decode cX6_then 37 = .ok (.iload_n 1, 1) := by decide +kernel
theorem dX6_then_38 : decode cX6_then 38 = .ok (.invokevirtual 217, 3) := by decide +kernel
theorem dX6_then_41 : decode cX6_then 41 = .ok (.invokestatic 205, 3) := by decide +kernel
theorem dX6_then_44 : decode cX6_then 44 = .ok (.ireturn, 1) := by decide +kernel
theorem dX6_then_45 : decode cX6_then 45 = .ok (.aload_n 0, 1) := by decide +kernel
theorem dX6_then_46 : decode cX6_then 46 = .ok (.invokevirtual 211, 3) := by decide +kernel
theorem dX6_then_49 : decode cX6_then 49 = .ok (.aload_n 0, 1) := by decide +kernel
theorem dX6_then_50 : decode cX6_then 50 = .ok (.iload_n 1, 1) := by decide +kernel
theorem dX6_then_51 : decode cX6_then 51 = .ok (.invokevirtual 107, 3) := by decide +kernel
theorem dX6_then_54 : decode cX6_then 54 = .ok (.aload_n 0, 1) := by decide +kernel
theorem dX6_then_55 : decode cX6_then 55 = .ok (.invokevirtual 186, 3) := by decide +kernel
theorem dX6_then_58 : decode cX6_then 58 = .ok (.istore 4, 2) := by decide +kernel
theorem dX6_then_60 : decode cX6_then 60 = .ok (.aload_n 0, 1) := by decide +kernel
theorem dX6_then_61 : decode cX6_then 61 = .ok (.invokevirtual 214, 3) := by decide +kernel
theorem dX6_then_64 : decode cX6_then 64 = .ok (.iload 4, 2) := by decide +kernel
theorem dX6_then_66 : decode cX6_then 66 = .ok (.ireturn, 1) := by decide +kernel
set_option maxRecDepth 20000 in
theorem ggX6_depthThen_X6_isCell : GoodIn wsX6_depthThen wsX6_isCell := goodIn_r _ [5] (by decide +kernel) (by decide +kernel)
set_option maxRecDepth 20000 in
theorem gX6_depthThen_X6_isCell : GoodIn wsX6_depthThen (va_wsS RX6 111 yX6_isCell wsX6_isCell) := goodIn_app (goodIn_of _ (by decide +kernel)) ggX6_depthThen_X6_isCell
set_option maxRecDepth 20000 in
theorem ggX6_depthThen_X6_notYears : GoodIn wsX6_depthThen wsX6_notYears := goodIn_r _ [8, 9, 10, 4, 11] (by decide +kernel) (by decide +kernel)
set_option maxRecDepth 20000 in
theorem gX6_depthThen_X6_notYears : GoodIn wsX6_depthThen (va_wsS RX6 208 yX6_notYears wsX6_notYears) := goodIn_app (goodIn_of _ (by decide +kernel)) ggX6_depthThen_X6_notYears
set_option maxRecDepth 20000 in
theorem ggX6_depthThen_X6_no : GoodIn wsX6_depthThen wsX6_no := goodIn_r _ [15, 16, 115, 116, 117, 118, 119, 120, 121, 122, 123, 124, 125, 126, 127, 128, 129, 130, 131, 132, 133, 134, 135, 136, 137, 138, 139] (by decide +kernel) (by decide +kernel)
set_option maxRecDepth 20000 in
theorem gX6_depthThen_X6_no : GoodIn wsX6_depthThen (wsV RX6 73 RX6 yX6_no wsX6_no) := goodIn_app (goodIn_of _ (by decide +kernel)) ggX6_depthThen_X6_no
set_option maxRecDepth 20000 in
theorem ggX6_depthThen_X6_thinks : GoodIn wsX6_depthThen wsX6_thinks := goodIn_r _ [20, 21, 22, 23, 4, 24, 25, 26, 1, 27, 28, 29, 30, 31, 32, 33, 34, 35, 36, 37, 38, 39, 40, 41, 115, 116, 117, 118, 119, 120, 121, 122, 123, 124, 125, 126, 127, 128, 129, 130, 131, 132, 133, 134, 135, 136, 137, 138, 139] (by decide +kernel) (by decide +kernel)
set_option maxRecDepth 20000 in
theorem gX6_depthThen_X6_thinks : GoodIn wsX6_depthThen (wsV RX6 211 RX6 yX6_thinks wsX6_thinks) := goodIn_app (goodIn_of _ (by decide +kernel)) ggX6_depthThen_X6_thinks
set_option maxRecDepth 20000 in
theorem ggX6_depthThen_X6_goes : GoodIn wsX6_depthThen wsX6_goes := goodIn_r _ [45, 46, 47, 48, 4, 49, 31, 50, 32, 1, 30, 29, 51, 52, 53, 54, 55, 56, 57, 58, 59, 60, 61, 62, 63, 64, 65, 66, 67, 68, 69, 70, 71, 72, 73, 74, 75, 76, 77, 78, 79, 80, 27, 81, 82, 83, 84, 28, 85, 86, 87, 88, 89, 90, 91, 92, 93, 94, 95, 96, 97, 98, 99, 100, 101, 102, 103, 104, 105, 106, 107, 108, 109, 110, 115, 116, 117, 118, 119, 120, 121, 122, 123, 124, 125, 126, 127, 128, 129, 130, 131, 132, 133, 134, 135, 136, 137, 138, 139] (by decide +kernel) (by decide +kernel)
set_option maxRecDepth 20000 in
theorem gX6_depthThen_X6_goes : GoodIn wsX6_depthThen (wsV RX6 107 RX6 yX6_goes wsX6_goes) := goodIn_app (goodIn_of _ (by decide +kernel)) ggX6_depthThen_X6_goes
set_option maxRecDepth 20000 in
theorem ggX6_depthThen_X6_forgets : GoodIn wsX6_depthThen wsX6_forgets := goodIn_r _ [114, 21, 22, 23, 4, 24, 25, 26, 1, 27, 28, 29, 30, 31, 32, 33, 34, 35, 36, 37, 38, 39, 40, 41, 115, 116, 117, 118, 119, 120, 121, 122, 123, 124, 125, 126, 127, 128, 129, 130, 131, 132, 133, 134, 135, 136, 137, 138, 139] (by decide +kernel) (by decide +kernel)
set_option maxRecDepth 20000 in
theorem gX6_depthThen_X6_forgets : GoodIn wsX6_depthThen (wsV RX6 214 RX6 yX6_forgets wsX6_forgets) := goodIn_app (goodIn_of _ (by decide +kernel)) ggX6_depthThen_X6_forgets
theorem dX6_depthThen_0 : decode cX6_depthThen 0 = .ok (.iload_n 1, 1) := by decide +kernel
theorem dX6_depthThen_1 : decode cX6_depthThen 1 = .ok (.invokestatic 111, 3) := by decide +kernel
theorem dX6_depthThen_4 : decode cX6_depthThen 4 = .ok (.ifCond .ne 7, 3) := by decide +kernel
theorem dX6_depthThen_7 : decode cX6_depthThen 7 = .ok (.iconst (-1), 1) := by decide +kernel
theorem dX6_depthThen_8 : decode cX6_depthThen 8 = .ok (.goto 7, 3) := by decide +kernel
theorem dX6_depthThen_11 : decode cX6_depthThen 11 = .ok (.iload_n 2, 1) := by decide +kernel
theorem dX6_depthThen_12 : decode cX6_depthThen 12 = .ok (.invokestatic 208, 3) := by decide +kernel
theorem dX6_depthThen_15 : decode cX6_depthThen 15 = .ok (.istore_n 3, 1) := by decide +kernel
theorem dX6_depthThen_16 : decode cX6_depthThen 16 = .ok (.iload_n 3, 1) := by decide +kernel
theorem dX6_depthThen_17 : decode cX6_depthThen 17 = .ok (.ifCond .eq 9, 3) := by decide +kernel
theorem dX6_depthThen_20 : decode cX6_depthThen 20 = .ok (.aload_n 0, 1) := by decide +kernel
theorem dX6_depthThen_21 : decode cX6_depthThen 21 = .ok (.iload_n 3, 1) := by decide +kernel
theorem dX6_depthThen_22 : decode cX6_depthThen 22 = .ok (.invokevirtual 73, 3) := by decide +kernel
theorem dX6_depthThen_25 : decode cX6_depthThen 25 = .ok (.ireturn, 1) := by decide +kernel
theorem dX6_depthThen_26 : decode cX6_depthThen 26 = .ok (.aload_n 0, 1) := by decide +kernel
theorem dX6_depthThen_27 : decode cX6_depthThen 27 = .ok (.invokevirtual 211, 3) := by decide +kernel
theorem dX6_depthThen_30 : decode cX6_depthThen 30 = .ok (.aload_n 0, 1) := by decide +kernel
theorem dX6_depthThen_31 : decode cX6_depthThen 31 = .ok (.iload_n 2, 1) := by decide +kernel
theorem dX6_depthThen_32 : decode cX6_depthThen 32 = .ok (.invokevirtual 107, 3) := by decide +kernel
theorem dX6_depthThen_35 : decode cX6_depthThen 35 = .ok (.aload_n 0, 1) := by decide +kernel
theorem dX6_depthThen_36 : decode cX6_depthThen 36 = .ok (.getfield 13, 3) := by decide +kernel
theorem dX6_depthThen_39 : decode cX6_depthThen 39 = .ok (.iload_n 1, 1) := by decide +kernel
theorem dX6_depthThen_40 : decode cX6_depthThen 40 = .ok (.iaload, 1) := by decide +kernel
theorem dX6_depthThen_41 : decode cX6_depthThen 41 = .ok (.istore 4, 2) := by decide +kernel
theorem dX6_depthThen_43 : decode cX6_depthThen 43 = .ok (.aload_n 0, 1) := by decide +kernel
theorem dX6_depthThen_44 : decode cX6_depthThen 44 = .ok (.invokevirtual 214, 3) := by decide +kernel
theorem dX6_depthThen_47 : decode cX6_depthThen 47 = .ok (.iload 4, 2) := by decide +kernel
theorem dX6_depthThen_49 : decode cX6_depthThen 49 = .ok (.ireturn, 1) := by decide +kernel
set_option maxRecDepth 20000 in
theorem ggX6_isSettled_X6_here : GoodIn wsX6_isSettled wsX6_here := goodIn_r _ [8, 9, 61, 62, 63, 64, 65, 66, 67, 68, 69, 70, 71, 72, 73, 74, 75, 76, 77, 78, 79, 80, 81, 82, 83, 84, 85] (by decide +kernel) (by decide +kernel)
set_option maxRecDepth 20000 in
theorem gX6_isSettled_X6_here : GoodIn wsX6_isSettled (wsV RX6 186 RX6 yX6_here wsX6_here) := goodIn_app (goodIn_of _ (by decide +kernel)) ggX6_isSettled_X6_here
set_option maxRecDepth 20000 in
theorem ggX6_isSettled_X6_nextBelief : GoodIn wsX6_isSettled wsX6_nextBelief := goodIn_r _ [13, 14, 2, 15, 16, 17, 7, 18, 3, 19, 20, 21, 22, 23, 24, 25, 26, 27, 1, 28, 29, 30, 31, 32, 33, 34, 35, 36, 37, 38, 39, 40, 41, 42, 43, 44, 45, 46, 47, 48, 49, 50, 51, 52, 53, 54, 55, 56, 57, 58, 59, 60, 61, 62, 63, 64, 65, 66, 67, 68, 69, 70, 71, 72, 73, 74, 75, 76, 77, 78, 79, 80, 81, 82, 83, 84, 85] (by decide +kernel) (by decide +kernel)
set_option maxRecDepth 20000 in
theorem gX6_isSettled_X6_nextBelief : GoodIn wsX6_isSettled (wsV RX6 192 RX6 yX6_nextBelief wsX6_nextBelief) := goodIn_app (goodIn_of _ (by decide +kernel)) ggX6_isSettled_X6_nextBelief
theorem dX6_isSettled_0 : decode cX6_isSettled 0 = .ok (.aload_n 0, 1) := by decide +kernel
theorem dX6_isSettled_1 : decode cX6_isSettled 1 = .ok (.invokevirtual 186, 3) := by decide +kernel
theorem dX6_isSettled_4 : decode cX6_isSettled 4 = .ok (.istore_n 1, 1) := by decide +kernel
theorem dX6_isSettled_5 : decode cX6_isSettled 5 = .ok (.iconst 0, 1) := by decide +kernel
theorem dX6_isSettled_6 : decode cX6_isSettled 6 = .ok (.istore_n 2, 1) := by decide +kernel
theorem dX6_isSettled_7 : decode cX6_isSettled 7 = .ok (.iload_n 2, 1) := by decide +kernel
theorem dX6_isSettled_8 : decode cX6_isSettled 8 = .ok (.aload_n 0, 1) := by decide +kernel
theorem dX6_isSettled_9 : decode cX6_isSettled 9 = .ok (.getfield 52, 3) := by decide +kernel
theorem dX6_isSettled_12 : decode cX6_isSettled 12 = .ok (.if_icmp .ge 43, 3) := by decide +kernel
theorem dX6_isSettled_15 : decode cX6_isSettled 15 = .ok (.aload_n 0, 1) := by decide +kernel
theorem dX6_isSettled_16 : decode cX6_isSettled 16 = .ok (.iload_n 2, 1) := by decide +kernel
theorem dX6_isSettled_17 : decode cX6_isSettled 17 = .ok (.iload_n 1, 1) := by decide +kernel
theorem dX6_isSettled_18 : decode cX6_isSettled 18 = .ok (.invokevirtual 192, 3) := by decide +kernel
theorem dX6_isSettled_21 : decode cX6_isSettled 21 = .ok (.istore_n 3, 1) := by decide +kernel
theorem dX6_isSettled_22 : decode cX6_isSettled 22 = .ok (.iload_n 3, 1) := by decide +kernel
theorem dX6_isSettled_23 : decode cX6_isSettled 23 = .ok (.aload_n 0, 1) := by decide +kernel
theorem dX6_isSettled_24 : decode cX6_isSettled 24 = .ok (.getfield 25, 3) := by decide +kernel
theorem dX6_isSettled_27 : decode cX6_isSettled 27 = .ok (.iload_n 2, 1) := by decide +kernel
theorem dX6_isSettled_28 : decode cX6_isSettled 28 = .ok (.iaload, 1) := by decide +kernel
theorem dX6_isSettled_29 : decode cX6_isSettled 29 = .ok (.if_icmp .ne 18, 3) := by decide +kernel
theorem dX6_isSettled_32 : decode cX6_isSettled 32 = .ok (.iload_n 3, 1) := by decide +kernel
theorem dX6_isSettled_33 : decode cX6_isSettled 33 = .ok (.iconst 5, 1) := by decide +kernel
theorem dX6_isSettled_34 : decode cX6_isSettled 34 = .ok (.if_icmp .lt 15, 3) := by decide +kernel
theorem dX6_isSettled_37 : decode cX6_isSettled 37 = .ok (.aload_n 0, 1) := by decide +kernel
theorem dX6_isSettled_38 : decode cX6_isSettled 38 = .ok (.getfield 22, 3) := by decide +kernel
theorem dX6_isSettled_41 : decode cX6_isSettled 41 = .ok (.iload_n 2, 1) := by decide +kernel
theorem dX6_isSettled_42 : decode cX6_isSettled 42 = .ok (.iaload, 1) := by decide +kernel
theorem dX6_isSettled_43 : decode cX6_isSettled 43 = .ok (.iload_n 1, 1) := by decide +kernel
theorem dX6_isSettled_44 : decode cX6_isSettled 44 = .ok (.if_icmp .eq 5, 3) := by decide +kernel
theorem dX6_isSettled_47 : decode cX6_isSettled 47 = .ok (.iconst 0, 1) := by decide +kernel
theorem dX6_isSettled_48 : decode cX6_isSettled 48 = .ok (.ireturn, 1) := by decide +kernel
theorem dX6_isSettled_49 : decode cX6_isSettled 49 = .ok (.iinc 2 1, 3) := by decide +kernel
theorem dX6_isSettled_52 : decode cX6_isSettled 52 = .ok (.goto (-45), 3) := by decide +kernel
theorem dX6_isSettled_55 : decode cX6_isSettled 55 = .ok (.iconst 1, 1) := by decide +kernel
theorem dX6_isSettled_56 : decode cX6_isSettled 56 = .ok (.ireturn, 1) := by decide +kernel
set_option maxRecDepth 20000 in
theorem ggX6_isFirst_X6_believers : GoodIn wsX6_isFirst wsX6_believers := goodIn_r _ [5, 6, 7, 8, 9, 4, 10, 11, 12, 13, 14, 15, 16, 17, 18, 19, 73, 74, 75, 76, 77, 78, 79, 80, 81, 82, 83, 84, 85, 86, 87, 88, 89, 90, 91, 92, 93, 94, 95, 96, 97] (by decide +kernel) (by decide +kernel)
set_option maxRecDepth 20000 in
theorem gX6_isFirst_X6_believers : GoodIn wsX6_isFirst (wsV RX6 202 RX6 yX6_believers wsX6_believers) := goodIn_app (goodIn_of _ (by decide +kernel)) ggX6_isFirst_X6_believers
set_option maxRecDepth 20000 in
theorem ggX6_isFirst_X6_everybody : GoodIn wsX6_isFirst wsX6_everybody := goodIn_r _ [23, 6, 73, 74, 75, 76, 77, 78, 79, 80, 81, 82, 83, 84, 85, 86, 87, 88, 89, 90, 91, 92, 93, 94, 95, 96, 97] (by decide +kernel) (by decide +kernel)
set_option maxRecDepth 20000 in
theorem gX6_isFirst_X6_everybody : GoodIn wsX6_isFirst (wsV RX6 220 RX6 yX6_everybody wsX6_everybody) := goodIn_app (goodIn_of _ (by decide +kernel)) ggX6_isFirst_X6_everybody
set_option maxRecDepth 20000 in
theorem ggX6_isFirst_X6_isSettled : GoodIn wsX6_isFirst wsX6_isSettled := goodIn_r _ [27, 6, 19, 28, 29, 30, 31, 4, 32, 33, 34, 35, 36, 37, 38, 39, 40, 41, 42, 43, 44, 45, 46, 47, 48, 49, 50, 51, 52, 53, 54, 55, 7, 8, 9, 10, 11, 12, 13, 14, 56, 57, 58, 59, 60, 61, 15, 16, 17, 18, 62, 63, 64, 65, 66, 67, 68, 69, 70, 71, 72, 73, 74, 75, 76, 77, 78, 79, 80, 81, 82, 83, 84, 85, 86, 87, 88, 89, 90, 91, 92, 93, 94, 95, 96, 97] (by decide +kernel) (by decide +kernel)
set_option maxRecDepth 20000 in
theorem gX6_isFirst_X6_isSettled : GoodIn wsX6_isFirst (wsV RX6 223 RX6 yX6_isSettled wsX6_isSettled) := goodIn_app (goodIn_of _ (by decide +kernel)) ggX6_isFirst_X6_isSettled
set_option maxRecDepth 20000 in
theorem ggX6_isFirst_X6_here : GoodIn wsX6_isFirst wsX6_here := goodIn_r _ [32, 33, 73, 74, 75, 76, 77, 78, 79, 80, 81, 82, 83, 84, 85, 86, 87, 88, 89, 90, 91, 92, 93, 94, 95, 96, 97] (by decide +kernel) (by decide +kernel)
set_option maxRecDepth 20000 in
theorem gX6_isFirst_X6_here : GoodIn wsX6_isFirst (wsV RX6 186 RX6 yX6_here wsX6_here) := goodIn_app (goodIn_of _ (by decide +kernel)) ggX6_isFirst_X6_here
theorem dX6_isFirst_0 : decode cX6_isFirst 0 = .ok (.iload_n 1, 1) := by decide +kernel
theorem dX6_isFirst_1 : decode cX6_isFirst 1 = .ok (.tableswitch 62 0 2 #[27, 44, 57], 27) := by decide +kernel
theorem dX6_isFirst_28 : decode cX6_isFirst 28 = .ok (.aload_n 0, 1) := by decide +kernel
theorem dX6_isFirst_29 : decode cX6_isFirst 29 = .ok (.invokevirtual 202, 3) := by decide +kernel
theorem dX6_isFirst_32 : decode cX6_isFirst 32 = .ok (.aload_n 0, 1) := by decide +kernel
theorem dX6_isFirst_33 : decode cX6_isFirst 33 = .ok (.invokevirtual 220, 3) := by decide +kernel
theorem dX6_isFirst_36 : decode cX6_isFirst 36 = .ok (.if_icmp .ne 7, 3) := by decide +kernel
theorem dX6_isFirst_39 : decode cX6_isFirst 39 = .ok (.iconst 1, 1) := by decide +kernel
theorem dX6_isFirst_40 : decode cX6_isFirst 40 = .ok (.goto 4, 3) := by decide +kernel
theorem dX6_isFirst_43 : decode cX6_isFirst 43 = .ok (.iconst 0, 1) := by decide +kernel
theorem dX6_isFirst_44 : decode cX6_isFirst 44 = .ok (.ireturn, 1) := by decide +kernel
theorem dX6_isFirst_45 : decode cX6_isFirst 45 = .ok (.aload_n 0, 1) := by decide +kernel
theorem dX6_isFirst_46 : decode cX6_isFirst 46 = .ok (.invokevirtual 202, 3) := by decide +kernel
theorem dX6_isFirst_49 : decode cX6_isFirst 49 = .ok (.ifCond .ne 7, 3) := by decide +kernel
theorem dX6_isFirst_52 : decode cX6_isFirst 52 = .ok (.iconst 1, 1) := by decide +kernel
theorem dX6_isFirst_53 : decode cX6_isFirst 53 = .ok (.goto 4, 3) := by decide +kernel
theorem dX6_isFirst_56 : decode cX6_isFirst 56 = .ok (.iconst 0, 1) := by decide +kernel
theorem dX6_isFirst_57 : decode cX6_isFirst 57 = .ok (.ireturn, 1) := by decide +kernel
theorem dX6_isFirst_58 : decode cX6_isFirst 58 = .ok (.aload_n 0, 1) := by decide +kernel
theorem dX6_isFirst_59 : decode cX6_isFirst 59 = .ok (.invokevirtual 223, 3) := by decide +kernel
theorem dX6_isFirst_62 : decode cX6_isFirst 62 = .ok (.ireturn, 1) := by decide +kernel
theorem dX6_isFirst_63 : decode cX6_isFirst 63 = .ok (.aload_n 0, 1) := by decide +kernel
theorem dX6_isFirst_64 : decode cX6_isFirst 64 = .ok (.invokevirtual 186, 3) := by decide +kernel
theorem dX6_isFirst_67 : decode cX6_isFirst 67 = .ok (.iload_n 2, 1) := by decide +kernel
theorem dX6_isFirst_68 : decode cX6_isFirst 68 = .ok (.if_icmp .eq 7, 3) := by decide +kernel
theorem dX6_isFirst_71 : decode cX6_isFirst 71 = .ok (.iconst 1, 1) := by decide +kernel
theorem dX6_isFirst_72 : decode cX6_isFirst 72 = .ok (.goto 4, 3) := by decide +kernel
theorem dX6_isFirst_75 : decode cX6_isFirst 75 = .ok (.iconst 0, 1) := by decide +kernel
theorem dX6_isFirst_76 : decode cX6_isFirst 76 = .ok (.ireturn, 1) := by decide +kernel
set_option maxRecDepth 20000 in
theorem ggX6_first_X6_isIn : GoodIn wsX6_first wsX6_isIn := goodIn_r _ [4] (by decide +kernel) (by decide +kernel)
set_option maxRecDepth 20000 in
theorem gX6_first_X6_isIn : GoodIn wsX6_first (va_wsS RX6 84 yX6_isIn wsX6_isIn) := goodIn_app (goodIn_of _ (by decide +kernel)) ggX6_first_X6_isIn
set_option maxRecDepth 20000 in
theorem ggX6_first_X6_no : GoodIn wsX6_first wsX6_no := goodIn_r _ [8, 9, 121, 122, 123, 124, 125, 126, 127, 128, 129, 130, 131, 132, 133, 134, 135, 136, 137, 138, 139, 140, 141, 142, 143, 144, 145] (by decide +kernel) (by decide +kernel)
set_option maxRecDepth 20000 in
theorem gX6_first_X6_no : GoodIn wsX6_first (wsV RX6 73 RX6 yX6_no wsX6_no) := goodIn_app (goodIn_of _ (by decide +kernel)) ggX6_first_X6_no
set_option maxRecDepth 20000 in
theorem ggX6_first_X6_here : GoodIn wsX6_first wsX6_here := goodIn_r _ [13, 14, 121, 122, 123, 124, 125, 126, 127, 128, 129, 130, 131, 132, 133, 134, 135, 136, 137, 138, 139, 140, 141, 142, 143, 144, 145] (by decide +kernel) (by decide +kernel)
set_option maxRecDepth 20000 in
theorem gX6_first_X6_here : GoodIn wsX6_first (wsV RX6 186 RX6 yX6_here wsX6_here) := goodIn_app (goodIn_of _ (by decide +kernel)) ggX6_first_X6_here
set_option maxRecDepth 20000 in
theorem ggX6_first_X6_thinks : GoodIn wsX6_first wsX6_thinks := goodIn_r _ [18, 19, 20, 21, 3, 22, 23, 24, 14, 25, 26, 27, 28, 29, 30, 31, 32, 33, 34, 35, 36, 37, 38, 39, 121, 122, 123, 124, 125, 126, 127, 128, 129, 130, 131, 132, 133, 134, 135, 136, 137, 138, 139, 140, 141, 142, 143, 144, 145] (by decide +kernel) (by decide +kernel)
set_option maxRecDepth 20000 in
theorem gX6_first_X6_thinks : GoodIn wsX6_first (wsV RX6 211 RX6 yX6_thinks wsX6_thinks) := goodIn_app (goodIn_of _ (by decide +kernel)) ggX6_first_X6_thinks
set_option maxRecDepth 20000 in
theorem ggX6_first_X6_isFirst : GoodIn wsX6_first wsX6_isFirst := goodIn_r _ [43, 44, 45, 46, 3, 47, 29, 48, 49, 50, 51, 52, 53, 54, 55, 56, 57, 58, 59, 28, 60, 61, 62, 63, 64, 65, 66, 67, 27, 10, 11, 12, 13, 14, 68, 69, 70, 71, 25, 72, 73, 74, 75, 26, 76, 77, 78, 79, 80, 81, 82, 83, 84, 85, 86, 87, 88, 89, 90, 91, 92, 93, 94, 95, 96, 97, 98, 99, 100, 101, 102, 103, 104, 121, 122, 123, 124, 125, 126, 127, 128, 129, 130, 131, 132, 133, 134, 135, 136, 137, 138, 139, 140, 141, 142, 143, 144, 145] (by decide +kernel) (by decide +kernel)
set_option maxRecDepth 20000 in
theorem gX6_first_X6_isFirst : GoodIn wsX6_first (wsV RX6 226 RX6 yX6_isFirst wsX6_isFirst) := goodIn_app (goodIn_of _ (by decide +kernel)) ggX6_first_X6_isFirst
set_option maxRecDepth 20000 in
theorem ggX6_first_X6_goesYear : GoodIn wsX6_first wsX6_goesYear := goodIn_r _ [108, 29, 109, 30, 14, 28, 27, 10, 11, 12, 3, 13, 110, 111, 112, 113, 48, 49, 50, 51, 52, 53, 54, 55, 56, 57, 58, 59, 88, 89, 90, 91, 92, 93, 68, 69, 70, 71, 25, 72, 73, 74, 75, 26, 76, 77, 78, 79, 80, 81, 82, 83, 84, 85, 86, 87, 94, 95, 96, 97, 98, 99, 100, 101, 102, 103, 104, 114, 115, 116, 121, 122, 123, 124, 125, 126, 127, 128, 129, 130, 131, 132, 133, 134, 135, 136, 137, 138, 139, 140, 141, 142, 143, 144, 145] (by decide +kernel) (by decide +kernel)
set_option maxRecDepth 20000 in
theorem gX6_first_X6_goesYear : GoodIn wsX6_first (wsV RX6 198 RX6 yX6_goesYear wsX6_goesYear) := goodIn_app (goodIn_of _ (by decide +kernel)) ggX6_first_X6_goesYear
set_option maxRecDepth 20000 in
theorem ggX6_first_X6_forgets : GoodIn wsX6_first wsX6_forgets := goodIn_r _ [120, 19, 20, 21, 3, 22, 23, 24, 14, 25, 26, 27, 28, 29, 30, 31, 32, 33, 34, 35, 36, 37, 38, 39, 121, 122, 123, 124, 125, 126, 127, 128, 129, 130, 131, 132, 133, 134, 135, 136, 137, 138, 139, 140, 141, 142, 143, 144, 145] (by decide +kernel) (by decide +kernel)
set_option maxRecDepth 20000 in
theorem gX6_first_X6_forgets : GoodIn wsX6_first (wsV RX6 214 RX6 yX6_forgets wsX6_forgets) := goodIn_app (goodIn_of _ (by decide +kernel)) ggX6_first_X6_forgets
theorem dX6_first_0 : decode cX6_first 0 = .ok (.iload_n 1, 1) := by decide +kernel
theorem dX6_first_1 : decode cX6_first 1 = .ok (.iconst 0, 1) := by decide +kernel
theorem dX6_first_2 : decode cX6_first 2 = .ok (.iconst 3, 1) := by decide +kernel
theorem dX6_first_3 : decode cX6_first 3 = .ok (.invokestatic 84, 3) := by decide +kernel
theorem dX6_first_6 : decode cX6_first 6 = .ok (.ifCond .ne 10, 3) := by decide +kernel
theorem dX6_first_9 : decode cX6_first 9 = .ok (.aload_n 0, 1) := by decide +kernel
theorem dX6_first_10 : decode cX6_first 10 = .ok (.bipush (-2), 2) := by decide +kernel
theorem dX6_first_12 : decode cX6_first 12 = .ok (.invokevirtual 73, 3) := by decide +kernel
theorem dX6_first_15 : decode cX6_first 15 = .ok (.ireturn, 1) := by decide +kernel
theorem dX6_first_16 : decode cX6_first 16 = .ok (.aload_n 0, 1) := by decide +kernel
theorem dX6_first_17 : decode cX6_first 17 = .ok (.invokevirtual 186, 3) := by decide +kernel
theorem dX6_first_20 : decode cX6_first 20 = .ok (.istore_n 2, 1) := by decide +kernel
theorem dX6_first_21 : decode cX6_first 21 = .ok (.aload_n 0, 1) := by decide +kernel
theorem dX6_first_22 : decode cX6_first 22 = .ok (.invokevirtual 211, 3) := by decide +kernel
theorem dX6_first_25 : decode cX6_first 25 = .ok (.bipush (-9), 2) := by decide +kernel
theorem dX6_first_27 : decode cX6_first 27 = .ok (.istore_n 3, 1) := by decide +kernel
theorem dX6_first_28 : decode cX6_first 28 = .ok (.iconst 0, 1) := by decide +kernel
theorem dX6_first_29 : decode cX6_first 29 = .ok (.istore 4, 2) := by decide +kernel
theorem dX6_first_31 : decode cX6_first 31 = .ok (.iload 4, 2) := by decide +kernel
theorem dX6_first_33 : decode cX6_first 33 = .ok (.bipush 60, 2) := by decide +kernel
theorem dX6_first_35 : decode cX6_first 35 = .ok (.if_icmp .gt 35, 3) := by decide +kernel
theorem dX6_first_38 : decode cX6_first 38 = .ok (.iload_n 3, 1) := by decide +kernel
theorem dX6_first_39 : decode cX6_first 39 = .ok (.ifCond .ge 31, 3) := by decide +kernel
theorem dX6_first_42 : decode cX6_first 42 = .ok (.aload_n 0, 1) := by decide +kernel
theorem dX6_first_43 : decode cX6_first 43 = .ok (.iload_n 1, 1) := by decide +kernel
theorem dX6_first_44 : decode cX6_first 44 = .ok (.iload_n 2, 1) := by decide +kernel
theorem dX6_first_45 : decode cX6_first 45 = .ok (.invokevirtual 226, 3) := by decide +kernel
theorem dX6_first_48 : decode cX6_first 48 = .ok (.ifCond .eq 8, 3) := by decide +kernel
theorem dX6_first_51 : decode cX6_first 51 = .ok (.iload 4, 2) := by decide +kernel
theorem dX6_first_53 : decode cX6_first 53 = .ok (.goto 5, 3) := by decide +kernel
theorem dX6_first_56 : decode cX6_first 56 = .ok (.bipush (-9), 2) := by decide +kernel
theorem dX6_first_58 : decode cX6_first 58 = .ok (.istore_n 3, 1) := by decide +kernel
theorem dX6_first_59 : decode cX6_first 59 = .ok (.aload_n 0, 1) := by decide +kernel
theorem dX6_first_60 : decode cX6_first 60 = .ok (.iconst 0, 1) := by decide +kernel
theorem dX6_first_61 : decode cX6_first 61 = .ok (.invokevirtual 198, 3) := by decide +kernel
theorem dX6_first_64 : decode cX6_first 64 = .ok (.iinc 4 1, 3) := by decide +kernel
theorem dX6_first_67 : decode cX6_first 67 = .ok (.goto (-36), 3) := by decide +kernel
theorem dX6_first_70 : decode cX6_first 70 = .ok (.aload_n 0, 1) := by decide +kernel
theorem dX6_first_71 : decode cX6_first 71 = .ok (.invokevirtual 214, 3) := by decide +kernel
theorem dX6_first_74 : decode cX6_first 74 = .ok (.iload_n 3, 1) := by decide +kernel
theorem dX6_first_75 : decode cX6_first 75 = .ok (.ireturn, 1) := by decide +kernel
set_option maxRecDepth 20000 in
theorem ggX6_notShort_X6_bound : GoodIn wsX6_notShort wsX6_bound := goodIn_r _ [4] (by decide +kernel) (by decide +kernel)
set_option maxRecDepth 20000 in
theorem gX6_notShort_X6_bound : GoodIn wsX6_notShort (va_wsS RX6 66 yX6_bound wsX6_bound) := goodIn_app (goodIn_of _ (by decide +kernel)) ggX6_notShort_X6_bound
theorem dX6_notShort_0 : decode cX6_notShort 0 = .ok (.iload_n 0, 1) := by decide +kernel
theorem dX6_notShort_1 : decode cX6_notShort 1 = .ok (.iconst 0, 1) := by decide +kernel
theorem dX6_notShort_2 : decode cX6_notShort 2 = .ok (.bipush 20, 2) := by decide +kernel
theorem dX6_notShort_4 : decode cX6_notShort 4 = .ok (.invokestatic 66, 3) := by decide +kernel
theorem dX6_notShort_7 : decode cX6_notShort 7 = .ok (.ireturn, 1) := by decide +kernel
set_option maxRecDepth 20000 in
theorem ggX6_believersIf_X6_passesAll : GoodIn wsX6_believersIf wsX6_passesAll := goodIn_r _ [7, 8, 9, 10, 11, 12, 13, 2, 1, 14, 15, 16, 17, 6, 18, 19, 20, 21, 22, 23, 109, 110, 111, 112, 113, 114, 115, 116, 117, 118, 119, 120, 121, 122, 123, 124, 125, 126, 127, 128, 129, 130, 131, 132, 133] (by decide +kernel) (by decide +kernel)
set_option maxRecDepth 20000 in
theorem gX6_believersIf_X6_passesAll : GoodIn wsX6_believersIf (wsV RX6 128 RX6 yX6_passesAll wsX6_passesAll) := goodIn_app (goodIn_of _ (by decide +kernel)) ggX6_believersIf_X6_passesAll
set_option maxRecDepth 20000 in
theorem ggX6_believersIf_X6_has : GoodIn wsX6_believersIf wsX6_has := goodIn_r _ [26] (by decide +kernel) (by decide +kernel)
set_option maxRecDepth 20000 in
theorem gX6_believersIf_X6_has : GoodIn wsX6_believersIf (va_wsS RX6 62 yX6_has wsX6_has) := goodIn_app (goodIn_of _ (by decide +kernel)) ggX6_believersIf_X6_has
set_option maxRecDepth 20000 in
theorem ggX6_believersIf_X6_believersIn : GoodIn wsX6_believersIf wsX6_believersIn := goodIn_r _ [30, 31, 32, 33, 6, 34, 3, 4, 5, 7, 8, 9, 10, 11, 12, 13, 2, 1, 14, 15, 16, 17, 18, 19, 20, 21, 22, 23, 35, 36, 37, 38, 39, 40, 41, 42, 43, 44, 45, 46, 47, 48, 49, 50, 51, 52, 53, 54, 55, 56, 24, 25, 26, 57, 58, 59, 60, 61, 62, 63, 64, 65, 66, 67, 68, 69, 70, 71, 72, 73, 74, 75, 76, 77, 78, 79, 80, 81, 82, 83, 84, 85, 86, 87, 88, 89, 90, 91, 92, 93, 94, 95, 96, 97, 98, 99, 100, 101, 102, 103, 104, 105, 106, 107, 108, 109, 110, 111, 112, 113, 114, 115, 116, 117, 118, 119, 120, 121, 122, 123, 124, 125, 126, 127, 128, 129, 130, 131, 132, 133] (by decide +kernel) (by decide +kernel)
set_option maxRecDepth 20000 in
theorem gX6_believersIf_X6_believersIn : GoodIn wsX6_believersIf (wsV RX6 217 RX6 yX6_believersIn wsX6_believersIn) := goodIn_app (goodIn_of _ (by decide +kernel)) ggX6_believersIf_X6_believersIn
theorem dX6_believersIf_0 : decode cX6_believersIf 0 = .ok (.aload_n 0, 1) := by decide +kernel
theorem dX6_believersIf_1 : decode cX6_believersIf 1 = .ok (.iconst 1, 1) := by decide +kernel
theorem dX6_believersIf_2 : decode cX6_believersIf 2 = .ok (.iconst 1, 1) := by decide +kernel
theorem dX6_believersIf_3 : decode cX6_believersIf 3 = .ok (.invokevirtual 128, 3) := by decide +kernel
theorem dX6_believersIf_6 : decode cX6_believersIf 6 = .ok (.iconst 0, 1) := by decide +kernel
theorem dX6_believersIf_7 : decode cX6_believersIf 7 = .ok (.istore_n 3, 1) := by decide +kernel
theorem dX6_believersIf_8 : decode cX6_believersIf 8 = .ok (.iload_n 3, 1) := by decide +kernel
theorem dX6_believersIf_9 : decode cX6_believersIf 9 = .ok (.aload_n 0, 1) := by decide +kernel
theorem dX6_believersIf_10 : decode cX6_believersIf 10 = .ok (.getfield 52, 3) := by decide +kernel
theorem dX6_believersIf_13 : decode cX6_believersIf 13 = .ok (.if_icmp .ge 34, 3) := by decide +kernel
theorem dX6_believersIf_16 : decode cX6_believersIf 16 = .ok (.aload_n 0, 1) := by decide +kernel
theorem dX6_believersIf_17 : decode cX6_believersIf 17 = .ok (.getfield 25, 3) := by decide +kernel
theorem dX6_believersIf_20 : decode cX6_believersIf 20 = .ok (.iload_n 3, 1) := by decide +kernel
theorem dX6_believersIf_21 : decode cX6_believersIf 21 = .ok (.iload_n 1, 1) := by decide +kernel
theorem dX6_believersIf_22 : decode cX6_believersIf 22 = .ok (.iload_n 3, 1) := by decide +kernel
theorem dX6_believersIf_23 : decode cX6_believersIf 23 = .ok (.invokestatic 62, 3) := by decide +kernel
theorem dX6_believersIf_26 : decode cX6_believersIf 26 = .ok (.ifCond .eq 8, 3) := by decide +kernel
theorem dX6_believersIf_29 : decode cX6_believersIf 29 = .ok (.bipush 9, 2) := by decide +kernel
theorem dX6_believersIf_31 : decode cX6_believersIf 31 = .ok (.goto 9, 3) := by decide +kernel
theorem dX6_believersIf_34 : decode cX6_believersIf 34 = .ok (.aload_n 0, 1) := by decide +kernel
theorem dX6_believersIf_35 : decode cX6_believersIf 35 = .ok (.getfield 25, 3) := by decide +kernel
theorem dX6_believersIf_38 : decode cX6_believersIf 38 = .ok (.iload_n 3, 1) := by decide +kernel
theorem dX6_believersIf_39 : decode cX6_believersIf 39 = .ok (.iaload, 1) := by decide +kernel
theorem dX6_believersIf_40 : decode cX6_believersIf 40 = .ok (.iastore, 1) := by decide +kernel
theorem dX6_believersIf_41 : decode cX6_believersIf 41 = .ok (.iinc 3 1, 3) := by decide +kernel
theorem dX6_believersIf_44 : decode cX6_believersIf 44 = .ok (.goto (-36), 3) := by decide +kernel
theorem dX6_believersIf_47 : decode cX6_believersIf 47 = .ok (.aload_n 0, 1) := by decide +kernel
theorem dX6_believersIf_48 : decode cX6_believersIf 48 = .ok (.iload_n 2, 1) := by decide +kernel
theorem dX6_believersIf_49 : decode cX6_believersIf 49 = .ok (.invokevirtual 217, 3) := by decide +kernel
theorem dX6_believersIf_52 : decode cX6_believersIf 52 = .ok (.istore_n 3, 1) := by decide +kernel
theorem dX6_believersIf_53 : decode cX6_believersIf 53 = .ok (.aload_n 0, 1) := by decide +kernel
theorem dX6_believersIf_54 : decode cX6_believersIf 54 = .ok (.iconst 1, 1) := by decide +kernel
theorem dX6_believersIf_55 : decode cX6_believersIf 55 = .ok (.iconst 0, 1) := by decide +kernel
theorem dX6_believersIf_56 : decode cX6_believersIf 56 = .ok (.invokevirtual 128, 3) := by decide +kernel
theorem dX6_believersIf_59 : decode cX6_believersIf 59 = .ok (.iload_n 3, 1) := by decide +kernel
theorem dX6_believersIf_60 : decode cX6_believersIf 60 = .ok (.ireturn, 1) := by decide +kernel
set_option maxRecDepth 20000 in
theorem ggX6_makes_X6_notShort : GoodIn wsX6_makes wsX6_notShort := goodIn_r _ [5, 6, 7, 4, 8] (by decide +kernel) (by decide +kernel)
set_option maxRecDepth 20000 in
theorem gX6_makes_X6_notShort : GoodIn wsX6_makes (va_wsS RX6 229 yX6_notShort wsX6_notShort) := goodIn_app (goodIn_of _ (by decide +kernel)) ggX6_makes_X6_notShort
set_option maxRecDepth 20000 in
theorem ggX6_makes_X6_no : GoodIn wsX6_makes wsX6_no := goodIn_r _ [12, 13, 131, 132, 133, 134, 135, 136, 137, 138, 139, 140, 141, 142, 143, 144, 145, 146, 147, 148, 149, 150, 151, 152, 153, 154, 155] (by decide +kernel) (by decide +kernel)
set_option maxRecDepth 20000 in
theorem gX6_makes_X6_no : GoodIn wsX6_makes (wsV RX6 73 RX6 yX6_no wsX6_no) := goodIn_app (goodIn_of _ (by decide +kernel)) ggX6_makes_X6_no
set_option maxRecDepth 20000 in
theorem ggX6_makes_X6_bits : GoodIn wsX6_makes wsX6_bits := goodIn_r _ [16] (by decide +kernel) (by decide +kernel)
set_option maxRecDepth 20000 in
theorem gX6_makes_X6_bits : GoodIn wsX6_makes (va_wsS RX6 205 yX6_bits wsX6_bits) := goodIn_app (goodIn_of _ (by decide +kernel)) ggX6_makes_X6_bits
set_option maxRecDepth 20000 in
theorem ggX6_makes_X6_believersIf : GoodIn wsX6_makes wsX6_believersIf := goodIn_r _ [20, 1, 21, 22, 23, 24, 4, 25, 26, 27, 28, 29, 30, 31, 32, 33, 34, 35, 36, 37, 38, 39, 40, 41, 42, 43, 44, 45, 46, 47, 48, 49, 50, 51, 52, 53, 54, 55, 56, 57, 58, 59, 60, 61, 62, 63, 64, 65, 66, 67, 68, 69, 70, 71, 72, 73, 74, 75, 76, 77, 78, 79, 80, 81, 82, 83, 84, 85, 86, 87, 88, 89, 90, 91, 92, 93, 94, 95, 96, 97, 98, 99, 100, 101, 102, 103, 104, 105, 106, 107, 108, 109, 110, 111, 112, 113, 114, 115, 116, 117, 118, 119, 120, 121, 122, 123, 124, 125, 126, 131, 132, 133, 134, 135, 136, 137, 138, 139, 140, 141, 142, 143, 144, 145, 146, 147, 148, 149, 150, 151, 152, 153, 154, 155] (by decide +kernel) (by decide +kernel)
set_option maxRecDepth 20000 in
theorem gX6_makes_X6_believersIf : GoodIn wsX6_makes (wsV RX6 232 RX6 yX6_believersIf wsX6_believersIf) := goodIn_app (goodIn_of _ (by decide +kernel)) ggX6_makes_X6_believersIf
set_option maxRecDepth 20000 in
theorem ggX6_makes_X6_everybody : GoodIn wsX6_makes wsX6_everybody := goodIn_r _ [130, 1, 131, 132, 133, 134, 135, 136, 137, 138, 139, 140, 141, 142, 143, 144, 145, 146, 147, 148, 149, 150, 151, 152, 153, 154, 155] (by decide +kernel) (by decide +kernel)
set_option maxRecDepth 20000 in
theorem gX6_makes_X6_everybody : GoodIn wsX6_makes (wsV RX6 220 RX6 yX6_everybody wsX6_everybody) := goodIn_app (goodIn_of _ (by decide +kernel)) ggX6_makes_X6_everybody
theorem dX6_makes_0 : decode cX6_makes 0 = .ok (.iload_n 1, 1) := by decide +kernel
theorem dX6_makes_1 : decode cX6_makes 1 = .ok (.invokestatic 229, 3) := by decide +kernel
theorem dX6_makes_4 : decode cX6_makes 4 = .ok (.istore_n 2, 1) := by decide +kernel
theorem dX6_makes_5 : decode cX6_makes 5 = .ok (.iload_n 2, 1) := by decide +kernel
theorem dX6_makes_6 : decode cX6_makes 6 = .ok (.ifCond .eq 9, 3) := by decide +kernel
theorem dX6_makes_9 : decode cX6_makes 9 = .ok (.aload_n 0, 1) := by decide +kernel
theorem dX6_makes_10 : decode cX6_makes 10 = .ok (.iload_n 2, 1) := by decide +kernel
theorem dX6_makes_11 : decode cX6_makes 11 = .ok (.invokevirtual 73, 3) := by decide +kernel
theorem dX6_makes_14 : decode cX6_makes 14 = .ok (.ireturn, 1) := by decide +kernel
theorem dX6_makes_15 : decode cX6_makes 15 = .ok (.bipush (-9), 2) := by decide +kernel
theorem dX6_makes_17 : decode cX6_makes 17 = .ok (.istore_n 3, 1) := by decide +kernel
theorem dX6_makes_18 : decode cX6_makes 18 = .ok (.iconst 0, 1) := by decide +kernel
theorem dX6_makes_19 : decode cX6_makes 19 = .ok (.istore 4, 2) := by decide +kernel
theorem dX6_makes_21 : decode cX6_makes 21 = .ok (.iload 4, 2) := by decide +kernel
theorem dX6_makes_23 : decode cX6_makes 23 = .ok (.iconst 1, 1) := by decide +kernel
theorem dX6_makes_24 : decode cX6_makes 24 = .ok (.aload_n 0, 1) := by decide +kernel
theorem dX6_makes_25 : decode cX6_makes 25 = .ok (.getfield 52, 3) := by decide +kernel
theorem dX6_makes_28 : decode cX6_makes 28 = .ok (.ishl, 1) := by decide +kernel
theorem dX6_makes_29 : decode cX6_makes 29 = .ok (.if_icmp .ge 45, 3) := by decide +kernel
theorem dX6_makes_32 : decode cX6_makes 32 = .ok (.iload_n 3, 1) := by decide +kernel
theorem dX6_makes_33 : decode cX6_makes 33 = .ok (.ifCond .lt 18, 3) := by decide +kernel
theorem dX6_makes_36 : decode cX6_makes 36 = .ok (.iload 4, 2) := by decide +kernel
theorem dX6_makes_38 : decode cX6_makes 38 = .ok (.invokestatic 205, 3) := by decide +kernel
theorem dX6_makes_41 : decode cX6_makes 41 = .ok (.iload_n 3, 1) := by decide +kernel
theorem dX6_makes_42 : decode cX6_makes 42 = .ok (.invokestatic 205, 3) := by decide +kernel
theorem dX6_makes_45 : decode cX6_makes 45 = .ok (.if_icmp .lt 6, 3) := by decide +kernel
theorem dX6_makes_48 : decode cX6_makes 48 = .ok (.goto 20, 3) := by decide +kernel
theorem dX6_makes_51 : decode cX6_makes 51 = .ok (.aload_n 0, 1) := by decide +kernel
theorem dX6_makes_52 : decode cX6_makes 52 = .ok (.iload 4, 2) := by decide +kernel
theorem dX6_makes_54 : decode cX6_makes 54 = .ok (.iload_n 1, 1) := by decide +kernel
theorem dX6_makes_55 : decode cX6_makes 55 = .ok (.invokevirtual 232, 3) := by decide +kernel
theorem dX6_makes_58 : decode cX6_makes 58 = .ok (.aload_n 0, 1) := by decide +kernel
theorem dX6_makes_59 : decode cX6_makes 59 = .ok (.invokevirtual 220, 3) := by decide +kernel
theorem dX6_makes_62 : decode cX6_makes 62 = .ok (.if_icmp .ne 6, 3) := by decide +kernel
theorem dX6_makes_65 : decode cX6_makes 65 = .ok (.iload 4, 2) := by decide +kernel
theorem dX6_makes_67 : decode cX6_makes 67 = .ok (.istore_n 3, 1) := by decide +kernel
theorem dX6_makes_68 : decode cX6_makes 68 = .ok (.iinc 4 1, 3) := by decide +kernel
theorem dX6_makes_71 : decode cX6_makes 71 = .ok (.goto (-50), 3) := by decide +kernel
theorem dX6_makes_74 : decode cX6_makes 74 = .ok (.iload_n 3, 1) := by decide +kernel
theorem dX6_makes_75 : decode cX6_makes 75 = .ok (.ireturn, 1) := by decide +kernel
set_option maxRecDepth 20000 in
theorem ggX6_believersWithout_X6_believersIn : GoodIn wsX6_believersWithout wsX6_believersIn := goodIn_r _ [6, 7, 8, 9, 5, 10, 11, 12, 13, 14, 15, 16, 17, 18, 19, 20, 21, 22, 23, 24, 25, 26, 27, 28, 29, 30, 31, 32, 33, 34, 35, 36, 37, 38, 39, 40, 41, 42, 43, 44, 45, 46, 47, 48, 49, 50, 51, 52, 53, 1, 54, 55, 56, 57, 58, 59, 60, 61, 62, 63, 64, 65, 66, 67, 68, 69, 70, 71, 72, 73, 74, 75, 76, 77, 78, 79, 80, 81, 82, 83, 84, 85, 86, 87, 88, 89, 90, 91, 92, 93, 94, 95, 96, 97, 98, 99, 100, 101, 102, 103, 104, 105, 106, 107, 108, 109, 110, 111, 112, 113, 114, 115, 116, 117, 118, 119, 120, 121, 122, 123, 124, 125, 126, 127, 128, 129, 130, 131, 132, 133] (by decide +kernel) (by decide +kernel)
set_option maxRecDepth 20000 in
theorem gX6_believersWithout_X6_believersIn : GoodIn wsX6_believersWithout (wsV RX6 217 RX6 yX6_believersIn wsX6_believersIn) := goodIn_app (goodIn_of _ (by decide +kernel)) ggX6_believersWithout_X6_believersIn
theorem dX6_believersWithout_0 : decode cX6_believersWithout 0 = .ok (.aload_n 0, 1) := by decide +kernel
theorem dX6_believersWithout_1 : decode cX6_believersWithout 1 = .ok (.iload_n 1, 1) := by decide +kernel
theorem dX6_believersWithout_2 : decode cX6_believersWithout 2 = .ok (.putfield 59, 3) := by decide +kernel
theorem dX6_believersWithout_5 : decode cX6_believersWithout 5 = .ok (.aload_n 0, 1) := by decide +kernel
theorem dX6_believersWithout_6 : decode cX6_believersWithout 6 = .ok (.iload_n 2, 1) := by decide +kernel
theorem dX6_believersWithout_7 : decode cX6_believersWithout 7 = .ok (.invokevirtual 217, 3) := by decide +kernel
theorem dX6_believersWithout_10 : decode cX6_believersWithout 10 = .ok (.istore_n 3, 1) := by decide +kernel
theorem dX6_believersWithout_11 : decode cX6_believersWithout 11 = .ok (.aload_n 0, 1) := by decide +kernel
theorem dX6_believersWithout_12 : decode cX6_believersWithout 12 = .ok (.iconst 0, 1) := by decide +kernel
theorem dX6_believersWithout_13 : decode cX6_believersWithout 13 = .ok (.putfield 59, 3) := by decide +kernel
theorem dX6_believersWithout_16 : decode cX6_believersWithout 16 = .ok (.iload_n 3, 1) := by decide +kernel
theorem dX6_believersWithout_17 : decode cX6_believersWithout 17 = .ok (.ireturn, 1) := by decide +kernel
set_option maxRecDepth 20000 in
theorem ggX6_leaves_X6_notShort : GoodIn wsX6_leaves wsX6_notShort := goodIn_r _ [4, 5, 6, 3, 7] (by decide +kernel) (by decide +kernel)
set_option maxRecDepth 20000 in
theorem gX6_leaves_X6_notShort : GoodIn wsX6_leaves (va_wsS RX6 229 yX6_notShort wsX6_notShort) := goodIn_app (goodIn_of _ (by decide +kernel)) ggX6_leaves_X6_notShort
set_option maxRecDepth 20000 in
theorem ggX6_leaves_X6_no : GoodIn wsX6_leaves wsX6_no := goodIn_r _ [11, 12, 131, 132, 133, 134, 135, 136, 137, 138, 139, 140, 141, 142, 143, 144, 145, 146, 147, 148, 149, 150, 151, 152, 153, 154, 155] (by decide +kernel) (by decide +kernel)
set_option maxRecDepth 20000 in
theorem gX6_leaves_X6_no : GoodIn wsX6_leaves (wsV RX6 73 RX6 yX6_no wsX6_no) := goodIn_app (goodIn_of _ (by decide +kernel)) ggX6_leaves_X6_no
set_option maxRecDepth 20000 in
theorem ggX6_leaves_X6_everybody : GoodIn wsX6_leaves wsX6_everybody := goodIn_r _ [16, 17, 131, 132, 133, 134, 135, 136, 137, 138, 139, 140, 141, 142, 143, 144, 145, 146, 147, 148, 149, 150, 151, 152, 153, 154, 155] (by decide +kernel) (by decide +kernel)
set_option maxRecDepth 20000 in
theorem gX6_leaves_X6_everybody : GoodIn wsX6_leaves (wsV RX6 220 RX6 yX6_everybody wsX6_everybody) := goodIn_app (goodIn_of _ (by decide +kernel)) ggX6_leaves_X6_everybody
set_option maxRecDepth 20000 in
theorem ggX6_leaves_X6_bits : GoodIn wsX6_leaves wsX6_bits := goodIn_r _ [20] (by decide +kernel) (by decide +kernel)
set_option maxRecDepth 20000 in
theorem gX6_leaves_X6_bits : GoodIn wsX6_leaves (va_wsS RX6 205 yX6_bits wsX6_bits) := goodIn_app (goodIn_of _ (by decide +kernel)) ggX6_leaves_X6_bits
set_option maxRecDepth 20000 in
theorem ggX6_leaves_X6_believersWithout : GoodIn wsX6_leaves wsX6_believersWithout := goodIn_r _ [24, 25, 26, 27, 28, 3, 29, 30, 31, 32, 33, 34, 35, 36, 37, 38, 39, 40, 41, 42, 43, 44, 17, 45, 46, 47, 48, 49, 50, 51, 52, 53, 54, 55, 56, 57, 58, 59, 60, 61, 62, 63, 64, 65, 66, 67, 68, 69, 70, 71, 72, 73, 74, 75, 76, 77, 78, 79, 80, 81, 82, 83, 84, 85, 86, 87, 88, 89, 90, 91, 92, 93, 94, 95, 96, 97, 98, 99, 100, 101, 102, 103, 104, 105, 106, 107, 108, 109, 110, 111, 112, 113, 114, 115, 116, 117, 118, 119, 120, 121, 122, 123, 124, 125, 126, 127, 128, 129, 130, 131, 132, 133, 134, 135, 136, 137, 138, 139, 140, 141, 142, 143, 144, 145, 146, 147, 148, 149, 150, 151, 152, 153, 154, 155] (by decide +kernel) (by decide +kernel)
set_option maxRecDepth 20000 in
theorem gX6_leaves_X6_believersWithout : GoodIn wsX6_leaves (wsV RX6 235 RX6 yX6_believersWithout wsX6_believersWithout) := goodIn_app (goodIn_of _ (by decide +kernel)) ggX6_leaves_X6_believersWithout
theorem dX6_leaves_0 : decode cX6_leaves 0 = .ok (.iload_n 1, 1) := by decide +kernel
theorem dX6_leaves_1 : decode cX6_leaves 1 = .ok (.invokestatic 229, 3) := by decide +kernel
theorem dX6_leaves_4 : decode cX6_leaves 4 = .ok (.istore_n 2, 1) := by decide +kernel
theorem dX6_leaves_5 : decode cX6_leaves 5 = .ok (.iload_n 2, 1) := by decide +kernel
theorem dX6_leaves_6 : decode cX6_leaves 6 = .ok (.ifCond .eq 9, 3) := by decide +kernel
theorem dX6_leaves_9 : decode cX6_leaves 9 = .ok (.aload_n 0, 1) := by decide +kernel
theorem dX6_leaves_10 : decode cX6_leaves 10 = .ok (.iload_n 2, 1) := by decide +kernel
theorem dX6_leaves_11 : decode cX6_leaves 11 = .ok (.invokevirtual 73, 3) := by decide +kernel
theorem dX6_leaves_14 : decode cX6_leaves 14 = .ok (.ireturn, 1) := by decide +kernel
theorem dX6_leaves_15 : decode cX6_leaves 15 = .ok (.aload_n 0, 1) := by decide +kernel
theorem dX6_leaves_16 : decode cX6_leaves 16 = .ok (.invokevirtual 220, 3) := by decide +kernel
theorem dX6_leaves_19 : decode cX6_leaves 19 = .ok (.istore_n 3, 1) := by decide +kernel
theorem dX6_leaves_20 : decode cX6_leaves 20 = .ok (.aload_n 0, 1) := by decide +kernel
theorem dX6_leaves_21 : decode cX6_leaves 21 = .ok (.invokevirtual 220, 3) := by decide +kernel
theorem dX6_leaves_24 : decode cX6_leaves 24 = .ok (.istore 4, 2) := by decide +kernel
theorem dX6_leaves_26 : decode cX6_leaves 26 = .ok (.iload 4, 2) := by decide +kernel
theorem dX6_leaves_28 : decode cX6_leaves 28 = .ok (.ifCond .lt 34, 3) := by decide +kernel
theorem dX6_leaves_31 : decode cX6_leaves 31 = .ok (.iload 4, 2) := by decide +kernel
theorem dX6_leaves_33 : decode cX6_leaves 33 = .ok (.invokestatic 205, 3) := by decide +kernel
theorem dX6_leaves_36 : decode cX6_leaves 36 = .ok (.iload_n 3, 1) := by decide +kernel
theorem dX6_leaves_37 : decode cX6_leaves 37 = .ok (.invokestatic 205, 3) := by decide +kernel
theorem dX6_leaves_40 : decode cX6_leaves 40 = .ok (.if_icmp .gt 16, 3) := by decide +kernel
theorem dX6_leaves_43 : decode cX6_leaves 43 = .ok (.aload_n 0, 1) := by decide +kernel
theorem dX6_leaves_44 : decode cX6_leaves 44 = .ok (.iload 4, 2) := by decide +kernel
theorem dX6_leaves_46 : decode cX6_leaves 46 = .ok (.iload_n 1, 1) := by decide +kernel
theorem dX6_leaves_47 : decode cX6_leaves 47 = .ok (.invokevirtual 235, 3) := by decide +kernel
theorem dX6_leaves_50 : decode cX6_leaves 50 = .ok (.ifCond .ne 6, 3) := by decide +kernel
theorem dX6_leaves_53 : decode cX6_leaves 53 = .ok (.iload 4, 2) := by decide +kernel
theorem dX6_leaves_55 : decode cX6_leaves 55 = .ok (.istore_n 3, 1) := by decide +kernel
theorem dX6_leaves_56 : decode cX6_leaves 56 = .ok (.iinc 4 (-1), 3) := by decide +kernel
theorem dX6_leaves_59 : decode cX6_leaves 59 = .ok (.goto (-33), 3) := by decide +kernel
theorem dX6_leaves_62 : decode cX6_leaves 62 = .ok (.iload_n 3, 1) := by decide +kernel
theorem dX6_leaves_63 : decode cX6_leaves 63 = .ok (.ireturn, 1) := by decide +kernel
set_option maxRecDepth 20000 in
theorem ggX6_ask_X6_notYears : GoodIn wsX6_ask wsX6_notYears := goodIn_r _ [5, 6, 7, 4, 8] (by decide +kernel) (by decide +kernel)
set_option maxRecDepth 20000 in
theorem gX6_ask_X6_notYears : GoodIn wsX6_ask (va_wsS RX6 208 yX6_notYears wsX6_notYears) := goodIn_app (goodIn_of _ (by decide +kernel)) ggX6_ask_X6_notYears
set_option maxRecDepth 20000 in
theorem ggX6_ask_X6_no : GoodIn wsX6_ask wsX6_no := goodIn_r _ [12, 13, 127, 128, 129, 130, 131, 132, 133, 134, 135, 136, 137, 138, 139, 140, 141, 142, 143, 144, 145, 146, 147, 148, 149, 150, 151] (by decide +kernel) (by decide +kernel)
set_option maxRecDepth 20000 in
theorem gX6_ask_X6_no : GoodIn wsX6_ask (wsV RX6 73 RX6 yX6_no wsX6_no) := goodIn_app (goodIn_of _ (by decide +kernel)) ggX6_ask_X6_no
set_option maxRecDepth 20000 in
theorem ggX6_ask_X6_believersIn : GoodIn wsX6_ask wsX6_believersIn := goodIn_r _ [17, 18, 19, 20, 4, 21, 22, 23, 24, 25, 26, 27, 28, 29, 30, 31, 32, 1, 33, 34, 35, 36, 37, 38, 39, 40, 41, 42, 43, 44, 45, 46, 47, 48, 49, 50, 51, 52, 53, 54, 55, 56, 57, 58, 59, 60, 61, 62, 63, 64, 65, 66, 67, 68, 69, 70, 71, 72, 73, 74, 75, 76, 77, 78, 79, 80, 81, 82, 83, 84, 85, 86, 87, 88, 89, 90, 91, 92, 93, 94, 95, 96, 97, 98, 99, 100, 101, 102, 103, 104, 105, 106, 107, 108, 109, 110, 111, 112, 113, 114, 115, 116, 117, 118, 119, 127, 128, 129, 130, 131, 132, 133, 134, 135, 136, 137, 138, 139, 140, 141, 142, 143, 144, 145, 146, 147, 148, 149, 150, 151] (by decide +kernel) (by decide +kernel)
set_option maxRecDepth 20000 in
theorem gX6_ask_X6_believersIn : GoodIn wsX6_ask (wsV RX6 217 RX6 yX6_believersIn wsX6_believersIn) := goodIn_app (goodIn_of _ (by decide +kernel)) ggX6_ask_X6_believersIn
set_option maxRecDepth 20000 in
theorem ggX6_ask_X6_bits : GoodIn wsX6_ask wsX6_bits := goodIn_r _ [122] (by decide +kernel) (by decide +kernel)
set_option maxRecDepth 20000 in
theorem gX6_ask_X6_bits : GoodIn wsX6_ask (va_wsS RX6 205 yX6_bits wsX6_bits) := goodIn_app (goodIn_of _ (by decide +kernel)) ggX6_ask_X6_bits
set_option maxRecDepth 20000 in
theorem ggX6_ask_X6_believersIf : GoodIn wsX6_ask wsX6_believersIf := goodIn_r _ [126, 1, 32, 22, 23, 24, 4, 25, 26, 27, 28, 29, 30, 31, 33, 34, 35, 36, 37, 38, 39, 40, 41, 42, 65, 66, 67, 14, 15, 16, 17, 18, 19, 20, 21, 43, 44, 45, 46, 47, 48, 49, 50, 51, 52, 53, 54, 55, 56, 57, 58, 59, 60, 61, 62, 63, 64, 68, 69, 70, 71, 72, 73, 74, 75, 76, 77, 78, 79, 80, 81, 82, 83, 84, 85, 86, 87, 88, 89, 90, 91, 92, 93, 94, 95, 96, 97, 98, 99, 100, 101, 102, 103, 104, 105, 106, 107, 108, 109, 110, 111, 112, 113, 114, 115, 116, 117, 118, 119, 127, 128, 129, 130, 131, 132, 133, 134, 135, 136, 137, 138, 139, 140, 141, 142, 143, 144, 145, 146, 147, 148, 149, 150, 151] (by decide +kernel) (by decide +kernel)
set_option maxRecDepth 20000 in
theorem gX6_ask_X6_believersIf : GoodIn wsX6_ask (wsV RX6 232 RX6 yX6_believersIf wsX6_believersIf) := goodIn_app (goodIn_of _ (by decide +kernel)) ggX6_ask_X6_believersIf
theorem dX6_ask_0 : decode cX6_ask 0 = .ok (.iload_n 1, 1) := by decide +kernel
theorem dX6_ask_1 : decode cX6_ask 1 = .ok (.invokestatic 208, 3) := by decide +kernel
theorem dX6_ask_4 : decode cX6_ask 4 = .ok (.istore_n 2, 1) := by decide +kernel
theorem dX6_ask_5 : decode cX6_ask 5 = .ok (.iload_n 2, 1) := by decide +kernel
theorem dX6_ask_6 : decode cX6_ask 6 = .ok (.ifCond .eq 9, 3) := by decide +kernel
theorem dX6_ask_9 : decode cX6_ask 9 = .ok (.aload_n 0, 1) := by decide +kernel
theorem dX6_ask_10 : decode cX6_ask 10 = .ok (.iload_n 2, 1) := by decide +kernel
theorem dX6_ask_11 : decode cX6_ask 11 = .ok (.invokevirtual 73, 3) := by decide +kernel
theorem dX6_ask_14 : decode cX6_ask 14 = .ok (.ireturn, 1) := by decide +kernel
theorem dX6_ask_15 : decode cX6_ask 15 = .ok (.bipush (-9), 2) := by decide +kernel
theorem dX6_ask_17 : decode cX6_ask 17 = .ok (.istore_n 3, 1) := by decide +kernel
theorem dX6_ask_18 : decode cX6_ask 18 = .ok (.aload_n 0, 1) := by decide +kernel
theorem dX6_ask_19 : decode cX6_ask 19 = .ok (.iload_n 1, 1) := by decide +kernel
theorem dX6_ask_20 : decode cX6_ask 20 = .ok (.invokevirtual 217, 3) := by decide +kernel
theorem dX6_ask_23 : decode cX6_ask 23 = .ok (.invokestatic 205, 3) := by decide +kernel
theorem dX6_ask_26 : decode cX6_ask 26 = .ok (.istore 4, 2) := by decide +kernel
theorem dX6_ask_28 : decode cX6_ask 28 = .ok (.iconst 0, 1) := by decide +kernel
theorem dX6_ask_29 : decode cX6_ask 29 = .ok (.istore 5, 2) := by decide +kernel
theorem dX6_ask_31 : decode cX6_ask 31 = .ok (.iload 5, 2) := by decide +kernel
theorem dX6_ask_33 : decode cX6_ask 33 = .ok (.aload_n 0, 1) := by decide +kernel
theorem dX6_ask_34 : decode cX6_ask 34 = .ok (.getfield 52, 3) := by decide +kernel
theorem dX6_ask_37 : decode cX6_ask 37 = .ok (.if_icmp .ge 40, 3) := by decide +kernel
theorem dX6_ask_40 : decode cX6_ask 40 = .ok (.aload_n 0, 1) := by decide +kernel
theorem dX6_ask_41 : decode cX6_ask 41 = .ok (.iconst 1, 1) := by decide +kernel
theorem dX6_ask_42 : decode cX6_ask 42 = .ok (.iload 5, 2) := by decide +kernel
theorem dX6_ask_44 : decode cX6_ask 44 = .ok (.ishl, 1) := by decide +kernel
theorem dX6_ask_45 : decode cX6_ask 45 = .ok (.iload_n 1, 1) := by decide +kernel
theorem dX6_ask_46 : decode cX6_ask 46 = .ok (.invokevirtual 232, 3) := by decide +kernel
theorem dX6_ask_49 : decode cX6_ask 49 = .ok (.invokestatic 205, 3) := by decide +kernel
theorem dX6_ask_52 : decode cX6_ask 52 = .ok (.istore 6, 2) := by decide +kernel
theorem dX6_ask_54 : decode cX6_ask 54 = .ok (.iload 6, 2) := by decide +kernel
theorem dX6_ask_56 : decode cX6_ask 56 = .ok (.iload 4, 2) := by decide +kernel
theorem dX6_ask_58 : decode cX6_ask 58 = .ok (.if_icmp .gt 6, 3) := by decide +kernel
theorem dX6_ask_61 : decode cX6_ask 61 = .ok (.goto 10, 3) := by decide +kernel
theorem dX6_ask_64 : decode cX6_ask 64 = .ok (.iload 5, 2) := by decide +kernel
theorem dX6_ask_66 : decode cX6_ask 66 = .ok (.istore_n 3, 1) := by decide +kernel
theorem dX6_ask_67 : decode cX6_ask 67 = .ok (.iload 6, 2) := by decide +kernel
theorem dX6_ask_69 : decode cX6_ask 69 = .ok (.istore 4, 2) := by decide +kernel
theorem dX6_ask_71 : decode cX6_ask 71 = .ok (.iinc 5 1, 3) := by decide +kernel
theorem dX6_ask_74 : decode cX6_ask 74 = .ok (.goto (-43), 3) := by decide +kernel
theorem dX6_ask_77 : decode cX6_ask 77 = .ok (.iload_n 3, 1) := by decide +kernel
theorem dX6_ask_78 : decode cX6_ask 78 = .ok (.ireturn, 1) := by decide +kernel
set_option maxRecDepth 20000 in
theorem ggX6_beliefFrom_X6_passesAll : GoodIn wsX6_beliefFrom wsX6_passesAll := goodIn_r _ [7, 8, 9, 10, 11, 12, 1, 2, 13, 14, 15, 16, 17, 6, 18, 19, 20, 21, 22, 23, 93, 94, 95, 96, 97, 98, 99, 100, 101, 102, 103, 104, 105, 106, 107, 108, 109, 110, 111, 112, 113, 114, 115, 116, 117] (by decide +kernel) (by decide +kernel)
set_option maxRecDepth 20000 in
theorem gX6_beliefFrom_X6_passesAll : GoodIn wsX6_beliefFrom (wsV RX6 128 RX6 yX6_passesAll wsX6_passesAll) := goodIn_app (goodIn_of _ (by decide +kernel)) ggX6_beliefFrom_X6_passesAll
set_option maxRecDepth 20000 in
theorem ggX6_beliefFrom_X6_goes : GoodIn wsX6_beliefFrom wsX6_goes := goodIn_r _ [27, 28, 29, 30, 6, 31, 13, 32, 14, 10, 2, 1, 33, 34, 35, 36, 37, 38, 39, 40, 41, 42, 43, 44, 45, 46, 47, 48, 49, 50, 51, 52, 53, 54, 55, 56, 57, 58, 59, 60, 61, 62, 11, 63, 64, 65, 66, 12, 67, 68, 69, 70, 71, 72, 73, 74, 75, 76, 77, 78, 79, 80, 81, 82, 83, 84, 85, 86, 87, 88, 89, 90, 91, 92, 93, 94, 95, 96, 97, 98, 99, 100, 101, 102, 103, 104, 105, 106, 107, 108, 109, 110, 111, 112, 113, 114, 115, 116, 117] (by decide +kernel) (by decide +kernel)
set_option maxRecDepth 20000 in
theorem gX6_beliefFrom_X6_goes : GoodIn wsX6_beliefFrom (wsV RX6 107 RX6 yX6_goes wsX6_goes) := goodIn_app (goodIn_of _ (by decide +kernel)) ggX6_beliefFrom_X6_goes
theorem dX6_beliefFrom_0 : decode cX6_beliefFrom 0 = .ok (.aload_n 0, 1) := by decide +kernel
theorem dX6_beliefFrom_1 : decode cX6_beliefFrom 1 = .ok (.iconst 1, 1) := by decide +kernel
theorem dX6_beliefFrom_2 : decode cX6_beliefFrom 2 = .ok (.iconst 1, 1) := by decide +kernel
theorem dX6_beliefFrom_3 : decode cX6_beliefFrom 3 = .ok (.invokevirtual 128, 3) := by decide +kernel
theorem dX6_beliefFrom_6 : decode cX6_beliefFrom 6 = .ok (.aload_n 0, 1) := by decide +kernel
theorem dX6_beliefFrom_7 : decode cX6_beliefFrom 7 = .ok (.getfield 22, 3) := by decide +kernel
theorem dX6_beliefFrom_10 : decode cX6_beliefFrom 10 = .ok (.iload_n 1, 1) := by decide +kernel
theorem dX6_beliefFrom_11 : decode cX6_beliefFrom 11 = .ok (.iload_n 2, 1) := by decide +kernel
theorem dX6_beliefFrom_12 : decode cX6_beliefFrom 12 = .ok (.iastore, 1) := by decide +kernel
theorem dX6_beliefFrom_13 : decode cX6_beliefFrom 13 = .ok (.aload_n 0, 1) := by decide +kernel
theorem dX6_beliefFrom_14 : decode cX6_beliefFrom 14 = .ok (.iload_n 3, 1) := by decide +kernel
theorem dX6_beliefFrom_15 : decode cX6_beliefFrom 15 = .ok (.invokevirtual 107, 3) := by decide +kernel
theorem dX6_beliefFrom_18 : decode cX6_beliefFrom 18 = .ok (.aload_n 0, 1) := by decide +kernel
theorem dX6_beliefFrom_19 : decode cX6_beliefFrom 19 = .ok (.getfield 25, 3) := by decide +kernel
theorem dX6_beliefFrom_22 : decode cX6_beliefFrom 22 = .ok (.iload_n 1, 1) := by decide +kernel
theorem dX6_beliefFrom_23 : decode cX6_beliefFrom 23 = .ok (.iaload, 1) := by decide +kernel
theorem dX6_beliefFrom_24 : decode cX6_beliefFrom 24 = .ok (.istore 4, 2) := by decide +kernel
theorem dX6_beliefFrom_26 : decode cX6_beliefFrom 26 = .ok (.aload_n 0, 1) := by decide +kernel
theorem dX6_beliefFrom_27 : decode cX6_beliefFrom 27 = .ok (.iconst 1, 1) := by decide +kernel
theorem dX6_beliefFrom_28 : decode cX6_beliefFrom 28 = .ok (.iconst 0, 1) := by decide +kernel
theorem dX6_beliefFrom_29 : decode cX6_beliefFrom 29 = .ok (.invokevirtual 128, 3) := by decide +kernel
theorem dX6_beliefFrom_32 : decode cX6_beliefFrom 32 = .ok (.iload 4, 2) := by decide +kernel
theorem dX6_beliefFrom_34 : decode cX6_beliefFrom 34 = .ok (.ireturn, 1) := by decide +kernel
set_option maxRecDepth 20000 in
theorem ggX6_sit_X6_isOne : GoodIn wsX6_sit wsX6_isOne := goodIn_r _ [5, 6, 115, 116, 117, 118, 119, 120, 121, 122, 123, 124, 125, 126, 127, 128, 129, 130, 131, 132, 133, 134, 135, 136, 137, 138, 139] (by decide +kernel) (by decide +kernel)
set_option maxRecDepth 20000 in
theorem gX6_sit_X6_isOne : GoodIn wsX6_sit (wsV RX6 118 RX6 yX6_isOne wsX6_isOne) := goodIn_app (goodIn_of _ (by decide +kernel)) ggX6_sit_X6_isOne
set_option maxRecDepth 20000 in
theorem ggX6_sit_X6_notShort : GoodIn wsX6_sit wsX6_notShort := goodIn_r _ [9, 10, 11, 4, 12] (by decide +kernel) (by decide +kernel)
set_option maxRecDepth 20000 in
theorem gX6_sit_X6_notShort : GoodIn wsX6_sit (va_wsS RX6 229 yX6_notShort wsX6_notShort) := goodIn_app (goodIn_of _ (by decide +kernel)) ggX6_sit_X6_notShort
set_option maxRecDepth 20000 in
theorem ggX6_sit_X6_isIn : GoodIn wsX6_sit wsX6_isIn := goodIn_r _ [15] (by decide +kernel) (by decide +kernel)
set_option maxRecDepth 20000 in
theorem gX6_sit_X6_isIn : GoodIn wsX6_sit (va_wsS RX6 84 yX6_isIn wsX6_isIn) := goodIn_app (goodIn_of _ (by decide +kernel)) ggX6_sit_X6_isIn
set_option maxRecDepth 20000 in
theorem ggX6_sit_X6_no : GoodIn wsX6_sit wsX6_no := goodIn_r _ [19, 20, 115, 116, 117, 118, 119, 120, 121, 122, 123, 124, 125, 126, 127, 128, 129, 130, 131, 132, 133, 134, 135, 136, 137, 138, 139] (by decide +kernel) (by decide +kernel)
set_option maxRecDepth 20000 in
theorem gX6_sit_X6_no : GoodIn wsX6_sit (wsV RX6 73 RX6 yX6_no wsX6_no) := goodIn_app (goodIn_of _ (by decide +kernel)) ggX6_sit_X6_no
set_option maxRecDepth 20000 in
theorem ggX6_sit_X6_beliefFrom : GoodIn wsX6_sit wsX6_beliefFrom := goodIn_r _ [24, 25, 26, 27, 28, 29, 4, 30, 31, 32, 33, 34, 35, 6, 36, 37, 38, 39, 40, 41, 42, 43, 44, 45, 46, 47, 48, 49, 50, 51, 52, 53, 54, 55, 56, 57, 58, 59, 60, 61, 62, 63, 64, 65, 66, 67, 68, 69, 70, 71, 72, 73, 74, 75, 76, 77, 78, 79, 80, 81, 82, 83, 84, 85, 86, 87, 88, 89, 90, 91, 92, 93, 94, 95, 96, 97, 98, 99, 100, 101, 102, 103, 104, 105, 106, 107, 108, 109, 110, 111, 112, 113, 114, 115, 116, 117, 118, 119, 120, 121, 122, 123, 124, 125, 126, 127, 128, 129, 130, 131, 132, 133, 134, 135, 136, 137, 138, 139] (by decide +kernel) (by decide +kernel)
set_option maxRecDepth 20000 in
theorem gX6_sit_X6_beliefFrom : GoodIn wsX6_sit (wsV RX6 238 RX6 yX6_beliefFrom wsX6_beliefFrom) := goodIn_app (goodIn_of _ (by decide +kernel)) ggX6_sit_X6_beliefFrom
theorem dX6_sit_0 : decode cX6_sit 0 = .ok (.aload_n 0, 1) := by decide +kernel
theorem dX6_sit_1 : decode cX6_sit 1 = .ok (.iload_n 1, 1) := by decide +kernel
theorem dX6_sit_2 : decode cX6_sit 2 = .ok (.invokevirtual 118, 3) := by decide +kernel
theorem dX6_sit_5 : decode cX6_sit 5 = .ok (.ifCond .ne 7, 3) := by decide +kernel
theorem dX6_sit_8 : decode cX6_sit 8 = .ok (.iconst (-1), 1) := by decide +kernel
theorem dX6_sit_9 : decode cX6_sit 9 = .ok (.goto 7, 3) := by decide +kernel
theorem dX6_sit_12 : decode cX6_sit 12 = .ok (.iload_n 2, 1) := by decide +kernel
theorem dX6_sit_13 : decode cX6_sit 13 = .ok (.invokestatic 229, 3) := by decide +kernel
theorem dX6_sit_16 : decode cX6_sit 16 = .ok (.istore 4, 2) := by decide +kernel
theorem dX6_sit_18 : decode cX6_sit 18 = .ok (.iload 4, 2) := by decide +kernel
theorem dX6_sit_20 : decode cX6_sit 20 = .ok (.ifCond .ne 16, 3) := by decide +kernel
theorem dX6_sit_23 : decode cX6_sit 23 = .ok (.iload_n 3, 1) := by decide +kernel
theorem dX6_sit_24 : decode cX6_sit 24 = .ok (.iconst 0, 1) := by decide +kernel
theorem dX6_sit_25 : decode cX6_sit 25 = .ok (.iconst 1, 1) := by decide +kernel
theorem dX6_sit_26 : decode cX6_sit 26 = .ok (.invokestatic 84, 3) := by decide +kernel
theorem dX6_sit_29 : decode cX6_sit 29 = .ok (.ifCond .ne 7, 3) := by decide +kernel
theorem dX6_sit_32 : decode cX6_sit 32 = .ok (.bipush (-2), 2) := by decide +kernel
theorem dX6_sit_34 : decode cX6_sit 34 = .ok (.istore 4, 2) := by decide +kernel
theorem dX6_sit_36 : decode cX6_sit 36 = .ok (.iload 4, 2) := by decide +kernel
theorem dX6_sit_38 : decode cX6_sit 38 = .ok (.ifCond .eq 10, 3) := by decide +kernel
theorem dX6_sit_41 : decode cX6_sit 41 = .ok (.aload_n 0, 1) := by decide +kernel
theorem dX6_sit_42 : decode cX6_sit 42 = .ok (.iload 4, 2) := by decide +kernel
theorem dX6_sit_44 : decode cX6_sit 44 = .ok (.invokevirtual 73, 3) := by decide +kernel
theorem dX6_sit_47 : decode cX6_sit 47 = .ok (.ireturn, 1) := by decide +kernel
theorem dX6_sit_48 : decode cX6_sit 48 = .ok (.iconst 0, 1) := by decide +kernel
theorem dX6_sit_49 : decode cX6_sit 49 = .ok (.istore 5, 2) := by decide +kernel
theorem dX6_sit_51 : decode cX6_sit 51 = .ok (.bipush (-9), 2) := by decide +kernel
theorem dX6_sit_53 : decode cX6_sit 53 = .ok (.istore 6, 2) := by decide +kernel
theorem dX6_sit_55 : decode cX6_sit 55 = .ok (.iconst 0, 1) := by decide +kernel
theorem dX6_sit_56 : decode cX6_sit 56 = .ok (.istore 7, 2) := by decide +kernel
theorem dX6_sit_58 : decode cX6_sit 58 = .ok (.iload 7, 2) := by decide +kernel
theorem dX6_sit_60 : decode cX6_sit 60 = .ok (.bipush 25, 2) := by decide +kernel
theorem dX6_sit_62 : decode cX6_sit 62 = .ok (.if_icmp .ge 37, 3) := by decide +kernel
theorem dX6_sit_65 : decode cX6_sit 65 = .ok (.aload_n 0, 1) := by decide +kernel
theorem dX6_sit_66 : decode cX6_sit 66 = .ok (.iload_n 1, 1) := by decide +kernel
theorem dX6_sit_67 : decode cX6_sit 67 = .ok (.iload 7, 2) := by decide +kernel
theorem dX6_sit_69 : decode cX6_sit 69 = .ok (.iload_n 2, 1) := by decide +kernel
theorem dX6_sit_70 : decode cX6_sit 70 = .ok (.invokevirtual 238, 3) := by decide +kernel
theorem dX6_sit_73 : decode cX6_sit 73 = .ok (.istore 8, 2) := by decide +kernel
theorem dX6_sit_75 : decode cX6_sit 75 = .ok (.iload 8, 2) := by decide +kernel
theorem dX6_sit_77 : decode cX6_sit 77 = .ok (.iload 6, 2) := by decide +kernel
theorem dX6_sit_79 : decode cX6_sit 79 = .ok (.if_icmp .gt 6, 3) := by decide +kernel
theorem dX6_sit_82 : decode cX6_sit 82 = .ok (.goto 11, 3) := by decide +kernel
theorem dX6_sit_85 : decode cX6_sit 85 = .ok (.iload 7, 2) := by decide +kernel
theorem dX6_sit_87 : decode cX6_sit 87 = .ok (.istore 5, 2) := by decide +kernel
theorem dX6_sit_89 : decode cX6_sit 89 = .ok (.iload 8, 2) := by decide +kernel
theorem dX6_sit_91 : decode cX6_sit 91 = .ok (.istore 6, 2) := by decide +kernel
theorem dX6_sit_93 : decode cX6_sit 93 = .ok (.iinc 7 1, 3) := by decide +kernel
theorem dX6_sit_96 : decode cX6_sit 96 = .ok (.goto (-38), 3) := by decide +kernel
theorem dX6_sit_99 : decode cX6_sit 99 = .ok (.iload_n 3, 1) := by decide +kernel
theorem dX6_sit_100 : decode cX6_sit 100 = .ok (.ifCond .ne 8, 3) := by decide +kernel
theorem dX6_sit_103 : decode cX6_sit 103 = .ok (.iload 5, 2) := by decide +kernel
theorem dX6_sit_105 : decode cX6_sit 105 = .ok (.goto 5, 3) := by decide +kernel
theorem dX6_sit_108 : decode cX6_sit 108 = .ok (.iload 6, 2) := by decide +kernel
theorem dX6_sit_110 : decode cX6_sit 110 = .ok (.ireturn, 1) := by decide +kernel
set_option maxRecDepth 20000 in
theorem ggX6_doubt_X6_notYears : GoodIn wsX6_doubt wsX6_notYears := goodIn_r _ [6, 7, 8, 5, 9] (by decide +kernel) (by decide +kernel)
set_option maxRecDepth 20000 in
theorem gX6_doubt_X6_notYears : GoodIn wsX6_doubt (va_wsS RX6 208 yX6_notYears wsX6_notYears) := goodIn_app (goodIn_of _ (by decide +kernel)) ggX6_doubt_X6_notYears
set_option maxRecDepth 20000 in
theorem ggX6_doubt_X6_no : GoodIn wsX6_doubt wsX6_no := goodIn_r _ [13, 14, 123, 124, 125, 126, 127, 128, 129, 130, 131, 132, 133, 134, 135, 136, 137, 138, 139, 140, 141, 142, 143, 144, 145, 146, 147] (by decide +kernel) (by decide +kernel)
set_option maxRecDepth 20000 in
theorem gX6_doubt_X6_no : GoodIn wsX6_doubt (wsV RX6 73 RX6 yX6_no wsX6_no) := goodIn_app (goodIn_of _ (by decide +kernel)) ggX6_doubt_X6_no
set_option maxRecDepth 20000 in
theorem ggX6_doubt_X6_believersIn : GoodIn wsX6_doubt wsX6_believersIn := goodIn_r _ [18, 19, 20, 21, 5, 22, 23, 24, 25, 26, 27, 28, 29, 2, 30, 31, 32, 1, 33, 34, 35, 36, 37, 38, 39, 40, 41, 42, 43, 44, 45, 46, 47, 48, 49, 50, 51, 52, 53, 54, 55, 56, 57, 58, 59, 60, 61, 62, 63, 64, 65, 66, 67, 68, 69, 70, 71, 72, 73, 74, 75, 76, 77, 78, 79, 80, 81, 82, 83, 84, 85, 86, 87, 88, 89, 90, 91, 92, 93, 94, 95, 96, 97, 98, 99, 100, 101, 102, 103, 104, 105, 106, 107, 108, 109, 110, 111, 112, 113, 114, 115, 116, 117, 118, 119, 123, 124, 125, 126, 127, 128, 129, 130, 131, 132, 133, 134, 135, 136, 137, 138, 139, 140, 141, 142, 143, 144, 145, 146, 147] (by decide +kernel) (by decide +kernel)
set_option maxRecDepth 20000 in
theorem gX6_doubt_X6_believersIn : GoodIn wsX6_doubt (wsV RX6 217 RX6 yX6_believersIn wsX6_believersIn) := goodIn_app (goodIn_of _ (by decide +kernel)) ggX6_doubt_X6_believersIn
set_option maxRecDepth 20000 in
theorem ggX6_doubt_X6_bits : GoodIn wsX6_doubt wsX6_bits := goodIn_r _ [122] (by decide +kernel) (by decide +kernel)
set_option maxRecDepth 20000 in
theorem gX6_doubt_X6_bits : GoodIn wsX6_doubt (va_wsS RX6 205 yX6_bits wsX6_bits) := goodIn_app (goodIn_of _ (by decide +kernel)) ggX6_doubt_X6_bits
theorem dX6_doubt_0 : decode cX6_doubt 0 = .ok (.iload_n 1, 1) := by decide +kernel
theorem dX6_doubt_1 : decode cX6_doubt 1 = .ok (.invokestatic 208, 3) := by decide +kernel
theorem dX6_doubt_4 : decode cX6_doubt 4 = .ok (.istore_n 2, 1) := by decide +kernel
theorem dX6_doubt_5 : decode cX6_doubt 5 = .ok (.iload_n 2, 1) := by decide +kernel
theorem dX6_doubt_6 : decode cX6_doubt 6 = .ok (.ifCond .eq 9, 3) := by decide +kernel
theorem dX6_doubt_9 : decode cX6_doubt 9 = .ok (.aload_n 0, 1) := by decide +kernel
theorem dX6_doubt_10 : decode cX6_doubt 10 = .ok (.iload_n 2, 1) := by decide +kernel
theorem dX6_doubt_11 : decode cX6_doubt 11 = .ok (.invokevirtual 73, 3) := by decide +kernel
theorem dX6_doubt_14 : decode cX6_doubt 14 = .ok (.ireturn, 1) := by decide +kernel
theorem dX6_doubt_15 : decode cX6_doubt 15 = .ok (.bipush (-9), 2) := by decide +kernel
theorem dX6_doubt_17 : decode cX6_doubt 17 = .ok (.istore_n 3, 1) := by decide +kernel
theorem dX6_doubt_18 : decode cX6_doubt 18 = .ok (.bipush 9, 2) := by decide +kernel
theorem dX6_doubt_20 : decode cX6_doubt 20 = .ok (.istore 4, 2) := by decide +kernel
theorem dX6_doubt_22 : decode cX6_doubt 22 = .ok (.iconst 0, 1) := by decide +kernel
theorem dX6_doubt_23 : decode cX6_doubt 23 = .ok (.istore 5, 2) := by decide +kernel
theorem dX6_doubt_25 : decode cX6_doubt 25 = .ok (.iload 5, 2) := by decide +kernel
theorem dX6_doubt_27 : decode cX6_doubt 27 = .ok (.aload_n 0, 1) := by decide +kernel
theorem dX6_doubt_28 : decode cX6_doubt 28 = .ok (.getfield 52, 3) := by decide +kernel
theorem dX6_doubt_31 : decode cX6_doubt 31 = .ok (.if_icmp .ge 62, 3) := by decide +kernel
theorem dX6_doubt_34 : decode cX6_doubt 34 = .ok (.aload_n 0, 1) := by decide +kernel
theorem dX6_doubt_35 : decode cX6_doubt 35 = .ok (.getfield 16, 3) := by decide +kernel
theorem dX6_doubt_38 : decode cX6_doubt 38 = .ok (.iload 5, 2) := by decide +kernel
theorem dX6_doubt_40 : decode cX6_doubt 40 = .ok (.iaload, 1) := by decide +kernel
theorem dX6_doubt_41 : decode cX6_doubt 41 = .ok (.istore 6, 2) := by decide +kernel
theorem dX6_doubt_43 : decode cX6_doubt 43 = .ok (.aload_n 0, 1) := by decide +kernel
theorem dX6_doubt_44 : decode cX6_doubt 44 = .ok (.getfield 16, 3) := by decide +kernel
theorem dX6_doubt_47 : decode cX6_doubt 47 = .ok (.iload 5, 2) := by decide +kernel
theorem dX6_doubt_49 : decode cX6_doubt 49 = .ok (.iconst 3, 1) := by decide +kernel
theorem dX6_doubt_50 : decode cX6_doubt 50 = .ok (.iastore, 1) := by decide +kernel
theorem dX6_doubt_51 : decode cX6_doubt 51 = .ok (.aload_n 0, 1) := by decide +kernel
theorem dX6_doubt_52 : decode cX6_doubt 52 = .ok (.iload_n 1, 1) := by decide +kernel
theorem dX6_doubt_53 : decode cX6_doubt 53 = .ok (.invokevirtual 217, 3) := by decide +kernel
theorem dX6_doubt_56 : decode cX6_doubt 56 = .ok (.invokestatic 205, 3) := by decide +kernel
theorem dX6_doubt_59 : decode cX6_doubt 59 = .ok (.istore 7, 2) := by decide +kernel
theorem dX6_doubt_61 : decode cX6_doubt 61 = .ok (.aload_n 0, 1) := by decide +kernel
theorem dX6_doubt_62 : decode cX6_doubt 62 = .ok (.getfield 16, 3) := by decide +kernel
theorem dX6_doubt_65 : decode cX6_doubt 65 = .ok (.iload 5, 2) := by decide +kernel
theorem dX6_doubt_67 : decode cX6_doubt 67 = .ok (.iload 6, 2) := by decide +kernel
theorem dX6_doubt_69 : decode cX6_doubt 69 = .ok (.iastore, 1) := by decide +kernel
theorem dX6_doubt_70 : decode cX6_doubt 70 = .ok (.iload 7, 2) := by decide +kernel
theorem dX6_doubt_72 : decode cX6_doubt 72 = .ok (.iload 4, 2) := by decide +kernel
theorem dX6_doubt_74 : decode cX6_doubt 74 = .ok (.if_icmp .lt 6, 3) := by decide +kernel
theorem dX6_doubt_77 : decode cX6_doubt 77 = .ok (.goto 10, 3) := by decide +kernel
theorem dX6_doubt_80 : decode cX6_doubt 80 = .ok (.iload 5, 2) := by decide +kernel
theorem dX6_doubt_82 : decode cX6_doubt 82 = .ok (.istore_n 3, 1) := by decide +kernel
theorem dX6_doubt_83 : decode cX6_doubt 83 = .ok (.iload 7, 2) := by decide +kernel
theorem dX6_doubt_85 : decode cX6_doubt 85 = .ok (.istore 4, 2) := by decide +kernel
theorem dX6_doubt_87 : decode cX6_doubt 87 = .ok (.iinc 5 1, 3) := by decide +kernel
theorem dX6_doubt_90 : decode cX6_doubt 90 = .ok (.goto (-65), 3) := by decide +kernel
theorem dX6_doubt_93 : decode cX6_doubt 93 = .ok (.iload_n 3, 1) := by decide +kernel
theorem dX6_doubt_94 : decode cX6_doubt 94 = .ok (.ireturn, 1) := by decide +kernel
set_option maxRecDepth 20000 in
theorem ggX6_stranger_X6_notYears : GoodIn wsX6_stranger wsX6_notYears := goodIn_r _ [5, 6, 7, 4, 8] (by decide +kernel) (by decide +kernel)
set_option maxRecDepth 20000 in
theorem gX6_stranger_X6_notYears : GoodIn wsX6_stranger (va_wsS RX6 208 yX6_notYears wsX6_notYears) := goodIn_app (goodIn_of _ (by decide +kernel)) ggX6_stranger_X6_notYears
set_option maxRecDepth 20000 in
theorem ggX6_stranger_X6_lower : GoodIn wsX6_stranger wsX6_lower := goodIn_r _ [12, 13, 14, 132, 133, 134, 135, 136, 137, 138, 139, 140, 141, 142, 143, 144, 145, 146, 147, 148, 149, 150, 151, 152, 153, 154, 155, 156] (by decide +kernel) (by decide +kernel)
set_option maxRecDepth 20000 in
theorem gX6_stranger_X6_lower : GoodIn wsX6_stranger (wsV RX6 241 RX6 yX6_lower wsX6_lower) := goodIn_app (goodIn_of _ (by decide +kernel)) ggX6_stranger_X6_lower
set_option maxRecDepth 20000 in
theorem ggX6_stranger_X6_believersIn : GoodIn wsX6_stranger wsX6_believersIn := goodIn_r _ [18, 19, 20, 21, 4, 22, 23, 24, 25, 26, 27, 28, 29, 30, 31, 32, 33, 1, 34, 35, 36, 37, 38, 39, 40, 41, 42, 43, 44, 45, 46, 47, 48, 49, 50, 51, 52, 53, 54, 55, 56, 57, 58, 59, 60, 61, 62, 63, 64, 65, 66, 67, 68, 69, 70, 71, 72, 73, 74, 75, 76, 77, 78, 79, 80, 81, 82, 83, 84, 85, 86, 87, 88, 89, 90, 91, 92, 93, 94, 95, 96, 97, 98, 99, 100, 101, 102, 103, 104, 105, 106, 107, 108, 109, 110, 111, 112, 113, 114, 115, 116, 117, 118, 119, 120, 132, 133, 134, 135, 136, 137, 138, 139, 140, 141, 142, 143, 144, 145, 146, 147, 148, 149, 150, 151, 152, 153, 154, 155, 156] (by decide +kernel) (by decide +kernel)
set_option maxRecDepth 20000 in
theorem gX6_stranger_X6_believersIn : GoodIn wsX6_stranger (wsV RX6 217 RX6 yX6_believersIn wsX6_believersIn) := goodIn_app (goodIn_of _ (by decide +kernel)) ggX6_stranger_X6_believersIn
set_option maxRecDepth 20000 in
theorem ggX6_stranger_X6_bits : GoodIn wsX6_stranger wsX6_bits := goodIn_r _ [123] (by decide +kernel) (by decide +kernel)
set_option maxRecDepth 20000 in
theorem gX6_stranger_X6_bits : GoodIn wsX6_stranger (va_wsS RX6 205 yX6_bits wsX6_bits) := goodIn_app (goodIn_of _ (by decide +kernel)) ggX6_stranger_X6_bits
set_option maxRecDepth 20000 in
theorem ggX6_stranger_X6_everybody : GoodIn wsX6_stranger wsX6_everybody := goodIn_r _ [127, 1, 132, 133, 134, 135, 136, 137, 138, 139, 140, 141, 142, 143, 144, 145, 146, 147, 148, 149, 150, 151, 152, 153, 154, 155, 156] (by decide +kernel) (by decide +kernel)
set_option maxRecDepth 20000 in
theorem gX6_stranger_X6_everybody : GoodIn wsX6_stranger (wsV RX6 220 RX6 yX6_everybody wsX6_everybody) := goodIn_app (goodIn_of _ (by decide +kernel)) ggX6_stranger_X6_everybody
set_option maxRecDepth 20000 in
theorem ggX6_stranger_X6_passesAll : GoodIn wsX6_stranger wsX6_passesAll := goodIn_r _ [26, 27, 28, 29, 30, 31, 32, 33, 1, 34, 35, 36, 37, 4, 38, 39, 40, 41, 42, 43, 132, 133, 134, 135, 136, 137, 138, 139, 140, 141, 142, 143, 144, 145, 146, 147, 148, 149, 150, 151, 152, 153, 154, 155, 156] (by decide +kernel) (by decide +kernel)
set_option maxRecDepth 20000 in
theorem gX6_stranger_X6_passesAll : GoodIn wsX6_stranger (wsV RX6 128 RX6 yX6_passesAll wsX6_passesAll) := goodIn_app (goodIn_of _ (by decide +kernel)) ggX6_stranger_X6_passesAll
set_option maxRecDepth 20000 in
theorem ggX6_stranger_X6_adds : GoodIn wsX6_stranger wsX6_adds := goodIn_r _ [131, 30, 1, 31, 32, 33, 132, 133, 134, 135, 136, 137, 138, 139, 140, 141, 142, 143, 144, 145, 146, 147, 148, 149, 150, 151, 152, 153, 154, 155, 156] (by decide +kernel) (by decide +kernel)
set_option maxRecDepth 20000 in
theorem gX6_stranger_X6_adds : GoodIn wsX6_stranger (wsV RX6 114 RX6 yX6_adds wsX6_adds) := goodIn_app (goodIn_of _ (by decide +kernel)) ggX6_stranger_X6_adds
theorem dX6_stranger_0 : decode cX6_stranger 0 = .ok (.iload_n 1, 1) := by decide +kernel
theorem dX6_stranger_1 : decode cX6_stranger 1 = .ok (.invokestatic 208, 3) := by decide +kernel
theorem dX6_stranger_4 : decode cX6_stranger 4 = .ok (.istore_n 2, 1) := by decide +kernel
theorem dX6_stranger_5 : decode cX6_stranger 5 = .ok (.iload_n 2, 1) := by decide +kernel
theorem dX6_stranger_6 : decode cX6_stranger 6 = .ok (.ifCond .eq 9, 3) := by decide +kernel
theorem dX6_stranger_9 : decode cX6_stranger 9 = .ok (.aload_n 0, 1) := by decide +kernel
theorem dX6_stranger_10 : decode cX6_stranger 10 = .ok (.iload_n 2, 1) := by decide +kernel
theorem dX6_stranger_11 : decode cX6_stranger 11 = .ok (.invokevirtual 241, 3) := by decide +kernel
theorem dX6_stranger_14 : decode cX6_stranger 14 = .ok (.ireturn, 1) := by decide +kernel
theorem dX6_stranger_15 : decode cX6_stranger 15 = .ok (.aload_n 0, 1) := by decide +kernel
theorem dX6_stranger_16 : decode cX6_stranger 16 = .ok (.getfield 52, 3) := by decide +kernel
theorem dX6_stranger_19 : decode cX6_stranger 19 = .ok (.bipush 8, 2) := by decide +kernel
theorem dX6_stranger_21 : decode cX6_stranger 21 = .ok (.if_icmp .ne 6, 3) := by decide +kernel
theorem dX6_stranger_24 : decode cX6_stranger 24 = .ok (.bipush (-9), 2) := by decide +kernel
theorem dX6_stranger_26 : decode cX6_stranger 26 = .ok (.ireturn, 1) := by decide +kernel
theorem dX6_stranger_27 : decode cX6_stranger 27 = .ok (.aload_n 0, 1) := by decide +kernel
theorem dX6_stranger_28 : decode cX6_stranger 28 = .ok (.iload_n 1, 1) := by decide +kernel
theorem dX6_stranger_29 : decode cX6_stranger 29 = .ok (.invokevirtual 217, 3) := by decide +kernel
theorem dX6_stranger_32 : decode cX6_stranger 32 = .ok (.invokestatic 205, 3) := by decide +kernel
theorem dX6_stranger_35 : decode cX6_stranger 35 = .ok (.istore_n 3, 1) := by decide +kernel
theorem dX6_stranger_36 : decode cX6_stranger 36 = .ok (.aload_n 0, 1) := by decide +kernel
theorem dX6_stranger_37 : decode cX6_stranger 37 = .ok (.invokevirtual 220, 3) := by decide +kernel
theorem dX6_stranger_40 : decode cX6_stranger 40 = .ok (.istore 4, 2) := by decide +kernel
theorem dX6_stranger_42 : decode cX6_stranger 42 = .ok (.aload_n 0, 1) := by decide +kernel
theorem dX6_stranger_43 : decode cX6_stranger 43 = .ok (.iconst 1, 1) := by decide +kernel
theorem dX6_stranger_44 : decode cX6_stranger 44 = .ok (.iconst 1, 1) := by decide +kernel
theorem dX6_stranger_45 : decode cX6_stranger 45 = .ok (.invokevirtual 128, 3) := by decide +kernel
theorem dX6_stranger_48 : decode cX6_stranger 48 = .ok (.aload_n 0, 1) := by decide +kernel
theorem dX6_stranger_49 : decode cX6_stranger 49 = .ok (.iconst 0, 1) := by decide +kernel
theorem dX6_stranger_50 : decode cX6_stranger 50 = .ok (.iconst 0, 1) := by decide +kernel
theorem dX6_stranger_51 : decode cX6_stranger 51 = .ok (.bipush 24, 2) := by decide +kernel
theorem dX6_stranger_53 : decode cX6_stranger 53 = .ok (.bipush 9, 2) := by decide +kernel
theorem dX6_stranger_55 : decode cX6_stranger 55 = .ok (.invokevirtual 114, 3) := by decide +kernel
theorem dX6_stranger_58 : decode cX6_stranger 58 = .ok (.aload_n 0, 1) := by decide +kernel
theorem dX6_stranger_59 : decode cX6_stranger 59 = .ok (.iload_n 1, 1) := by decide +kernel
theorem dX6_stranger_60 : decode cX6_stranger 60 = .ok (.invokevirtual 217, 3) := by decide +kernel
theorem dX6_stranger_63 : decode cX6_stranger 63 = .ok (.iload 4, 2) := by decide +kernel
theorem dX6_stranger_65 : decode cX6_stranger 65 = .ok (.iand, 1) := by decide +kernel
theorem dX6_stranger_66 : decode cX6_stranger 66 = .ok (.invokestatic 205, 3) := by decide +kernel
theorem dX6_stranger_69 : decode cX6_stranger 69 = .ok (.istore 5, 2) := by decide +kernel
theorem dX6_stranger_71 : decode cX6_stranger 71 = .ok (.aload_n 0, 1) := by decide +kernel
theorem dX6_stranger_72 : decode cX6_stranger 72 = .ok (.iconst 1, 1) := by decide +kernel
theorem dX6_stranger_73 : decode cX6_stranger 73 = .ok (.iconst 0, 1) := by decide +kernel
theorem dX6_stranger_74 : decode cX6_stranger 74 = .ok (.invokevirtual 128, 3) := by decide +kernel
theorem dX6_stranger_77 : decode cX6_stranger 77 = .ok (.iload 5, 2) := by decide +kernel
theorem dX6_stranger_79 : decode cX6_stranger 79 = .ok (.iload_n 3, 1) := by decide +kernel
theorem dX6_stranger_80 : decode cX6_stranger 80 = .ok (.isub, 1) := by decide +kernel
theorem dX6_stranger_81 : decode cX6_stranger 81 = .ok (.ireturn, 1) := by decide +kernel
set_option maxRecDepth 20000 in
theorem ggX6_nearest_X6_here : GoodIn wsX6_nearest wsX6_here := goodIn_r _ [7, 8, 15, 16, 17, 18, 19, 20, 21, 22, 23, 24, 25, 26, 27, 28, 29, 30, 31, 32, 33, 34, 35, 36, 37, 38, 39] (by decide +kernel) (by decide +kernel)
set_option maxRecDepth 20000 in
theorem gX6_nearest_X6_here : GoodIn wsX6_nearest (wsV RX6 186 RX6 yX6_here wsX6_here) := goodIn_app (goodIn_of _ (by decide +kernel)) ggX6_nearest_X6_here
set_option maxRecDepth 20000 in
theorem ggX6_nearest_X6_steps : GoodIn wsX6_nearest wsX6_steps := goodIn_r _ [11, 12, 13, 6, 14] (by decide +kernel) (by decide +kernel)
set_option maxRecDepth 20000 in
theorem gX6_nearest_X6_steps : GoodIn wsX6_nearest (va_wsS RX6 159 yX6_steps wsX6_steps) := goodIn_app (goodIn_of _ (by decide +kernel)) ggX6_nearest_X6_steps
theorem dX6_nearest_0 : decode cX6_nearest 0 = .ok (.aload_n 0, 1) := by decide +kernel
theorem dX6_nearest_1 : decode cX6_nearest 1 = .ok (.invokevirtual 186, 3) := by decide +kernel
theorem dX6_nearest_4 : decode cX6_nearest 4 = .ok (.istore_n 1, 1) := by decide +kernel
theorem dX6_nearest_5 : decode cX6_nearest 5 = .ok (.bipush (-9), 2) := by decide +kernel
theorem dX6_nearest_7 : decode cX6_nearest 7 = .ok (.istore_n 2, 1) := by decide +kernel
theorem dX6_nearest_8 : decode cX6_nearest 8 = .ok (.iconst 0, 1) := by decide +kernel
theorem dX6_nearest_9 : decode cX6_nearest 9 = .ok (.istore_n 3, 1) := by decide +kernel
theorem dX6_nearest_10 : decode cX6_nearest 10 = .ok (.iload_n 3, 1) := by decide +kernel
theorem dX6_nearest_11 : decode cX6_nearest 11 = .ok (.aload_n 0, 1) := by decide +kernel
theorem dX6_nearest_12 : decode cX6_nearest 12 = .ok (.getfield 52, 3) := by decide +kernel
theorem dX6_nearest_15 : decode cX6_nearest 15 = .ok (.if_icmp .ge 38, 3) := by decide +kernel
theorem dX6_nearest_18 : decode cX6_nearest 18 = .ok (.iload_n 2, 1) := by decide +kernel
theorem dX6_nearest_19 : decode cX6_nearest 19 = .ok (.ifCond .lt 26, 3) := by decide +kernel
theorem dX6_nearest_22 : decode cX6_nearest 22 = .ok (.aload_n 0, 1) := by decide +kernel
theorem dX6_nearest_23 : decode cX6_nearest 23 = .ok (.getfield 22, 3) := by decide +kernel
theorem dX6_nearest_26 : decode cX6_nearest 26 = .ok (.iload_n 3, 1) := by decide +kernel
theorem dX6_nearest_27 : decode cX6_nearest 27 = .ok (.iaload, 1) := by decide +kernel
theorem dX6_nearest_28 : decode cX6_nearest 28 = .ok (.iload_n 1, 1) := by decide +kernel
theorem dX6_nearest_29 : decode cX6_nearest 29 = .ok (.invokestatic 159, 3) := by decide +kernel
theorem dX6_nearest_32 : decode cX6_nearest 32 = .ok (.aload_n 0, 1) := by decide +kernel
theorem dX6_nearest_33 : decode cX6_nearest 33 = .ok (.getfield 22, 3) := by decide +kernel
theorem dX6_nearest_36 : decode cX6_nearest 36 = .ok (.iload_n 2, 1) := by decide +kernel
theorem dX6_nearest_37 : decode cX6_nearest 37 = .ok (.iaload, 1) := by decide +kernel
theorem dX6_nearest_38 : decode cX6_nearest 38 = .ok (.iload_n 1, 1) := by decide +kernel
theorem dX6_nearest_39 : decode cX6_nearest 39 = .ok (.invokestatic 159, 3) := by decide +kernel
theorem dX6_nearest_42 : decode cX6_nearest 42 = .ok (.if_icmp .ge 5, 3) := by decide +kernel
theorem dX6_nearest_45 : decode cX6_nearest 45 = .ok (.iload_n 3, 1) := by decide +kernel
theorem dX6_nearest_46 : decode cX6_nearest 46 = .ok (.istore_n 2, 1) := by decide +kernel
theorem dX6_nearest_47 : decode cX6_nearest 47 = .ok (.iinc 3 1, 3) := by decide +kernel
theorem dX6_nearest_50 : decode cX6_nearest 50 = .ok (.goto (-40), 3) := by decide +kernel
theorem dX6_nearest_53 : decode cX6_nearest 53 = .ok (.iload_n 2, 1) := by decide +kernel
theorem dX6_nearest_54 : decode cX6_nearest 54 = .ok (.ireturn, 1) := by decide +kernel
set_option maxRecDepth 20000 in
theorem ggX6_passed_X6_notYears : GoodIn wsX6_passed wsX6_notYears := goodIn_r _ [6, 7, 8, 5, 9] (by decide +kernel) (by decide +kernel)
set_option maxRecDepth 20000 in
theorem gX6_passed_X6_notYears : GoodIn wsX6_passed (va_wsS RX6 208 yX6_notYears wsX6_notYears) := goodIn_app (goodIn_of _ (by decide +kernel)) ggX6_passed_X6_notYears
set_option maxRecDepth 20000 in
theorem ggX6_passed_X6_no : GoodIn wsX6_passed wsX6_no := goodIn_r _ [13, 14, 108, 109, 110, 111, 112, 113, 114, 115, 116, 117, 118, 119, 120, 121, 122, 123, 124, 125, 126, 127, 128, 129, 130, 131, 132] (by decide +kernel) (by decide +kernel)
set_option maxRecDepth 20000 in
theorem gX6_passed_X6_no : GoodIn wsX6_passed (wsV RX6 73 RX6 yX6_no wsX6_no) := goodIn_app (goodIn_of _ (by decide +kernel)) ggX6_passed_X6_no
set_option maxRecDepth 20000 in
theorem ggX6_passed_X6_thinks : GoodIn wsX6_passed wsX6_thinks := goodIn_r _ [18, 19, 20, 21, 5, 22, 23, 24, 25, 26, 2, 27, 28, 1, 29, 30, 31, 32, 33, 34, 35, 36, 37, 38, 108, 109, 110, 111, 112, 113, 114, 115, 116, 117, 118, 119, 120, 121, 122, 123, 124, 125, 126, 127, 128, 129, 130, 131, 132] (by decide +kernel) (by decide +kernel)
set_option maxRecDepth 20000 in
theorem gX6_passed_X6_thinks : GoodIn wsX6_passed (wsV RX6 211 RX6 yX6_thinks wsX6_thinks) := goodIn_app (goodIn_of _ (by decide +kernel)) ggX6_passed_X6_thinks
set_option maxRecDepth 20000 in
theorem ggX6_passed_X6_believesNow : GoodIn wsX6_passed wsX6_believesNow := goodIn_r _ [42, 28, 108, 109, 110, 111, 112, 113, 114, 115, 116, 117, 118, 119, 120, 121, 122, 123, 124, 125, 126, 127, 128, 129, 130, 131, 132] (by decide +kernel) (by decide +kernel)
set_option maxRecDepth 20000 in
theorem gX6_passed_X6_believesNow : GoodIn wsX6_passed (wsV RX6 165 RX6 yX6_believesNow wsX6_believesNow) := goodIn_app (goodIn_of _ (by decide +kernel)) ggX6_passed_X6_believesNow
set_option maxRecDepth 20000 in
theorem ggX6_passed_X6_goesYear : GoodIn wsX6_passed wsX6_goesYear := goodIn_r _ [46, 1, 47, 29, 25, 28, 27, 48, 49, 50, 5, 51, 52, 53, 54, 55, 56, 57, 58, 59, 60, 61, 62, 63, 39, 40, 41, 42, 64, 65, 66, 67, 68, 69, 70, 71, 72, 73, 26, 74, 75, 76, 77, 2, 78, 79, 80, 81, 82, 83, 84, 85, 86, 87, 88, 89, 90, 91, 92, 93, 94, 95, 96, 97, 98, 99, 100, 101, 102, 103, 108, 109, 110, 111, 112, 113, 114, 115, 116, 117, 118, 119, 120, 121, 122, 123, 124, 125, 126, 127, 128, 129, 130, 131, 132] (by decide +kernel) (by decide +kernel)
set_option maxRecDepth 20000 in
theorem gX6_passed_X6_goesYear : GoodIn wsX6_passed (wsV RX6 198 RX6 yX6_goesYear wsX6_goesYear) := goodIn_app (goodIn_of _ (by decide +kernel)) ggX6_passed_X6_goesYear
set_option maxRecDepth 20000 in
theorem ggX6_passed_X6_forgets : GoodIn wsX6_passed wsX6_forgets := goodIn_r _ [107, 19, 20, 21, 5, 22, 23, 24, 25, 26, 2, 27, 28, 1, 29, 30, 31, 32, 33, 34, 35, 36, 37, 38, 108, 109, 110, 111, 112, 113, 114, 115, 116, 117, 118, 119, 120, 121, 122, 123, 124, 125, 126, 127, 128, 129, 130, 131, 132] (by decide +kernel) (by decide +kernel)
set_option maxRecDepth 20000 in
theorem gX6_passed_X6_forgets : GoodIn wsX6_passed (wsV RX6 214 RX6 yX6_forgets wsX6_forgets) := goodIn_app (goodIn_of _ (by decide +kernel)) ggX6_passed_X6_forgets
theorem dX6_passed_0 : decode cX6_passed 0 = .ok (.iload_n 1, 1) := by decide +kernel
theorem dX6_passed_1 : decode cX6_passed 1 = .ok (.invokestatic 208, 3) := by decide +kernel
theorem dX6_passed_4 : decode cX6_passed 4 = .ok (.istore_n 2, 1) := by decide +kernel
theorem dX6_passed_5 : decode cX6_passed 5 = .ok (.iload_n 2, 1) := by decide +kernel
theorem dX6_passed_6 : decode cX6_passed 6 = .ok (.ifCond .eq 9, 3) := by decide +kernel
theorem dX6_passed_9 : decode cX6_passed 9 = .ok (.aload_n 0, 1) := by decide +kernel
theorem dX6_passed_10 : decode cX6_passed 10 = .ok (.iload_n 2, 1) := by decide +kernel
theorem dX6_passed_11 : decode cX6_passed 11 = .ok (.invokevirtual 73, 3) := by decide +kernel
theorem dX6_passed_14 : decode cX6_passed 14 = .ok (.ireturn, 1) := by decide +kernel
theorem dX6_passed_15 : decode cX6_passed 15 = .ok (.aload_n 0, 1) := by decide +kernel
theorem dX6_passed_16 : decode cX6_passed 16 = .ok (.invokevirtual 211, 3) := by decide +kernel
theorem dX6_passed_19 : decode cX6_passed 19 = .ok (.iconst 0, 1) := by decide +kernel
theorem dX6_passed_20 : decode cX6_passed 20 = .ok (.istore_n 3, 1) := by decide +kernel
theorem dX6_passed_21 : decode cX6_passed 21 = .ok (.iconst 0, 1) := by decide +kernel
theorem dX6_passed_22 : decode cX6_passed 22 = .ok (.istore 4, 2) := by decide +kernel
theorem dX6_passed_24 : decode cX6_passed 24 = .ok (.iload 4, 2) := by decide +kernel
theorem dX6_passed_26 : decode cX6_passed 26 = .ok (.iload_n 1, 1) := by decide +kernel
theorem dX6_passed_27 : decode cX6_passed 27 = .ok (.if_icmp .ge 55, 3) := by decide +kernel
theorem dX6_passed_30 : decode cX6_passed 30 = .ok (.iconst 0, 1) := by decide +kernel
theorem dX6_passed_31 : decode cX6_passed 31 = .ok (.istore 5, 2) := by decide +kernel
theorem dX6_passed_33 : decode cX6_passed 33 = .ok (.iload 5, 2) := by decide +kernel
theorem dX6_passed_35 : decode cX6_passed 35 = .ok (.aload_n 0, 1) := by decide +kernel
theorem dX6_passed_36 : decode cX6_passed 36 = .ok (.getfield 52, 3) := by decide +kernel
theorem dX6_passed_39 : decode cX6_passed 39 = .ok (.if_icmp .ge 32, 3) := by decide +kernel
theorem dX6_passed_42 : decode cX6_passed 42 = .ok (.iload_n 3, 1) := by decide +kernel
theorem dX6_passed_43 : decode cX6_passed 43 = .ok (.aload_n 0, 1) := by decide +kernel
theorem dX6_passed_44 : decode cX6_passed 44 = .ok (.iload 5, 2) := by decide +kernel
theorem dX6_passed_46 : decode cX6_passed 46 = .ok (.invokevirtual 165, 3) := by decide +kernel
theorem dX6_passed_49 : decode cX6_passed 49 = .ok (.ifCond .eq 13, 3) := by decide +kernel
theorem dX6_passed_52 : decode cX6_passed 52 = .ok (.aload_n 0, 1) := by decide +kernel
theorem dX6_passed_53 : decode cX6_passed 53 = .ok (.getfield 19, 3) := by decide +kernel
theorem dX6_passed_56 : decode cX6_passed 56 = .ok (.iload 5, 2) := by decide +kernel
theorem dX6_passed_58 : decode cX6_passed 58 = .ok (.iaload, 1) := by decide +kernel
theorem dX6_passed_59 : decode cX6_passed 59 = .ok (.goto 4, 3) := by decide +kernel
theorem dX6_passed_62 : decode cX6_passed 62 = .ok (.iconst 0, 1) := by decide +kernel
theorem dX6_passed_63 : decode cX6_passed 63 = .ok (.iadd, 1) := by decide +kernel
theorem dX6_passed_64 : decode cX6_passed 64 = .ok (.istore_n 3, 1) := by decide +kernel
theorem dX6_passed_65 : decode cX6_passed 65 = .ok (.iinc 5 1, 3) := by decide +kernel
theorem dX6_passed_68 : decode cX6_passed 68 = .ok (.goto (-35), 3) := by decide +kernel
theorem dX6_passed_71 : decode cX6_passed 71 = .ok (.aload_n 0, 1) := by decide +kernel
theorem dX6_passed_72 : decode cX6_passed 72 = .ok (.iconst 0, 1) := by decide +kernel
theorem dX6_passed_73 : decode cX6_passed 73 = .ok (.invokevirtual 198, 3) := by decide +kernel
theorem dX6_passed_76 : decode cX6_passed 76 = .ok (.iinc 4 1, 3) := by decide +kernel
theorem dX6_passed_79 : decode cX6_passed 79 = .ok (.goto (-55), 3) := by decide +kernel
theorem dX6_passed_82 : decode cX6_passed 82 = .ok (.aload_n 0, 1) := by decide +kernel
theorem dX6_passed_83 : decode cX6_passed 83 = .ok (.invokevirtual 214, 3) := by decide +kernel
theorem dX6_passed_86 : decode cX6_passed 86 = .ok (.iload_n 3, 1) := by decide +kernel
theorem dX6_passed_87 : decode cX6_passed 87 = .ok (.ireturn, 1) := by decide +kernel
set_option maxRecDepth 20000 in
theorem ggX6_chainOf_X6_has : GoodIn wsX6_chainOf wsX6_has := goodIn_r _ [4] (by decide +kernel) (by decide +kernel)
set_option maxRecDepth 20000 in
theorem gX6_chainOf_X6_has : GoodIn wsX6_chainOf (va_wsS RX6 62 yX6_has wsX6_has) := goodIn_app (goodIn_of _ (by decide +kernel)) ggX6_chainOf_X6_has
set_option maxRecDepth 20000 in
theorem ggX6_chainOf_X6_areBeside : GoodIn wsX6_chainOf wsX6_areBeside := goodIn_r _ [8, 9, 10, 11, 12, 3, 13, 14, 15, 1, 2, 4, 16, 17, 18, 19, 20, 21, 22, 23, 24, 25, 26, 27, 28, 29, 30, 31, 32, 33, 34, 35, 36, 37, 38, 39, 40, 41, 42, 43, 44, 45, 46] (by decide +kernel) (by decide +kernel)
set_option maxRecDepth 20000 in
theorem gX6_chainOf_X6_areBeside : GoodIn wsX6_chainOf (wsV RX6 162 RX6 yX6_areBeside wsX6_areBeside) := goodIn_app (goodIn_of _ (by decide +kernel)) ggX6_chainOf_X6_areBeside
theorem dX6_chainOf_0 : decode cX6_chainOf 0 = .ok (.iconst 1, 1) := by decide +kernel
theorem dX6_chainOf_1 : decode cX6_chainOf 1 = .ok (.iload_n 1, 1) := by decide +kernel
theorem dX6_chainOf_2 : decode cX6_chainOf 2 = .ok (.ishl, 1) := by decide +kernel
theorem dX6_chainOf_3 : decode cX6_chainOf 3 = .ok (.istore_n 2, 1) := by decide +kernel
theorem dX6_chainOf_4 : decode cX6_chainOf 4 = .ok (.iconst 0, 1) := by decide +kernel
theorem dX6_chainOf_5 : decode cX6_chainOf 5 = .ok (.istore_n 3, 1) := by decide +kernel
theorem dX6_chainOf_6 : decode cX6_chainOf 6 = .ok (.iload_n 3, 1) := by decide +kernel
theorem dX6_chainOf_7 : decode cX6_chainOf 7 = .ok (.bipush 8, 2) := by decide +kernel
theorem dX6_chainOf_9 : decode cX6_chainOf 9 = .ok (.if_icmp .ge 68, 3) := by decide +kernel
theorem dX6_chainOf_12 : decode cX6_chainOf 12 = .ok (.iconst 0, 1) := by decide +kernel
theorem dX6_chainOf_13 : decode cX6_chainOf 13 = .ok (.istore 4, 2) := by decide +kernel
theorem dX6_chainOf_15 : decode cX6_chainOf 15 = .ok (.iload 4, 2) := by decide +kernel
theorem dX6_chainOf_17 : decode cX6_chainOf 17 = .ok (.bipush 64, 2) := by decide +kernel
theorem dX6_chainOf_19 : decode cX6_chainOf 19 = .ok (.if_icmp .ge 52, 3) := by decide +kernel
theorem dX6_chainOf_22 : decode cX6_chainOf 22 = .ok (.iload_n 2, 1) := by decide +kernel
theorem dX6_chainOf_23 : decode cX6_chainOf 23 = .ok (.iload_n 2, 1) := by decide +kernel
theorem dX6_chainOf_24 : decode cX6_chainOf 24 = .ok (.iload 4, 2) := by decide +kernel
theorem dX6_chainOf_26 : decode cX6_chainOf 26 = .ok (.bipush 8, 2) := by decide +kernel
theorem dX6_chainOf_28 : decode cX6_chainOf 28 = .ok (.idiv, 1) := by decide +kernel
theorem dX6_chainOf_29 : decode cX6_chainOf 29 = .ok (.invokestatic 62, 3) := by decide +kernel
theorem dX6_chainOf_32 : decode cX6_chainOf 32 = .ok (.ifCond .eq 30, 3) := by decide +kernel
theorem dX6_chainOf_35 : decode cX6_chainOf 35 = .ok (.aload_n 0, 1) := by decide +kernel
theorem dX6_chainOf_36 : decode cX6_chainOf 36 = .ok (.iload 4, 2) := by decide +kernel
theorem dX6_chainOf_38 : decode cX6_chainOf 38 = .ok (.bipush 8, 2) := by decide +kernel
theorem dX6_chainOf_40 : decode cX6_chainOf 40 = .ok (.idiv, 1) := by decide +kernel
theorem dX6_chainOf_41 : decode cX6_chainOf 41 = .ok (.iload 4, 2) := by decide +kernel
theorem dX6_chainOf_43 : decode cX6_chainOf 43 = .ok (.bipush 8, 2) := by decide +kernel
theorem dX6_chainOf_45 : decode cX6_chainOf 45 = .ok (.irem, 1) := by decide +kernel
theorem dX6_chainOf_46 : decode cX6_chainOf 46 = .ok (.invokevirtual 162, 3) := by decide +kernel
theorem dX6_chainOf_49 : decode cX6_chainOf 49 = .ok (.ifCond .eq 13, 3) := by decide +kernel
theorem dX6_chainOf_52 : decode cX6_chainOf 52 = .ok (.iconst 1, 1) := by decide +kernel
theorem dX6_chainOf_53 : decode cX6_chainOf 53 = .ok (.iload 4, 2) := by decide +kernel
theorem dX6_chainOf_55 : decode cX6_chainOf 55 = .ok (.bipush 8, 2) := by decide +kernel
theorem dX6_chainOf_57 : decode cX6_chainOf 57 = .ok (.irem, 1) := by decide +kernel
theorem dX6_chainOf_58 : decode cX6_chainOf 58 = .ok (.ishl, 1) := by decide +kernel
theorem dX6_chainOf_59 : decode cX6_chainOf 59 = .ok (.goto 4, 3) := by decide +kernel
theorem dX6_chainOf_62 : decode cX6_chainOf 62 = .ok (.iconst 0, 1) := by decide +kernel
theorem dX6_chainOf_63 : decode cX6_chainOf 63 = .ok (.ior, 1) := by decide +kernel
theorem dX6_chainOf_64 : decode cX6_chainOf 64 = .ok (.istore_n 2, 1) := by decide +kernel
theorem dX6_chainOf_65 : decode cX6_chainOf 65 = .ok (.iinc 4 1, 3) := by decide +kernel
theorem dX6_chainOf_68 : decode cX6_chainOf 68 = .ok (.goto (-53), 3) := by decide +kernel
theorem dX6_chainOf_71 : decode cX6_chainOf 71 = .ok (.iinc 3 1, 3) := by decide +kernel
theorem dX6_chainOf_74 : decode cX6_chainOf 74 = .ok (.goto (-68), 3) := by decide +kernel
theorem dX6_chainOf_77 : decode cX6_chainOf 77 = .ok (.iload_n 2, 1) := by decide +kernel
theorem dX6_chainOf_78 : decode cX6_chainOf 78 = .ok (.ireturn, 1) := by decide +kernel
set_option maxRecDepth 20000 in
theorem ggX6_heard_X6_isOne : GoodIn wsX6_heard wsX6_isOne := goodIn_r _ [5, 6, 35, 36, 37, 38, 39, 40, 41, 42, 43, 44, 45, 46, 47, 48, 49, 50, 51, 52, 53, 54, 55, 56, 57, 58, 59] (by decide +kernel) (by decide +kernel)
set_option maxRecDepth 20000 in
theorem gX6_heard_X6_isOne : GoodIn wsX6_heard (wsV RX6 118 RX6 yX6_isOne wsX6_isOne) := goodIn_app (goodIn_of _ (by decide +kernel)) ggX6_heard_X6_isOne
set_option maxRecDepth 20000 in
theorem ggX6_heard_X6_chainOf : GoodIn wsX6_heard wsX6_chainOf := goodIn_r _ [10, 11, 12, 4, 13, 14, 15, 16, 17, 18, 19, 20, 21, 22, 6, 23, 24, 25, 26, 27, 28, 29, 35, 36, 37, 38, 39, 40, 41, 42, 43, 44, 45, 46, 47, 48, 49, 50, 51, 52, 53, 54, 55, 56, 57, 58, 59] (by decide +kernel) (by decide +kernel)
set_option maxRecDepth 20000 in
theorem gX6_heard_X6_chainOf : GoodIn wsX6_heard (wsV RX6 244 RX6 yX6_chainOf wsX6_chainOf) := goodIn_app (goodIn_of _ (by decide +kernel)) ggX6_heard_X6_chainOf
set_option maxRecDepth 20000 in
theorem ggX6_heard_X6_no : GoodIn wsX6_heard wsX6_no := goodIn_r _ [33, 34, 35, 36, 37, 38, 39, 40, 41, 42, 43, 44, 45, 46, 47, 48, 49, 50, 51, 52, 53, 54, 55, 56, 57, 58, 59] (by decide +kernel) (by decide +kernel)
set_option maxRecDepth 20000 in
theorem gX6_heard_X6_no : GoodIn wsX6_heard (wsV RX6 73 RX6 yX6_no wsX6_no) := goodIn_app (goodIn_of _ (by decide +kernel)) ggX6_heard_X6_no
theorem dX6_heard_0 : decode cX6_heard 0 = .ok (.aload_n 0, 1) := by decide +kernel
theorem dX6_heard_1 : decode cX6_heard 1 = .ok (.iload_n 1, 1) := by decide +kernel
theorem dX6_heard_2 : decode cX6_heard 2 = .ok (.invokevirtual 118, 3) := by decide +kernel
theorem dX6_heard_5 : decode cX6_heard 5 = .ok (.ifCond .eq 11, 3) := by decide +kernel
theorem dX6_heard_8 : decode cX6_heard 8 = .ok (.aload_n 0, 1) := by decide +kernel
theorem dX6_heard_9 : decode cX6_heard 9 = .ok (.iload_n 1, 1) := by decide +kernel
theorem dX6_heard_10 : decode cX6_heard 10 = .ok (.invokevirtual 244, 3) := by decide +kernel
theorem dX6_heard_13 : decode cX6_heard 13 = .ok (.goto 8, 3) := by decide +kernel
theorem dX6_heard_16 : decode cX6_heard 16 = .ok (.aload_n 0, 1) := by decide +kernel
theorem dX6_heard_17 : decode cX6_heard 17 = .ok (.iconst (-1), 1) := by decide +kernel
theorem dX6_heard_18 : decode cX6_heard 18 = .ok (.invokevirtual 73, 3) := by decide +kernel
theorem dX6_heard_21 : decode cX6_heard 21 = .ok (.ireturn, 1) := by decide +kernel
set_option maxRecDepth 20000 in
theorem ggX6_groups_X6_isIn : GoodIn wsX6_groups wsX6_isIn := goodIn_r _ [5] (by decide +kernel) (by decide +kernel)
set_option maxRecDepth 20000 in
theorem gX6_groups_X6_isIn : GoodIn wsX6_groups (va_wsS RX6 84 yX6_isIn wsX6_isIn) := goodIn_app (goodIn_of _ (by decide +kernel)) ggX6_groups_X6_isIn
set_option maxRecDepth 20000 in
theorem ggX6_groups_X6_no : GoodIn wsX6_groups wsX6_no := goodIn_r _ [9, 10, 37, 38, 39, 40, 41, 42, 43, 44, 45, 46, 47, 48, 49, 50, 51, 52, 53, 54, 55, 56, 57, 58, 59, 60, 61] (by decide +kernel) (by decide +kernel)
set_option maxRecDepth 20000 in
theorem gX6_groups_X6_no : GoodIn wsX6_groups (wsV RX6 73 RX6 yX6_no wsX6_no) := goodIn_app (goodIn_of _ (by decide +kernel)) ggX6_groups_X6_no
set_option maxRecDepth 20000 in
theorem ggX6_groups_X6_chainOf : GoodIn wsX6_groups wsX6_chainOf := goodIn_r _ [14, 15, 16, 4, 17, 18, 19, 20, 21, 22, 23, 24, 25, 26, 1, 27, 28, 29, 30, 31, 32, 33, 37, 38, 39, 40, 41, 42, 43, 44, 45, 46, 47, 48, 49, 50, 51, 52, 53, 54, 55, 56, 57, 58, 59, 60, 61] (by decide +kernel) (by decide +kernel)
set_option maxRecDepth 20000 in
theorem gX6_groups_X6_chainOf : GoodIn wsX6_groups (wsV RX6 244 RX6 yX6_chainOf wsX6_chainOf) := goodIn_app (goodIn_of _ (by decide +kernel)) ggX6_groups_X6_chainOf
set_option maxRecDepth 20000 in
theorem ggX6_groups_X6_bits : GoodIn wsX6_groups wsX6_bits := goodIn_r _ [36] (by decide +kernel) (by decide +kernel)
set_option maxRecDepth 20000 in
theorem gX6_groups_X6_bits : GoodIn wsX6_groups (va_wsS RX6 205 yX6_bits wsX6_bits) := goodIn_app (goodIn_of _ (by decide +kernel)) ggX6_groups_X6_bits
theorem dX6_groups_0 : decode cX6_groups 0 = .ok (.iload_n 1, 1) := by decide +kernel
theorem dX6_groups_1 : decode cX6_groups 1 = .ok (.iconst 0, 1) := by decide +kernel
theorem dX6_groups_2 : decode cX6_groups 2 = .ok (.iconst 1, 1) := by decide +kernel
theorem dX6_groups_3 : decode cX6_groups 3 = .ok (.invokestatic 84, 3) := by decide +kernel
theorem dX6_groups_6 : decode cX6_groups 6 = .ok (.ifCond .ne 10, 3) := by decide +kernel
theorem dX6_groups_9 : decode cX6_groups 9 = .ok (.aload_n 0, 1) := by decide +kernel
theorem dX6_groups_10 : decode cX6_groups 10 = .ok (.bipush (-2), 2) := by decide +kernel
theorem dX6_groups_12 : decode cX6_groups 12 = .ok (.invokevirtual 73, 3) := by decide +kernel
theorem dX6_groups_15 : decode cX6_groups 15 = .ok (.ireturn, 1) := by decide +kernel
theorem dX6_groups_16 : decode cX6_groups 16 = .ok (.iconst 0, 1) := by decide +kernel
theorem dX6_groups_17 : decode cX6_groups 17 = .ok (.istore_n 2, 1) := by decide +kernel
theorem dX6_groups_18 : decode cX6_groups 18 = .ok (.iconst 0, 1) := by decide +kernel
theorem dX6_groups_19 : decode cX6_groups 19 = .ok (.istore_n 3, 1) := by decide +kernel
theorem dX6_groups_20 : decode cX6_groups 20 = .ok (.iconst 0, 1) := by decide +kernel
theorem dX6_groups_21 : decode cX6_groups 21 = .ok (.istore 4, 2) := by decide +kernel
theorem dX6_groups_23 : decode cX6_groups 23 = .ok (.iload 4, 2) := by decide +kernel
theorem dX6_groups_25 : decode cX6_groups 25 = .ok (.aload_n 0, 1) := by decide +kernel
theorem dX6_groups_26 : decode cX6_groups 26 = .ok (.getfield 52, 3) := by decide +kernel
theorem dX6_groups_29 : decode cX6_groups 29 = .ok (.if_icmp .ge 56, 3) := by decide +kernel
theorem dX6_groups_32 : decode cX6_groups 32 = .ok (.aload_n 0, 1) := by decide +kernel
theorem dX6_groups_33 : decode cX6_groups 33 = .ok (.iload 4, 2) := by decide +kernel
theorem dX6_groups_35 : decode cX6_groups 35 = .ok (.invokevirtual 244, 3) := by decide +kernel
theorem dX6_groups_38 : decode cX6_groups 38 = .ok (.istore 5, 2) := by decide +kernel
theorem dX6_groups_40 : decode cX6_groups 40 = .ok (.iload_n 2, 1) := by decide +kernel
theorem dX6_groups_41 : decode cX6_groups 41 = .ok (.iload 5, 2) := by decide +kernel
theorem dX6_groups_43 : decode cX6_groups 43 = .ok (.iconst 1, 1) := by decide +kernel
theorem dX6_groups_44 : decode cX6_groups 44 = .ok (.iload 4, 2) := by decide +kernel
theorem dX6_groups_46 : decode cX6_groups 46 = .ok (.ishl, 1) := by decide +kernel
theorem dX6_groups_47 : decode cX6_groups 47 = .ok (.iconst 1, 1) := by decide +kernel
theorem dX6_groups_48 : decode cX6_groups 48 = .ok (.isub, 1) := by decide +kernel
theorem dX6_groups_49 : decode cX6_groups 49 = .ok (.iand, 1) := by decide +kernel
theorem dX6_groups_50 : decode cX6_groups 50 = .ok (.ifCond .ne 7, 3) := by decide +kernel
theorem dX6_groups_53 : decode cX6_groups 53 = .ok (.iconst 1, 1) := by decide +kernel
theorem dX6_groups_54 : decode cX6_groups 54 = .ok (.goto 4, 3) := by decide +kernel
theorem dX6_groups_57 : decode cX6_groups 57 = .ok (.iconst 0, 1) := by decide +kernel
theorem dX6_groups_58 : decode cX6_groups 58 = .ok (.iadd, 1) := by decide +kernel
theorem dX6_groups_59 : decode cX6_groups 59 = .ok (.istore_n 2, 1) := by decide +kernel
theorem dX6_groups_60 : decode cX6_groups 60 = .ok (.iload 5, 2) := by decide +kernel
theorem dX6_groups_62 : decode cX6_groups 62 = .ok (.invokestatic 205, 3) := by decide +kernel
theorem dX6_groups_65 : decode cX6_groups 65 = .ok (.iload_n 3, 1) := by decide +kernel
theorem dX6_groups_66 : decode cX6_groups 66 = .ok (.if_icmp .le 11, 3) := by decide +kernel
theorem dX6_groups_69 : decode cX6_groups 69 = .ok (.iload 5, 2) := by decide +kernel
theorem dX6_groups_71 : decode cX6_groups 71 = .ok (.invokestatic 205, 3) := by decide +kernel
theorem dX6_groups_74 : decode cX6_groups 74 = .ok (.goto 4, 3) := by decide +kernel
theorem dX6_groups_77 : decode cX6_groups 77 = .ok (.iload_n 3, 1) := by decide +kernel
theorem dX6_groups_78 : decode cX6_groups 78 = .ok (.istore_n 3, 1) := by decide +kernel
theorem dX6_groups_79 : decode cX6_groups 79 = .ok (.iinc 4 1, 3) := by decide +kernel
theorem dX6_groups_82 : decode cX6_groups 82 = .ok (.goto (-59), 3) := by decide +kernel
theorem dX6_groups_85 : decode cX6_groups 85 = .ok (.iload_n 1, 1) := by decide +kernel
theorem dX6_groups_86 : decode cX6_groups 86 = .ok (.ifCond .ne 7, 3) := by decide +kernel
theorem dX6_groups_89 : decode cX6_groups 89 = .ok (.iload_n 2, 1) := by decide +kernel
theorem dX6_groups_90 : decode cX6_groups 90 = .ok (.goto 4, 3) := by decide +kernel
theorem dX6_groups_93 : decode cX6_groups 93 = .ok (.iload_n 3, 1) := by decide +kernel
theorem dX6_groups_94 : decode cX6_groups 94 = .ok (.ireturn, 1) := by decide +kernel
set_option maxRecDepth 20000 in
theorem ggX6_stepsTo_X6_steps : GoodIn wsX6_stepsTo wsX6_steps := goodIn_r _ [6, 7, 8, 5, 9] (by decide +kernel) (by decide +kernel)
set_option maxRecDepth 20000 in
theorem gX6_stepsTo_X6_steps : GoodIn wsX6_stepsTo (va_wsS RX6 159 yX6_steps wsX6_steps) := goodIn_app (goodIn_of _ (by decide +kernel)) ggX6_stepsTo_X6_steps
theorem dX6_stepsTo_0 : decode cX6_stepsTo 0 = .ok (.iconst 0, 1) := by decide +kernel
theorem dX6_stepsTo_1 : decode cX6_stepsTo 1 = .ok (.istore_n 2, 1) := by decide +kernel
theorem dX6_stepsTo_2 : decode cX6_stepsTo 2 = .ok (.iconst 0, 1) := by decide +kernel
theorem dX6_stepsTo_3 : decode cX6_stepsTo 3 = .ok (.istore_n 3, 1) := by decide +kernel
theorem dX6_stepsTo_4 : decode cX6_stepsTo 4 = .ok (.iload_n 3, 1) := by decide +kernel
theorem dX6_stepsTo_5 : decode cX6_stepsTo 5 = .ok (.aload_n 0, 1) := by decide +kernel
theorem dX6_stepsTo_6 : decode cX6_stepsTo 6 = .ok (.getfield 52, 3) := by decide +kernel
theorem dX6_stepsTo_9 : decode cX6_stepsTo 9 = .ok (.if_icmp .ge 22, 3) := by decide +kernel
theorem dX6_stepsTo_12 : decode cX6_stepsTo 12 = .ok (.iload_n 2, 1) := by decide +kernel
theorem dX6_stepsTo_13 : decode cX6_stepsTo 13 = .ok (.aload_n 0, 1) := by decide +kernel
theorem dX6_stepsTo_14 : decode cX6_stepsTo 14 = .ok (.getfield 22, 3) := by decide +kernel
theorem dX6_stepsTo_17 : decode cX6_stepsTo 17 = .ok (.iload_n 3, 1) := by decide +kernel
theorem dX6_stepsTo_18 : decode cX6_stepsTo 18 = .ok (.iaload, 1) := by decide +kernel
theorem dX6_stepsTo_19 : decode cX6_stepsTo 19 = .ok (.iload_n 1, 1) := by decide +kernel
theorem dX6_stepsTo_20 : decode cX6_stepsTo 20 = .ok (.invokestatic 159, 3) := by decide +kernel
theorem dX6_stepsTo_23 : decode cX6_stepsTo 23 = .ok (.iadd, 1) := by decide +kernel
theorem dX6_stepsTo_24 : decode cX6_stepsTo 24 = .ok (.istore_n 2, 1) := by decide +kernel
theorem dX6_stepsTo_25 : decode cX6_stepsTo 25 = .ok (.iinc 3 1, 3) := by decide +kernel
theorem dX6_stepsTo_28 : decode cX6_stepsTo 28 = .ok (.goto (-24), 3) := by decide +kernel
theorem dX6_stepsTo_31 : decode cX6_stepsTo 31 = .ok (.iload_n 2, 1) := by decide +kernel
theorem dX6_stepsTo_32 : decode cX6_stepsTo 32 = .ok (.ireturn, 1) := by decide +kernel
set_option maxRecDepth 20000 in
theorem ggX6_middle_X6_isIn : GoodIn wsX6_middle wsX6_isIn := goodIn_r _ [4] (by decide +kernel) (by decide +kernel)
set_option maxRecDepth 20000 in
theorem gX6_middle_X6_isIn : GoodIn wsX6_middle (va_wsS RX6 84 yX6_isIn wsX6_isIn) := goodIn_app (goodIn_of _ (by decide +kernel)) ggX6_middle_X6_isIn
set_option maxRecDepth 20000 in
theorem ggX6_middle_X6_no : GoodIn wsX6_middle wsX6_no := goodIn_r _ [8, 9, 22, 23, 24, 25, 26, 27, 28, 29, 30, 31, 32, 33, 34, 35, 36, 37, 38, 39, 40, 41, 42, 43, 44, 45, 46] (by decide +kernel) (by decide +kernel)
set_option maxRecDepth 20000 in
theorem gX6_middle_X6_no : GoodIn wsX6_middle (wsV RX6 73 RX6 yX6_no wsX6_no) := goodIn_app (goodIn_of _ (by decide +kernel)) ggX6_middle_X6_no
set_option maxRecDepth 20000 in
theorem ggX6_middle_X6_stepsTo : GoodIn wsX6_middle wsX6_stepsTo := goodIn_r _ [13, 14, 15, 16, 17, 3, 18, 19, 20, 21, 22, 23, 24, 25, 26, 27, 28, 29, 30, 31, 32, 33, 34, 35, 36, 37, 38, 39, 40, 41, 42, 43, 44, 45, 46] (by decide +kernel) (by decide +kernel)
set_option maxRecDepth 20000 in
theorem gX6_middle_X6_stepsTo : GoodIn wsX6_middle (wsV RX6 247 RX6 yX6_stepsTo wsX6_stepsTo) := goodIn_app (goodIn_of _ (by decide +kernel)) ggX6_middle_X6_stepsTo
theorem dX6_middle_0 : decode cX6_middle 0 = .ok (.iload_n 1, 1) := by decide +kernel
theorem dX6_middle_1 : decode cX6_middle 1 = .ok (.iconst 0, 1) := by decide +kernel
theorem dX6_middle_2 : decode cX6_middle 2 = .ok (.iconst 1, 1) := by decide +kernel
theorem dX6_middle_3 : decode cX6_middle 3 = .ok (.invokestatic 84, 3) := by decide +kernel
theorem dX6_middle_6 : decode cX6_middle 6 = .ok (.ifCond .ne 10, 3) := by decide +kernel
theorem dX6_middle_9 : decode cX6_middle 9 = .ok (.aload_n 0, 1) := by decide +kernel
theorem dX6_middle_10 : decode cX6_middle 10 = .ok (.bipush (-2), 2) := by decide +kernel
theorem dX6_middle_12 : decode cX6_middle 12 = .ok (.invokevirtual 73, 3) := by decide +kernel
theorem dX6_middle_15 : decode cX6_middle 15 = .ok (.ireturn, 1) := by decide +kernel
theorem dX6_middle_16 : decode cX6_middle 16 = .ok (.iconst 0, 1) := by decide +kernel
theorem dX6_middle_17 : decode cX6_middle 17 = .ok (.istore_n 2, 1) := by decide +kernel
theorem dX6_middle_18 : decode cX6_middle 18 = .ok (.iconst 1, 1) := by decide +kernel
theorem dX6_middle_19 : decode cX6_middle 19 = .ok (.istore_n 3, 1) := by decide +kernel
theorem dX6_middle_20 : decode cX6_middle 20 = .ok (.iload_n 3, 1) := by decide +kernel
theorem dX6_middle_21 : decode cX6_middle 21 = .ok (.bipush 25, 2) := by decide +kernel
theorem dX6_middle_23 : decode cX6_middle 23 = .ok (.if_icmp .ge 28, 3) := by decide +kernel
theorem dX6_middle_26 : decode cX6_middle 26 = .ok (.aload_n 0, 1) := by decide +kernel
theorem dX6_middle_27 : decode cX6_middle 27 = .ok (.iload_n 3, 1) := by decide +kernel
theorem dX6_middle_28 : decode cX6_middle 28 = .ok (.invokevirtual 247, 3) := by decide +kernel
theorem dX6_middle_31 : decode cX6_middle 31 = .ok (.aload_n 0, 1) := by decide +kernel
theorem dX6_middle_32 : decode cX6_middle 32 = .ok (.iload_n 2, 1) := by decide +kernel
theorem dX6_middle_33 : decode cX6_middle 33 = .ok (.invokevirtual 247, 3) := by decide +kernel
theorem dX6_middle_36 : decode cX6_middle 36 = .ok (.if_icmp .ge 7, 3) := by decide +kernel
theorem dX6_middle_39 : decode cX6_middle 39 = .ok (.iload_n 3, 1) := by decide +kernel
theorem dX6_middle_40 : decode cX6_middle 40 = .ok (.goto 4, 3) := by decide +kernel
theorem dX6_middle_43 : decode cX6_middle 43 = .ok (.iload_n 2, 1) := by decide +kernel
theorem dX6_middle_44 : decode cX6_middle 44 = .ok (.istore_n 2, 1) := by decide +kernel
theorem dX6_middle_45 : decode cX6_middle 45 = .ok (.iinc 3 1, 3) := by decide +kernel
theorem dX6_middle_48 : decode cX6_middle 48 = .ok (.goto (-28), 3) := by decide +kernel
theorem dX6_middle_51 : decode cX6_middle 51 = .ok (.iload_n 1, 1) := by decide +kernel
theorem dX6_middle_52 : decode cX6_middle 52 = .ok (.ifCond .ne 7, 3) := by decide +kernel
theorem dX6_middle_55 : decode cX6_middle 55 = .ok (.iload_n 2, 1) := by decide +kernel
theorem dX6_middle_56 : decode cX6_middle 56 = .ok (.goto 8, 3) := by decide +kernel
theorem dX6_middle_59 : decode cX6_middle 59 = .ok (.aload_n 0, 1) := by decide +kernel
theorem dX6_middle_60 : decode cX6_middle 60 = .ok (.iload_n 2, 1) := by decide +kernel
theorem dX6_middle_61 : decode cX6_middle 61 = .ok (.invokevirtual 247, 3) := by decide +kernel
theorem dX6_middle_64 : decode cX6_middle 64 = .ok (.ireturn, 1) := by decide +kernel
theorem dX6_divisor_0 : decode cX6_divisor 0 = .ok (.lload_n 0, 1) := by decide +kernel
theorem dX6_divisor_1 : decode cX6_divisor 1 = .ok (.lstore 4, 2) := by decide +kernel
theorem dX6_divisor_3 : decode cX6_divisor 3 = .ok (.lload_n 2, 1) := by decide +kernel
theorem dX6_divisor_4 : decode cX6_divisor 4 = .ok (.lstore 6, 2) := by decide +kernel
theorem dX6_divisor_6 : decode cX6_divisor 6 = .ok (.lload 6, 2) := by decide +kernel
theorem dX6_divisor_8 : decode cX6_divisor 8 = .ok (.lconst 0, 1) := by decide +kernel
theorem dX6_divisor_9 : decode cX6_divisor 9 = .ok (.lcmp, 1) := by decide +kernel
theorem dX6_divisor_10 : decode cX6_divisor 10 = .ok (.ifCond .eq 21, 3) := by decide +kernel
theorem dX6_divisor_13 : decode cX6_divisor 13 = .ok (.lload 4, 2) := by decide +kernel
theorem dX6_divisor_15 : decode cX6_divisor 15 = .ok (.lload 6, 2) := by decide +kernel
theorem dX6_divisor_17 : decode cX6_divisor 17 = .ok (.lrem, 1) := by decide +kernel
theorem dX6_divisor_18 : decode cX6_divisor 18 = .ok (.lstore 8, 2) := by decide +kernel
theorem dX6_divisor_20 : decode cX6_divisor 20 = .ok (.lload 6, 2) := by decide +kernel
theorem dX6_divisor_22 : decode cX6_divisor 22 = .ok (.lstore 4, 2) := by decide +kernel
theorem dX6_divisor_24 : decode cX6_divisor 24 = .ok (.lload 8, 2) := by decide +kernel
theorem dX6_divisor_26 : decode cX6_divisor 26 = .ok (.lstore 6, 2) := by decide +kernel
theorem dX6_divisor_28 : decode cX6_divisor 28 = .ok (.goto (-22), 3) := by decide +kernel
theorem dX6_divisor_31 : decode cX6_divisor 31 = .ok (.lload 4, 2) := by decide +kernel
theorem dX6_divisor_33 : decode cX6_divisor 33 = .ok (.lreturn, 1) := by decide +kernel
set_option maxRecDepth 20000 in
theorem ggX6_partOf_X6_divisor : GoodIn wsX6_partOf wsX6_divisor := goodIn_r _ [4] (by decide +kernel) (by decide +kernel)
set_option maxRecDepth 20000 in
theorem gX6_partOf_X6_divisor : GoodIn wsX6_partOf (va_wsS RX6 250 yX6_divisor wsX6_divisor) := goodIn_app (goodIn_of _ (by decide +kernel)) ggX6_partOf_X6_divisor
theorem dX6_partOf_0 : decode cX6_partOf 0 = .ok (.iload 4, 2) := by decide +kernel
theorem dX6_partOf_2 : decode cX6_partOf 2 = .ok (.ifCond .ne 7, 3) := by decide +kernel
theorem dX6_partOf_5 : decode cX6_partOf 5 = .ok (.lload_n 0, 1) := by decide +kernel
theorem dX6_partOf_6 : decode cX6_partOf 6 = .ok (.goto 4, 3) := by decide +kernel
theorem dX6_partOf_9 : decode cX6_partOf 9 = .ok (.lload_n 2, 1) := by decide +kernel
theorem dX6_partOf_10 : decode cX6_partOf 10 = .ok (.lload_n 0, 1) := by decide +kernel
theorem dX6_partOf_11 : decode cX6_partOf 11 = .ok (.lload_n 2, 1) := by decide +kernel
theorem dX6_partOf_12 : decode cX6_partOf 12 = .ok (.invokestatic 250, 3) := by decide +kernel
theorem dX6_partOf_15 : decode cX6_partOf 15 = .ok (.ldiv, 1) := by decide +kernel
theorem dX6_partOf_16 : decode cX6_partOf 16 = .ok (.lreturn, 1) := by decide +kernel
set_option maxRecDepth 20000 in
theorem ggX6_wind_X6_isIn : GoodIn wsX6_wind wsX6_isIn := goodIn_r _ [4] (by decide +kernel) (by decide +kernel)
set_option maxRecDepth 20000 in
theorem gX6_wind_X6_isIn : GoodIn wsX6_wind (va_wsS RX6 84 yX6_isIn wsX6_isIn) := goodIn_app (goodIn_of _ (by decide +kernel)) ggX6_wind_X6_isIn
set_option maxRecDepth 20000 in
theorem ggX6_wind_X6_lowest : GoodIn wsX6_wind wsX6_lowest := goodIn_r _ [8, 9, 10, 120, 121, 122, 123, 124, 125, 126, 127, 128, 129, 130, 131, 132, 133, 134, 135, 136, 137, 138, 139, 140, 141, 142, 143, 144] (by decide +kernel) (by decide +kernel)
set_option maxRecDepth 20000 in
theorem gX6_wind_X6_lowest : GoodIn wsX6_wind (wsV RX6 254 RX6 yX6_lowest wsX6_lowest) := goodIn_app (goodIn_of _ (by decide +kernel)) ggX6_wind_X6_lowest
set_option maxRecDepth 20000 in
theorem ggX6_wind_X6_thinks : GoodIn wsX6_wind wsX6_thinks := goodIn_r _ [14, 15, 16, 17, 3, 18, 19, 20, 21, 22, 23, 24, 25, 26, 27, 28, 29, 30, 31, 32, 33, 34, 35, 36, 120, 121, 122, 123, 124, 125, 126, 127, 128, 129, 130, 131, 132, 133, 134, 135, 136, 137, 138, 139, 140, 141, 142, 143, 144] (by decide +kernel) (by decide +kernel)
set_option maxRecDepth 20000 in
theorem gX6_wind_X6_thinks : GoodIn wsX6_wind (wsV RX6 211 RX6 yX6_thinks wsX6_thinks) := goodIn_app (goodIn_of _ (by decide +kernel)) ggX6_wind_X6_thinks
set_option maxRecDepth 20000 in
theorem ggX6_wind_X6_has : GoodIn wsX6_wind wsX6_has := goodIn_r _ [39] (by decide +kernel) (by decide +kernel)
set_option maxRecDepth 20000 in
theorem gX6_wind_X6_has : GoodIn wsX6_wind (va_wsS RX6 62 yX6_has wsX6_has) := goodIn_app (goodIn_of _ (by decide +kernel)) ggX6_wind_X6_has
set_option maxRecDepth 20000 in
theorem ggX6_wind_X6_goesYear : GoodIn wsX6_wind wsX6_goesYear := goodIn_r _ [43, 26, 44, 27, 21, 25, 24, 45, 46, 47, 3, 48, 49, 50, 51, 52, 53, 54, 55, 56, 57, 37, 38, 39, 58, 59, 60, 61, 62, 63, 64, 65, 66, 67, 68, 69, 70, 71, 22, 72, 73, 74, 75, 23, 76, 77, 78, 79, 80, 81, 82, 83, 84, 85, 86, 87, 88, 89, 90, 91, 92, 93, 94, 95, 96, 97, 98, 99, 100, 101, 120, 121, 122, 123, 124, 125, 126, 127, 128, 129, 130, 131, 132, 133, 134, 135, 136, 137, 138, 139, 140, 141, 142, 143, 144] (by decide +kernel) (by decide +kernel)
set_option maxRecDepth 20000 in
theorem gX6_wind_X6_goesYear : GoodIn wsX6_wind (wsV RX6 198 RX6 yX6_goesYear wsX6_goesYear) := goodIn_app (goodIn_of _ (by decide +kernel)) ggX6_wind_X6_goesYear
set_option maxRecDepth 20000 in
theorem ggX6_wind_X6_believers : GoodIn wsX6_wind wsX6_believers := goodIn_r _ [105, 26, 53, 54, 55, 3, 56, 57, 37, 38, 39, 58, 59, 60, 61, 25, 120, 121, 122, 123, 124, 125, 126, 127, 128, 129, 130, 131, 132, 133, 134, 135, 136, 137, 138, 139, 140, 141, 142, 143, 144] (by decide +kernel) (by decide +kernel)
set_option maxRecDepth 20000 in
theorem gX6_wind_X6_believers : GoodIn wsX6_wind (wsV RX6 202 RX6 yX6_believers wsX6_believers) := goodIn_app (goodIn_of _ (by decide +kernel)) ggX6_wind_X6_believers
set_option maxRecDepth 20000 in
theorem ggX6_wind_X6_everybody : GoodIn wsX6_wind wsX6_everybody := goodIn_r _ [109, 26, 120, 121, 122, 123, 124, 125, 126, 127, 128, 129, 130, 131, 132, 133, 134, 135, 136, 137, 138, 139, 140, 141, 142, 143, 144] (by decide +kernel) (by decide +kernel)
set_option maxRecDepth 20000 in
theorem gX6_wind_X6_everybody : GoodIn wsX6_wind (wsV RX6 220 RX6 yX6_everybody wsX6_everybody) := goodIn_app (goodIn_of _ (by decide +kernel)) ggX6_wind_X6_everybody
set_option maxRecDepth 20000 in
theorem ggX6_wind_X6_forgets : GoodIn wsX6_wind wsX6_forgets := goodIn_r _ [113, 15, 16, 17, 3, 18, 19, 20, 21, 22, 23, 24, 25, 26, 27, 28, 29, 30, 31, 32, 33, 34, 35, 36, 120, 121, 122, 123, 124, 125, 126, 127, 128, 129, 130, 131, 132, 133, 134, 135, 136, 137, 138, 139, 140, 141, 142, 143, 144] (by decide +kernel) (by decide +kernel)
set_option maxRecDepth 20000 in
theorem gX6_wind_X6_forgets : GoodIn wsX6_wind (wsV RX6 214 RX6 yX6_forgets wsX6_forgets) := goodIn_app (goodIn_of _ (by decide +kernel)) ggX6_wind_X6_forgets
set_option maxRecDepth 20000 in
theorem ggX6_wind_X6_partOf : GoodIn wsX6_wind wsX6_partOf := goodIn_r _ [116, 117, 118, 3, 119] (by decide +kernel) (by decide +kernel)
set_option maxRecDepth 20000 in
theorem gX6_wind_X6_partOf : GoodIn wsX6_wind (va_wsS RX6 258 yX6_partOf wsX6_partOf) := goodIn_app (goodIn_of _ (by decide +kernel)) ggX6_wind_X6_partOf
theorem dX6_wind_0 : decode cX6_wind 0 = .ok (.iload_n 1, 1) := by decide +kernel
theorem dX6_wind_1 : decode cX6_wind 1 = .ok (.ifCond .lt 8, 3) := by decide +kernel
theorem dX6_wind_4 : decode cX6_wind 4 = .ok (.iload_n 2, 1) := by decide +kernel
theorem dX6_wind_5 : decode cX6_wind 5 = .ok (.iconst 2, 1) := by decide +kernel
theorem dX6_wind_6 : decode cX6_wind 6 = .ok (.if_icmp .ge 8, 3) := by decide +kernel
theorem dX6_wind_9 : decode cX6_wind 9 = .ok (.bipush (-4), 2) := by decide +kernel
theorem dX6_wind_11 : decode cX6_wind 11 = .ok (.goto 35, 3) := by decide +kernel
theorem dX6_wind_14 : decode cX6_wind 14 = .ok (.iload_n 1, 1) := by decide +kernel
theorem dX6_wind_15 : decode cX6_wind 15 = .ok (.bipush 7, 2) := by decide +kernel
theorem dX6_wind_17 : decode cX6_wind 17 = .ok (.if_icmp .gt 9, 3) := by decide +kernel
theorem dX6_wind_20 : decode cX6_wind 20 = .ok (.iload_n 2, 1) := by decide +kernel
theorem dX6_wind_21 : decode cX6_wind 21 = .ok (.bipush 20, 2) := by decide +kernel
theorem dX6_wind_23 : decode cX6_wind 23 = .ok (.if_icmp .le 8, 3) := by decide +kernel
theorem dX6_wind_26 : decode cX6_wind 26 = .ok (.bipush (-6), 2) := by decide +kernel
theorem dX6_wind_28 : decode cX6_wind 28 = .ok (.goto 18, 3) := by decide +kernel
theorem dX6_wind_31 : decode cX6_wind 31 = .ok (.iload_n 3, 1) := by decide +kernel
theorem dX6_wind_32 : decode cX6_wind 32 = .ok (.iconst 0, 1) := by decide +kernel
theorem dX6_wind_33 : decode cX6_wind 33 = .ok (.iconst 1, 1) := by decide +kernel
theorem dX6_wind_34 : decode cX6_wind 34 = .ok (.invokestatic 84, 3) := by decide +kernel
theorem dX6_wind_37 : decode cX6_wind 37 = .ok (.ifCond .ne 8, 3) := by decide +kernel
theorem dX6_wind_40 : decode cX6_wind 40 = .ok (.bipush (-2), 2) := by decide +kernel
theorem dX6_wind_42 : decode cX6_wind 42 = .ok (.goto 4, 3) := by decide +kernel
theorem dX6_wind_45 : decode cX6_wind 45 = .ok (.iconst 0, 1) := by decide +kernel
theorem dX6_wind_46 : decode cX6_wind 46 = .ok (.istore 4, 2) := by decide +kernel
theorem dX6_wind_48 : decode cX6_wind 48 = .ok (.iload 4, 2) := by decide +kernel
theorem dX6_wind_50 : decode cX6_wind 50 = .ok (.ifCond .eq 10, 3) := by decide +kernel
theorem dX6_wind_53 : decode cX6_wind 53 = .ok (.aload_n 0, 1) := by decide +kernel
theorem dX6_wind_54 : decode cX6_wind 54 = .ok (.iload 4, 2) := by decide +kernel
theorem dX6_wind_56 : decode cX6_wind 56 = .ok (.invokevirtual 254, 3) := by decide +kernel
theorem dX6_wind_59 : decode cX6_wind 59 = .ok (.lreturn, 1) := by decide +kernel
theorem dX6_wind_60 : decode cX6_wind 60 = .ok (.lconst 0, 1) := by decide +kernel
theorem dX6_wind_61 : decode cX6_wind 61 = .ok (.lstore 5, 2) := by decide +kernel
theorem dX6_wind_63 : decode cX6_wind 63 = .ok (.lconst 1, 1) := by decide +kernel
theorem dX6_wind_64 : decode cX6_wind 64 = .ok (.lstore 7, 2) := by decide +kernel
theorem dX6_wind_66 : decode cX6_wind 66 = .ok (.iconst 0, 1) := by decide +kernel
theorem dX6_wind_67 : decode cX6_wind 67 = .ok (.istore 9, 2) := by decide +kernel
theorem dX6_wind_69 : decode cX6_wind 69 = .ok (.iload 9, 2) := by decide +kernel
theorem dX6_wind_71 : decode cX6_wind 71 = .ok (.iload_n 1, 1) := by decide +kernel
theorem dX6_wind_72 : decode cX6_wind 72 = .ok (.if_icmp .ge 16, 3) := by decide +kernel
theorem dX6_wind_75 : decode cX6_wind 75 = .ok (.lload 7, 2) := by decide +kernel
theorem dX6_wind_77 : decode cX6_wind 77 = .ok (.iload_n 2, 1) := by decide +kernel
theorem dX6_wind_78 : decode cX6_wind 78 = .ok (.i2l, 1) := by decide +kernel
theorem dX6_wind_79 : decode cX6_wind 79 = .ok (.lmul, 1) := by decide +kernel
theorem dX6_wind_80 : decode cX6_wind 80 = .ok (.lstore 7, 2) := by decide +kernel
theorem dX6_wind_82 : decode cX6_wind 82 = .ok (.iinc 9 1, 3) := by decide +kernel
theorem dX6_wind_85 : decode cX6_wind 85 = .ok (.goto (-16), 3) := by decide +kernel
theorem dX6_wind_88 : decode cX6_wind 88 = .ok (.iconst 0, 1) := by decide +kernel
theorem dX6_wind_89 : decode cX6_wind 89 = .ok (.istore 9, 2) := by decide +kernel
theorem dX6_wind_91 : decode cX6_wind 91 = .ok (.iload 9, 2) := by decide +kernel
theorem dX6_wind_93 : decode cX6_wind 93 = .ok (.iconst 1, 1) := by decide +kernel
theorem dX6_wind_94 : decode cX6_wind 94 = .ok (.iload_n 1, 1) := by decide +kernel
theorem dX6_wind_95 : decode cX6_wind 95 = .ok (.ishl, 1) := by decide +kernel
theorem dX6_wind_96 : decode cX6_wind 96 = .ok (.if_icmp .ge 91, 3) := by decide +kernel
theorem dX6_wind_99 : decode cX6_wind 99 = .ok (.aload_n 0, 1) := by decide +kernel
theorem dX6_wind_100 : decode cX6_wind 100 = .ok (.invokevirtual 211, 3) := by decide +kernel
theorem dX6_wind_103 : decode cX6_wind 103 = .ok (.lconst 1, 1) := by decide +kernel
theorem dX6_wind_104 : decode cX6_wind 104 = .ok (.lstore 10, 2) := by decide +kernel
theorem dX6_wind_106 : decode cX6_wind 106 = .ok (.iconst 0, 1) := by decide +kernel
theorem dX6_wind_107 : decode cX6_wind 107 = .ok (.istore 12, 2) := by decide +kernel
theorem dX6_wind_109 : decode cX6_wind 109 = .ok (.iload 12, 2) := by decide +kernel
theorem dX6_wind_111 : decode cX6_wind 111 = .ok (.iload_n 1, 1) := by decide +kernel
theorem dX6_wind_112 : decode cX6_wind 112 = .ok (.if_icmp .ge 43, 3) := by decide +kernel
theorem dX6_wind_115 : decode cX6_wind 115 = .ok (.lload 10, 2) := by decide +kernel
theorem dX6_wind_117 : decode cX6_wind 117 = .ok (.iload 9, 2) := by decide +kernel
theorem dX6_wind_119 : decode cX6_wind 119 = .ok (.iload 12, 2) := by decide +kernel
theorem dX6_wind_121 : decode cX6_wind 121 = .ok (.invokestatic 62, 3) := by decide +kernel
theorem dX6_wind_124 : decode cX6_wind 124 = .ok (.ifCond .eq 7, 3) := by decide +kernel
theorem dX6_wind_127 : decode cX6_wind 127 = .ok (.lconst 1, 1) := by decide +kernel
theorem dX6_wind_128 : decode cX6_wind 128 = .ok (.goto 7, 3) := by decide +kernel
theorem dX6_wind_131 : decode cX6_wind 131 = .ok (.iload_n 2, 1) := by decide +kernel
theorem dX6_wind_132 : decode cX6_wind 132 = .ok (.iconst 1, 1) := by decide +kernel
theorem dX6_wind_133 : decode cX6_wind 133 = .ok (.isub, 1) := by decide +kernel
theorem dX6_wind_134 : decode cX6_wind 134 = .ok (.i2l, 1) := by decide +kernel
theorem dX6_wind_135 : decode cX6_wind 135 = .ok (.lmul, 1) := by decide +kernel
theorem dX6_wind_136 : decode cX6_wind 136 = .ok (.lstore 10, 2) := by decide +kernel
theorem dX6_wind_138 : decode cX6_wind 138 = .ok (.aload_n 0, 1) := by decide +kernel
theorem dX6_wind_139 : decode cX6_wind 139 = .ok (.iload 9, 2) := by decide +kernel
theorem dX6_wind_141 : decode cX6_wind 141 = .ok (.iload 12, 2) := by decide +kernel
theorem dX6_wind_143 : decode cX6_wind 143 = .ok (.invokestatic 62, 3) := by decide +kernel
theorem dX6_wind_146 : decode cX6_wind 146 = .ok (.invokevirtual 198, 3) := by decide +kernel
theorem dX6_wind_149 : decode cX6_wind 149 = .ok (.iinc 12 1, 3) := by decide +kernel
theorem dX6_wind_152 : decode cX6_wind 152 = .ok (.goto (-43), 3) := by decide +kernel
theorem dX6_wind_155 : decode cX6_wind 155 = .ok (.lload 5, 2) := by decide +kernel
theorem dX6_wind_157 : decode cX6_wind 157 = .ok (.aload_n 0, 1) := by decide +kernel
theorem dX6_wind_158 : decode cX6_wind 158 = .ok (.invokevirtual 202, 3) := by decide +kernel
theorem dX6_wind_161 : decode cX6_wind 161 = .ok (.aload_n 0, 1) := by decide +kernel
theorem dX6_wind_162 : decode cX6_wind 162 = .ok (.invokevirtual 220, 3) := by decide +kernel
theorem dX6_wind_165 : decode cX6_wind 165 = .ok (.if_icmp .ne 8, 3) := by decide +kernel
theorem dX6_wind_168 : decode cX6_wind 168 = .ok (.lload 10, 2) := by decide +kernel
theorem dX6_wind_170 : decode cX6_wind 170 = .ok (.goto 4, 3) := by decide +kernel
theorem dX6_wind_173 : decode cX6_wind 173 = .ok (.lconst 0, 1) := by decide +kernel
theorem dX6_wind_174 : decode cX6_wind 174 = .ok (.ladd, 1) := by decide +kernel
theorem dX6_wind_175 : decode cX6_wind 175 = .ok (.lstore 5, 2) := by decide +kernel
theorem dX6_wind_177 : decode cX6_wind 177 = .ok (.aload_n 0, 1) := by decide +kernel
theorem dX6_wind_178 : decode cX6_wind 178 = .ok (.invokevirtual 214, 3) := by decide +kernel
theorem dX6_wind_181 : decode cX6_wind 181 = .ok (.iinc 9 1, 3) := by decide +kernel
theorem dX6_wind_184 : decode cX6_wind 184 = .ok (.goto (-93), 3) := by decide +kernel
theorem dX6_wind_187 : decode cX6_wind 187 = .ok (.lload 5, 2) := by decide +kernel
theorem dX6_wind_189 : decode cX6_wind 189 = .ok (.lload 7, 2) := by decide +kernel
theorem dX6_wind_191 : decode cX6_wind 191 = .ok (.iload_n 3, 1) := by decide +kernel
theorem dX6_wind_192 : decode cX6_wind 192 = .ok (.invokestatic 258, 3) := by decide +kernel
theorem dX6_wind_195 : decode cX6_wind 195 = .ok (.lreturn, 1) := by decide +kernel
set_option maxRecDepth 20000 in
theorem ggX6_mean_X6_isIn : GoodIn wsX6_mean wsX6_isIn := goodIn_r _ [6] (by decide +kernel) (by decide +kernel)
set_option maxRecDepth 20000 in
theorem gX6_mean_X6_isIn : GoodIn wsX6_mean (va_wsS RX6 84 yX6_isIn wsX6_isIn) := goodIn_app (goodIn_of _ (by decide +kernel)) ggX6_mean_X6_isIn
set_option maxRecDepth 20000 in
theorem ggX6_mean_X6_lowest : GoodIn wsX6_mean wsX6_lowest := goodIn_r _ [10, 11, 12, 19, 20, 21, 22, 23, 24, 25, 26, 27, 28, 29, 30, 31, 32, 33, 34, 35, 36, 37, 38, 39, 40, 41, 42, 43] (by decide +kernel) (by decide +kernel)
set_option maxRecDepth 20000 in
theorem gX6_mean_X6_lowest : GoodIn wsX6_mean (wsV RX6 254 RX6 yX6_lowest wsX6_lowest) := goodIn_app (goodIn_of _ (by decide +kernel)) ggX6_mean_X6_lowest
set_option maxRecDepth 20000 in
theorem ggX6_mean_X6_partOf : GoodIn wsX6_mean wsX6_partOf := goodIn_r _ [15, 16, 17, 5, 18] (by decide +kernel) (by decide +kernel)
set_option maxRecDepth 20000 in
theorem gX6_mean_X6_partOf : GoodIn wsX6_mean (va_wsS RX6 258 yX6_partOf wsX6_partOf) := goodIn_app (goodIn_of _ (by decide +kernel)) ggX6_mean_X6_partOf
theorem dX6_mean_0 : decode cX6_mean 0 = .ok (.iload_n 1, 1) := by decide +kernel
theorem dX6_mean_1 : decode cX6_mean 1 = .ok (.iconst 0, 1) := by decide +kernel
theorem dX6_mean_2 : decode cX6_mean 2 = .ok (.iconst 1, 1) := by decide +kernel
theorem dX6_mean_3 : decode cX6_mean 3 = .ok (.invokestatic 84, 3) := by decide +kernel
theorem dX6_mean_6 : decode cX6_mean 6 = .ok (.ifCond .ne 10, 3) := by decide +kernel
theorem dX6_mean_9 : decode cX6_mean 9 = .ok (.aload_n 0, 1) := by decide +kernel
theorem dX6_mean_10 : decode cX6_mean 10 = .ok (.bipush (-2), 2) := by decide +kernel
theorem dX6_mean_12 : decode cX6_mean 12 = .ok (.invokevirtual 254, 3) := by decide +kernel
theorem dX6_mean_15 : decode cX6_mean 15 = .ok (.lreturn, 1) := by decide +kernel
theorem dX6_mean_16 : decode cX6_mean 16 = .ok (.lconst 0, 1) := by decide +kernel
theorem dX6_mean_17 : decode cX6_mean 17 = .ok (.lstore_n 2, 1) := by decide +kernel
theorem dX6_mean_18 : decode cX6_mean 18 = .ok (.iconst 0, 1) := by decide +kernel
theorem dX6_mean_19 : decode cX6_mean 19 = .ok (.istore 4, 2) := by decide +kernel
theorem dX6_mean_21 : decode cX6_mean 21 = .ok (.iload 4, 2) := by decide +kernel
theorem dX6_mean_23 : decode cX6_mean 23 = .ok (.aload_n 0, 1) := by decide +kernel
theorem dX6_mean_24 : decode cX6_mean 24 = .ok (.getfield 52, 3) := by decide +kernel
theorem dX6_mean_27 : decode cX6_mean 27 = .ok (.if_icmp .ge 20, 3) := by decide +kernel
theorem dX6_mean_30 : decode cX6_mean 30 = .ok (.lload_n 2, 1) := by decide +kernel
theorem dX6_mean_31 : decode cX6_mean 31 = .ok (.aload_n 0, 1) := by decide +kernel
theorem dX6_mean_32 : decode cX6_mean 32 = .ok (.getfield 25, 3) := by decide +kernel
theorem dX6_mean_35 : decode cX6_mean 35 = .ok (.iload 4, 2) := by decide +kernel
theorem dX6_mean_37 : decode cX6_mean 37 = .ok (.iaload, 1) := by decide +kernel
theorem dX6_mean_38 : decode cX6_mean 38 = .ok (.i2l, 1) := by decide +kernel
theorem dX6_mean_39 : decode cX6_mean 39 = .ok (.ladd, 1) := by decide +kernel
theorem dX6_mean_40 : decode cX6_mean 40 = .ok (.lstore_n 2, 1) := by decide +kernel
theorem dX6_mean_41 : decode cX6_mean 41 = .ok (.iinc 4 1, 3) := by decide +kernel
theorem dX6_mean_44 : decode cX6_mean 44 = .ok (.goto (-23), 3) := by decide +kernel
theorem dX6_mean_47 : decode cX6_mean 47 = .ok (.aload_n 0, 1) := by decide +kernel
theorem dX6_mean_48 : decode cX6_mean 48 = .ok (.getfield 52, 3) := by decide +kernel
theorem dX6_mean_51 : decode cX6_mean 51 = .ok (.ifCond .ne 8, 3) := by decide +kernel
theorem dX6_mean_54 : decode cX6_mean 54 = .ok (.iload_n 1, 1) := by decide +kernel
theorem dX6_mean_55 : decode cX6_mean 55 = .ok (.i2l, 1) := by decide +kernel
theorem dX6_mean_56 : decode cX6_mean 56 = .ok (.goto 13, 3) := by decide +kernel
theorem dX6_mean_59 : decode cX6_mean 59 = .ok (.lload_n 2, 1) := by decide +kernel
theorem dX6_mean_60 : decode cX6_mean 60 = .ok (.aload_n 0, 1) := by decide +kernel
theorem dX6_mean_61 : decode cX6_mean 61 = .ok (.getfield 52, 3) := by decide +kernel
theorem dX6_mean_64 : decode cX6_mean 64 = .ok (.i2l, 1) := by decide +kernel
theorem dX6_mean_65 : decode cX6_mean 65 = .ok (.iload_n 1, 1) := by decide +kernel
theorem dX6_mean_66 : decode cX6_mean 66 = .ok (.invokestatic 258, 3) := by decide +kernel
theorem dX6_mean_69 : decode cX6_mean 69 = .ok (.lreturn, 1) := by decide +kernel
set_option maxRecDepth 20000 in
theorem ggX6_manyIf_X6_passesAll : GoodIn wsX6_manyIf wsX6_passesAll := goodIn_r _ [6, 7, 8, 9, 10, 11, 12, 1, 13, 14, 15, 16, 17, 5, 18, 19, 20, 21, 22, 23, 112, 113, 114, 115, 116, 117, 118, 119, 120, 121, 122, 123, 124, 125, 126, 127, 128, 129, 130, 131, 132, 133, 134, 135, 136] (by decide +kernel) (by decide +kernel)
set_option maxRecDepth 20000 in
theorem gX6_manyIf_X6_passesAll : GoodIn wsX6_manyIf (wsV RX6 128 RX6 yX6_passesAll wsX6_passesAll) := goodIn_app (goodIn_of _ (by decide +kernel)) ggX6_manyIf_X6_passesAll
set_option maxRecDepth 20000 in
theorem ggX6_manyIf_X6_believersIn : GoodIn wsX6_manyIf wsX6_believersIn := goodIn_r _ [27, 28, 29, 30, 5, 31, 2, 3, 4, 6, 7, 8, 9, 10, 11, 12, 1, 13, 14, 15, 16, 17, 18, 19, 20, 21, 22, 23, 32, 33, 34, 35, 36, 37, 38, 39, 40, 41, 42, 43, 44, 45, 46, 47, 48, 49, 50, 51, 52, 53, 54, 55, 56, 57, 58, 59, 60, 61, 62, 63, 64, 65, 66, 67, 68, 69, 70, 71, 72, 73, 74, 75, 76, 77, 78, 79, 80, 81, 82, 83, 84, 85, 86, 87, 88, 89, 90, 91, 92, 93, 94, 95, 96, 97, 98, 99, 100, 101, 102, 103, 104, 105, 106, 107, 108, 112, 113, 114, 115, 116, 117, 118, 119, 120, 121, 122, 123, 124, 125, 126, 127, 128, 129, 130, 131, 132, 133, 134, 135, 136] (by decide +kernel) (by decide +kernel)
set_option maxRecDepth 20000 in
theorem gX6_manyIf_X6_believersIn : GoodIn wsX6_manyIf (wsV RX6 217 RX6 yX6_believersIn wsX6_believersIn) := goodIn_app (goodIn_of _ (by decide +kernel)) ggX6_manyIf_X6_believersIn
set_option maxRecDepth 20000 in
theorem ggX6_manyIf_X6_bits : GoodIn wsX6_manyIf wsX6_bits := goodIn_r _ [111] (by decide +kernel) (by decide +kernel)
set_option maxRecDepth 20000 in
theorem gX6_manyIf_X6_bits : GoodIn wsX6_manyIf (va_wsS RX6 205 yX6_bits wsX6_bits) := goodIn_app (goodIn_of _ (by decide +kernel)) ggX6_manyIf_X6_bits
theorem dX6_manyIf_0 : decode cX6_manyIf 0 = .ok (.aload_n 0, 1) := by decide +kernel
theorem dX6_manyIf_1 : decode cX6_manyIf 1 = .ok (.iconst 1, 1) := by decide +kernel
theorem dX6_manyIf_2 : decode cX6_manyIf 2 = .ok (.iconst 1, 1) := by decide +kernel
theorem dX6_manyIf_3 : decode cX6_manyIf 3 = .ok (.invokevirtual 128, 3) := by decide +kernel
theorem dX6_manyIf_6 : decode cX6_manyIf 6 = .ok (.aload_n 0, 1) := by decide +kernel
theorem dX6_manyIf_7 : decode cX6_manyIf 7 = .ok (.getfield 25, 3) := by decide +kernel
theorem dX6_manyIf_10 : decode cX6_manyIf 10 = .ok (.iload_n 1, 1) := by decide +kernel
theorem dX6_manyIf_11 : decode cX6_manyIf 11 = .ok (.bipush 9, 2) := by decide +kernel
theorem dX6_manyIf_13 : decode cX6_manyIf 13 = .ok (.iload_n 2, 1) := by decide +kernel
theorem dX6_manyIf_14 : decode cX6_manyIf 14 = .ok (.imul, 1) := by decide +kernel
theorem dX6_manyIf_15 : decode cX6_manyIf 15 = .ok (.iastore, 1) := by decide +kernel
theorem dX6_manyIf_16 : decode cX6_manyIf 16 = .ok (.aload_n 0, 1) := by decide +kernel
theorem dX6_manyIf_17 : decode cX6_manyIf 17 = .ok (.getfield 25, 3) := by decide +kernel
theorem dX6_manyIf_20 : decode cX6_manyIf 20 = .ok (.iload_n 3, 1) := by decide +kernel
theorem dX6_manyIf_21 : decode cX6_manyIf 21 = .ok (.bipush 9, 2) := by decide +kernel
theorem dX6_manyIf_23 : decode cX6_manyIf 23 = .ok (.iload 4, 2) := by decide +kernel
theorem dX6_manyIf_25 : decode cX6_manyIf 25 = .ok (.imul, 1) := by decide +kernel
theorem dX6_manyIf_26 : decode cX6_manyIf 26 = .ok (.iastore, 1) := by decide +kernel
theorem dX6_manyIf_27 : decode cX6_manyIf 27 = .ok (.aload_n 0, 1) := by decide +kernel
theorem dX6_manyIf_28 : decode cX6_manyIf 28 = .ok (.iload 5, 2) := by decide +kernel
theorem dX6_manyIf_30 : decode cX6_manyIf 30 = .ok (.invokevirtual 217, 3) := by decide +kernel
theorem dX6_manyIf_33 : decode cX6_manyIf 33 = .ok (.invokestatic 205, 3) := by decide +kernel
theorem dX6_manyIf_36 : decode cX6_manyIf 36 = .ok (.istore 6, 2) := by decide +kernel
theorem dX6_manyIf_38 : decode cX6_manyIf 38 = .ok (.aload_n 0, 1) := by decide +kernel
theorem dX6_manyIf_39 : decode cX6_manyIf 39 = .ok (.iconst 1, 1) := by decide +kernel
theorem dX6_manyIf_40 : decode cX6_manyIf 40 = .ok (.iconst 0, 1) := by decide +kernel
theorem dX6_manyIf_41 : decode cX6_manyIf 41 = .ok (.invokevirtual 128, 3) := by decide +kernel
theorem dX6_manyIf_44 : decode cX6_manyIf 44 = .ok (.iload 6, 2) := by decide +kernel
theorem dX6_manyIf_46 : decode cX6_manyIf 46 = .ok (.ireturn, 1) := by decide +kernel
set_option maxRecDepth 20000 in
theorem ggX6_two_X6_isOne : GoodIn wsX6_two wsX6_isOne := goodIn_r _ [6, 7, 132, 133, 134, 135, 136, 137, 138, 139, 140, 141, 142, 143, 144, 145, 146, 147, 148, 149, 150, 151, 152, 153, 154, 155, 156] (by decide +kernel) (by decide +kernel)
set_option maxRecDepth 20000 in
theorem gX6_two_X6_isOne : GoodIn wsX6_two (wsV RX6 118 RX6 yX6_isOne wsX6_isOne) := goodIn_app (goodIn_of _ (by decide +kernel)) ggX6_two_X6_isOne
set_option maxRecDepth 20000 in
theorem ggX6_two_X6_notYears : GoodIn wsX6_two wsX6_notYears := goodIn_r _ [10, 11, 12, 5, 13] (by decide +kernel) (by decide +kernel)
set_option maxRecDepth 20000 in
theorem gX6_two_X6_notYears : GoodIn wsX6_two (va_wsS RX6 208 yX6_notYears wsX6_notYears) := goodIn_app (goodIn_of _ (by decide +kernel)) ggX6_two_X6_notYears
set_option maxRecDepth 20000 in
theorem ggX6_two_X6_no : GoodIn wsX6_two wsX6_no := goodIn_r _ [17, 18, 132, 133, 134, 135, 136, 137, 138, 139, 140, 141, 142, 143, 144, 145, 146, 147, 148, 149, 150, 151, 152, 153, 154, 155, 156] (by decide +kernel) (by decide +kernel)
set_option maxRecDepth 20000 in
theorem gX6_two_X6_no : GoodIn wsX6_two (wsV RX6 73 RX6 yX6_no wsX6_no) := goodIn_app (goodIn_of _ (by decide +kernel)) ggX6_two_X6_no
set_option maxRecDepth 20000 in
theorem ggX6_two_X6_manyIf : GoodIn wsX6_two wsX6_manyIf := goodIn_r _ [22, 23, 24, 25, 26, 5, 27, 28, 29, 30, 31, 32, 33, 7, 34, 35, 36, 37, 38, 39, 40, 41, 42, 43, 44, 45, 46, 47, 48, 49, 50, 51, 52, 53, 54, 55, 56, 57, 58, 59, 60, 61, 62, 63, 64, 65, 66, 67, 68, 69, 70, 71, 72, 73, 74, 75, 76, 77, 78, 79, 80, 81, 82, 83, 84, 85, 86, 87, 88, 89, 90, 91, 92, 93, 94, 95, 96, 97, 98, 99, 100, 101, 102, 103, 104, 105, 106, 107, 108, 109, 110, 111, 112, 113, 114, 115, 116, 117, 118, 119, 120, 121, 122, 123, 124, 125, 126, 127, 128, 129, 130, 131, 132, 133, 134, 135, 136, 137, 138, 139, 140, 141, 142, 143, 144, 145, 146, 147, 148, 149, 150, 151, 152, 153, 154, 155, 156] (by decide +kernel) (by decide +kernel)
set_option maxRecDepth 20000 in
theorem gX6_two_X6_manyIf : GoodIn wsX6_two (wsV RX6 262 RX6 yX6_manyIf wsX6_manyIf) := goodIn_app (goodIn_of _ (by decide +kernel)) ggX6_two_X6_manyIf
theorem dX6_two_0 : decode cX6_two 0 = .ok (.aload_n 0, 1) := by decide +kernel
theorem dX6_two_1 : decode cX6_two 1 = .ok (.iload_n 1, 1) := by decide +kernel
theorem dX6_two_2 : decode cX6_two 2 = .ok (.invokevirtual 118, 3) := by decide +kernel
theorem dX6_two_5 : decode cX6_two 5 = .ok (.ifCond .eq 16, 3) := by decide +kernel
theorem dX6_two_8 : decode cX6_two 8 = .ok (.aload_n 0, 1) := by decide +kernel
theorem dX6_two_9 : decode cX6_two 9 = .ok (.iload_n 2, 1) := by decide +kernel
theorem dX6_two_10 : decode cX6_two 10 = .ok (.invokevirtual 118, 3) := by decide +kernel
theorem dX6_two_13 : decode cX6_two 13 = .ok (.ifCond .eq 8, 3) := by decide +kernel
theorem dX6_two_16 : decode cX6_two 16 = .ok (.iload_n 1, 1) := by decide +kernel
theorem dX6_two_17 : decode cX6_two 17 = .ok (.iload_n 2, 1) := by decide +kernel
theorem dX6_two_18 : decode cX6_two 18 = .ok (.if_icmp .ne 7, 3) := by decide +kernel
theorem dX6_two_21 : decode cX6_two 21 = .ok (.iconst (-1), 1) := by decide +kernel
theorem dX6_two_22 : decode cX6_two 22 = .ok (.goto 7, 3) := by decide +kernel
theorem dX6_two_25 : decode cX6_two 25 = .ok (.iload_n 3, 1) := by decide +kernel
theorem dX6_two_26 : decode cX6_two 26 = .ok (.invokestatic 208, 3) := by decide +kernel
theorem dX6_two_29 : decode cX6_two 29 = .ok (.istore 4, 2) := by decide +kernel
theorem dX6_two_31 : decode cX6_two 31 = .ok (.iload 4, 2) := by decide +kernel
theorem dX6_two_33 : decode cX6_two 33 = .ok (.ifCond .eq 10, 3) := by decide +kernel
theorem dX6_two_36 : decode cX6_two 36 = .ok (.aload_n 0, 1) := by decide +kernel
theorem dX6_two_37 : decode cX6_two 37 = .ok (.iload 4, 2) := by decide +kernel
theorem dX6_two_39 : decode cX6_two 39 = .ok (.invokevirtual 73, 3) := by decide +kernel
theorem dX6_two_42 : decode cX6_two 42 = .ok (.ireturn, 1) := by decide +kernel
theorem dX6_two_43 : decode cX6_two 43 = .ok (.iconst 0, 1) := by decide +kernel
theorem dX6_two_44 : decode cX6_two 44 = .ok (.istore 5, 2) := by decide +kernel
theorem dX6_two_46 : decode cX6_two 46 = .ok (.iload 5, 2) := by decide +kernel
theorem dX6_two_48 : decode cX6_two 48 = .ok (.iconst 4, 1) := by decide +kernel
theorem dX6_two_49 : decode cX6_two 49 = .ok (.if_icmp .ge 31, 3) := by decide +kernel
theorem dX6_two_52 : decode cX6_two 52 = .ok (.aload_n 0, 1) := by decide +kernel
theorem dX6_two_53 : decode cX6_two 53 = .ok (.getfield 46, 3) := by decide +kernel
theorem dX6_two_56 : decode cX6_two 56 = .ok (.iload 5, 2) := by decide +kernel
theorem dX6_two_58 : decode cX6_two 58 = .ok (.aload_n 0, 1) := by decide +kernel
theorem dX6_two_59 : decode cX6_two 59 = .ok (.iload_n 1, 1) := by decide +kernel
theorem dX6_two_60 : decode cX6_two 60 = .ok (.iload 5, 2) := by decide +kernel
theorem dX6_two_62 : decode cX6_two 62 = .ok (.iconst 2, 1) := by decide +kernel
theorem dX6_two_63 : decode cX6_two 63 = .ok (.idiv, 1) := by decide +kernel
theorem dX6_two_64 : decode cX6_two 64 = .ok (.iload_n 2, 1) := by decide +kernel
theorem dX6_two_65 : decode cX6_two 65 = .ok (.iload 5, 2) := by decide +kernel
theorem dX6_two_67 : decode cX6_two 67 = .ok (.iconst 2, 1) := by decide +kernel
theorem dX6_two_68 : decode cX6_two 68 = .ok (.irem, 1) := by decide +kernel
theorem dX6_two_69 : decode cX6_two 69 = .ok (.iload_n 3, 1) := by decide +kernel
theorem dX6_two_70 : decode cX6_two 70 = .ok (.invokevirtual 262, 3) := by decide +kernel
theorem dX6_two_73 : decode cX6_two 73 = .ok (.iastore, 1) := by decide +kernel
theorem dX6_two_74 : decode cX6_two 74 = .ok (.iinc 5 1, 3) := by decide +kernel
theorem dX6_two_77 : decode cX6_two 77 = .ok (.goto (-31), 3) := by decide +kernel
theorem dX6_two_80 : decode cX6_two 80 = .ok (.iconst 0, 1) := by decide +kernel
theorem dX6_two_81 : decode cX6_two 81 = .ok (.istore 5, 2) := by decide +kernel
theorem dX6_two_83 : decode cX6_two 83 = .ok (.iload 5, 2) := by decide +kernel
theorem dX6_two_85 : decode cX6_two 85 = .ok (.iconst 4, 1) := by decide +kernel
theorem dX6_two_86 : decode cX6_two 86 = .ok (.if_icmp .ge 60, 3) := by decide +kernel
theorem dX6_two_89 : decode cX6_two 89 = .ok (.aload_n 0, 1) := by decide +kernel
theorem dX6_two_90 : decode cX6_two 90 = .ok (.getfield 46, 3) := by decide +kernel
theorem dX6_two_93 : decode cX6_two 93 = .ok (.iload 5, 2) := by decide +kernel
theorem dX6_two_95 : decode cX6_two 95 = .ok (.iconst 2, 1) := by decide +kernel
theorem dX6_two_96 : decode cX6_two 96 = .ok (.ixor, 1) := by decide +kernel
theorem dX6_two_97 : decode cX6_two 97 = .ok (.iaload, 1) := by decide +kernel
theorem dX6_two_98 : decode cX6_two 98 = .ok (.aload_n 0, 1) := by decide +kernel
theorem dX6_two_99 : decode cX6_two 99 = .ok (.getfield 46, 3) := by decide +kernel
theorem dX6_two_102 : decode cX6_two 102 = .ok (.iload 5, 2) := by decide +kernel
theorem dX6_two_104 : decode cX6_two 104 = .ok (.iaload, 1) := by decide +kernel
theorem dX6_two_105 : decode cX6_two 105 = .ok (.if_icmp .gt 35, 3) := by decide +kernel
theorem dX6_two_108 : decode cX6_two 108 = .ok (.aload_n 0, 1) := by decide +kernel
theorem dX6_two_109 : decode cX6_two 109 = .ok (.getfield 46, 3) := by decide +kernel
theorem dX6_two_112 : decode cX6_two 112 = .ok (.iload 5, 2) := by decide +kernel
theorem dX6_two_114 : decode cX6_two 114 = .ok (.iconst 1, 1) := by decide +kernel
theorem dX6_two_115 : decode cX6_two 115 = .ok (.ixor, 1) := by decide +kernel
theorem dX6_two_116 : decode cX6_two 116 = .ok (.iaload, 1) := by decide +kernel
theorem dX6_two_117 : decode cX6_two 117 = .ok (.aload_n 0, 1) := by decide +kernel
theorem dX6_two_118 : decode cX6_two 118 = .ok (.getfield 46, 3) := by decide +kernel
theorem dX6_two_121 : decode cX6_two 121 = .ok (.iload 5, 2) := by decide +kernel
theorem dX6_two_123 : decode cX6_two 123 = .ok (.iaload, 1) := by decide +kernel
theorem dX6_two_124 : decode cX6_two 124 = .ok (.if_icmp .lt 16, 3) := by decide +kernel
theorem dX6_two_127 : decode cX6_two 127 = .ok (.bipush 10, 2) := by decide +kernel
theorem dX6_two_129 : decode cX6_two 129 = .ok (.iload 5, 2) := by decide +kernel
theorem dX6_two_131 : decode cX6_two 131 = .ok (.iconst 2, 1) := by decide +kernel
theorem dX6_two_132 : decode cX6_two 132 = .ok (.idiv, 1) := by decide +kernel
theorem dX6_two_133 : decode cX6_two 133 = .ok (.imul, 1) := by decide +kernel
theorem dX6_two_134 : decode cX6_two 134 = .ok (.iload 5, 2) := by decide +kernel
theorem dX6_two_136 : decode cX6_two 136 = .ok (.iconst 2, 1) := by decide +kernel
theorem dX6_two_137 : decode cX6_two 137 = .ok (.irem, 1) := by decide +kernel
theorem dX6_two_138 : decode cX6_two 138 = .ok (.iadd, 1) := by decide +kernel
theorem dX6_two_139 : decode cX6_two 139 = .ok (.ireturn, 1) := by decide +kernel
theorem dX6_two_140 : decode cX6_two 140 = .ok (.iinc 5 1, 3) := by decide +kernel
theorem dX6_two_143 : decode cX6_two 143 = .ok (.goto (-60), 3) := by decide +kernel
theorem dX6_two_146 : decode cX6_two 146 = .ok (.bipush (-9), 2) := by decide +kernel
theorem dX6_two_148 : decode cX6_two 148 = .ok (.ireturn, 1) := by decide +kernel
set_option maxRecDepth 20000 in
theorem ggX6_isSo_X6_thinks : GoodIn wsX6_isSo wsX6_thinks := goodIn_r _ [8, 9, 10, 11, 7, 12, 13, 14, 15, 16, 17, 18, 2, 19, 20, 21, 22, 23, 24, 25, 26, 27, 28, 29, 99, 100, 101, 102, 103, 104, 105, 106, 107, 108, 109, 110, 111, 112, 113, 114, 115, 116, 117, 118, 119, 120, 121, 122, 123] (by decide +kernel) (by decide +kernel)
set_option maxRecDepth 20000 in
theorem gX6_isSo_X6_thinks : GoodIn wsX6_isSo (wsV RX6 211 RX6 yX6_thinks wsX6_thinks) := goodIn_app (goodIn_of _ (by decide +kernel)) ggX6_isSo_X6_thinks
set_option maxRecDepth 20000 in
theorem ggX6_isSo_X6_goesYear : GoodIn wsX6_isSo wsX6_goesYear := goodIn_r _ [33, 19, 34, 20, 15, 2, 18, 35, 36, 37, 7, 38, 39, 40, 41, 42, 43, 44, 45, 46, 47, 48, 49, 50, 51, 52, 53, 54, 55, 56, 57, 58, 59, 60, 61, 62, 63, 64, 16, 65, 66, 67, 68, 17, 69, 70, 71, 72, 73, 74, 75, 76, 77, 78, 79, 80, 81, 82, 83, 84, 85, 86, 87, 88, 89, 90, 91, 92, 93, 94, 99, 100, 101, 102, 103, 104, 105, 106, 107, 108, 109, 110, 111, 112, 113, 114, 115, 116, 117, 118, 119, 120, 121, 122, 123] (by decide +kernel) (by decide +kernel)
set_option maxRecDepth 20000 in
theorem gX6_isSo_X6_goesYear : GoodIn wsX6_isSo (wsV RX6 198 RX6 yX6_goesYear wsX6_goesYear) := goodIn_app (goodIn_of _ (by decide +kernel)) ggX6_isSo_X6_goesYear
set_option maxRecDepth 20000 in
theorem ggX6_isSo_X6_forgets : GoodIn wsX6_isSo wsX6_forgets := goodIn_r _ [98, 9, 10, 11, 7, 12, 13, 14, 15, 16, 17, 18, 2, 19, 20, 21, 22, 23, 24, 25, 26, 27, 28, 29, 99, 100, 101, 102, 103, 104, 105, 106, 107, 108, 109, 110, 111, 112, 113, 114, 115, 116, 117, 118, 119, 120, 121, 122, 123] (by decide +kernel) (by decide +kernel)
set_option maxRecDepth 20000 in
theorem gX6_isSo_X6_forgets : GoodIn wsX6_isSo (wsV RX6 214 RX6 yX6_forgets wsX6_forgets) := goodIn_app (goodIn_of _ (by decide +kernel)) ggX6_isSo_X6_forgets
theorem dX6_isSo_0 : decode cX6_isSo 0 = .ok (.aload_n 0, 1) := by decide +kernel
theorem dX6_isSo_1 : decode cX6_isSo 1 = .ok (.invokevirtual 211, 3) := by decide +kernel
theorem dX6_isSo_4 : decode cX6_isSo 4 = .ok (.iconst 1, 1) := by decide +kernel
theorem dX6_isSo_5 : decode cX6_isSo 5 = .ok (.istore_n 2, 1) := by decide +kernel
theorem dX6_isSo_6 : decode cX6_isSo 6 = .ok (.iconst 0, 1) := by decide +kernel
theorem dX6_isSo_7 : decode cX6_isSo 7 = .ok (.istore_n 3, 1) := by decide +kernel
theorem dX6_isSo_8 : decode cX6_isSo 8 = .ok (.iload_n 3, 1) := by decide +kernel
theorem dX6_isSo_9 : decode cX6_isSo 9 = .ok (.aload_n 0, 1) := by decide +kernel
theorem dX6_isSo_10 : decode cX6_isSo 10 = .ok (.getfield 266, 3) := by decide +kernel
theorem dX6_isSo_13 : decode cX6_isSo 13 = .ok (.if_icmp .ge 39, 3) := by decide +kernel
theorem dX6_isSo_16 : decode cX6_isSo 16 = .ok (.iload_n 2, 1) := by decide +kernel
theorem dX6_isSo_17 : decode cX6_isSo 17 = .ok (.ifCond .eq 35, 3) := by decide +kernel
theorem dX6_isSo_20 : decode cX6_isSo 20 = .ok (.aload_n 0, 1) := by decide +kernel
theorem dX6_isSo_21 : decode cX6_isSo 21 = .ok (.getfield 25, 3) := by decide +kernel
theorem dX6_isSo_24 : decode cX6_isSo 24 = .ok (.iload_n 1, 1) := by decide +kernel
theorem dX6_isSo_25 : decode cX6_isSo 25 = .ok (.iaload, 1) := by decide +kernel
theorem dX6_isSo_26 : decode cX6_isSo 26 = .ok (.aload_n 0, 1) := by decide +kernel
theorem dX6_isSo_27 : decode cX6_isSo 27 = .ok (.getfield 49, 3) := by decide +kernel
theorem dX6_isSo_30 : decode cX6_isSo 30 = .ok (.iload_n 3, 1) := by decide +kernel
theorem dX6_isSo_31 : decode cX6_isSo 31 = .ok (.iaload, 1) := by decide +kernel
theorem dX6_isSo_32 : decode cX6_isSo 32 = .ok (.if_icmp .ne 7, 3) := by decide +kernel
theorem dX6_isSo_35 : decode cX6_isSo 35 = .ok (.iconst 1, 1) := by decide +kernel
theorem dX6_isSo_36 : decode cX6_isSo 36 = .ok (.goto 4, 3) := by decide +kernel
theorem dX6_isSo_39 : decode cX6_isSo 39 = .ok (.iconst 0, 1) := by decide +kernel
theorem dX6_isSo_40 : decode cX6_isSo 40 = .ok (.istore_n 2, 1) := by decide +kernel
theorem dX6_isSo_41 : decode cX6_isSo 41 = .ok (.aload_n 0, 1) := by decide +kernel
theorem dX6_isSo_42 : decode cX6_isSo 42 = .ok (.iconst 0, 1) := by decide +kernel
theorem dX6_isSo_43 : decode cX6_isSo 43 = .ok (.invokevirtual 198, 3) := by decide +kernel
theorem dX6_isSo_46 : decode cX6_isSo 46 = .ok (.iinc 3 1, 3) := by decide +kernel
theorem dX6_isSo_49 : decode cX6_isSo 49 = .ok (.goto (-41), 3) := by decide +kernel
theorem dX6_isSo_52 : decode cX6_isSo 52 = .ok (.aload_n 0, 1) := by decide +kernel
theorem dX6_isSo_53 : decode cX6_isSo 53 = .ok (.invokevirtual 214, 3) := by decide +kernel
theorem dX6_isSo_56 : decode cX6_isSo 56 = .ok (.iload_n 2, 1) := by decide +kernel
theorem dX6_isSo_57 : decode cX6_isSo 57 = .ok (.ireturn, 1) := by decide +kernel
set_option maxRecDepth 20000 in
theorem ggX6_bitsFor_X6_isSo : GoodIn wsX6_bitsFor wsX6_isSo := goodIn_r _ [5, 6, 7, 8, 9, 10, 11, 4, 12, 13, 14, 15, 16, 17, 18, 19, 20, 21, 22, 23, 24, 25, 26, 27, 28, 29, 30, 31, 32, 33, 34, 35, 36, 37, 38, 39, 40, 41, 42, 43, 44, 45, 46, 47, 48, 49, 50, 51, 52, 53, 54, 55, 56, 57, 58, 59, 60, 61, 62, 63, 64, 65, 66, 67, 68, 69, 70, 71, 72, 73, 74, 75, 76, 77, 78, 79, 80, 81, 82, 83, 84, 85, 86, 87, 88, 89, 90, 91, 92, 93, 94, 95, 96, 97, 98, 99, 100, 101, 102, 103, 104, 105, 106, 107, 108, 109, 110, 111, 112, 113, 114, 115, 116, 117, 118, 119, 120, 121, 122, 123, 124, 125, 126, 127] (by decide +kernel) (by decide +kernel)
set_option maxRecDepth 20000 in
theorem gX6_bitsFor_X6_isSo : GoodIn wsX6_bitsFor (wsV RX6 269 RX6 yX6_isSo wsX6_isSo) := goodIn_app (goodIn_of _ (by decide +kernel)) ggX6_bitsFor_X6_isSo
theorem dX6_bitsFor_0 : decode cX6_bitsFor 0 = .ok (.aload_n 1, 1) := by decide +kernel
theorem dX6_bitsFor_1 : decode cX6_bitsFor 1 = .ok (.iload_n 2, 1) := by decide +kernel
theorem dX6_bitsFor_2 : decode cX6_bitsFor 2 = .ok (.iaload, 1) := by decide +kernel
theorem dX6_bitsFor_3 : decode cX6_bitsFor 3 = .ok (.istore 4, 2) := by decide +kernel
theorem dX6_bitsFor_5 : decode cX6_bitsFor 5 = .ok (.iconst 0, 1) := by decide +kernel
theorem dX6_bitsFor_6 : decode cX6_bitsFor 6 = .ok (.istore 5, 2) := by decide +kernel
theorem dX6_bitsFor_8 : decode cX6_bitsFor 8 = .ok (.iconst 0, 1) := by decide +kernel
theorem dX6_bitsFor_9 : decode cX6_bitsFor 9 = .ok (.istore 6, 2) := by decide +kernel
theorem dX6_bitsFor_11 : decode cX6_bitsFor 11 = .ok (.iload 6, 2) := by decide +kernel
theorem dX6_bitsFor_13 : decode cX6_bitsFor 13 = .ok (.iload_n 3, 1) := by decide +kernel
theorem dX6_bitsFor_14 : decode cX6_bitsFor 14 = .ok (.if_icmp .ge 35, 3) := by decide +kernel
theorem dX6_bitsFor_17 : decode cX6_bitsFor 17 = .ok (.aload_n 1, 1) := by decide +kernel
theorem dX6_bitsFor_18 : decode cX6_bitsFor 18 = .ok (.iload_n 2, 1) := by decide +kernel
theorem dX6_bitsFor_19 : decode cX6_bitsFor 19 = .ok (.iload 6, 2) := by decide +kernel
theorem dX6_bitsFor_21 : decode cX6_bitsFor 21 = .ok (.iastore, 1) := by decide +kernel
theorem dX6_bitsFor_22 : decode cX6_bitsFor 22 = .ok (.iload 5, 2) := by decide +kernel
theorem dX6_bitsFor_24 : decode cX6_bitsFor 24 = .ok (.aload_n 0, 1) := by decide +kernel
theorem dX6_bitsFor_25 : decode cX6_bitsFor 25 = .ok (.iload_n 2, 1) := by decide +kernel
theorem dX6_bitsFor_26 : decode cX6_bitsFor 26 = .ok (.invokevirtual 269, 3) := by decide +kernel
theorem dX6_bitsFor_29 : decode cX6_bitsFor 29 = .ok (.ifCond .eq 10, 3) := by decide +kernel
theorem dX6_bitsFor_32 : decode cX6_bitsFor 32 = .ok (.iconst 1, 1) := by decide +kernel
theorem dX6_bitsFor_33 : decode cX6_bitsFor 33 = .ok (.iload 6, 2) := by decide +kernel
theorem dX6_bitsFor_35 : decode cX6_bitsFor 35 = .ok (.ishl, 1) := by decide +kernel
theorem dX6_bitsFor_36 : decode cX6_bitsFor 36 = .ok (.goto 4, 3) := by decide +kernel
theorem dX6_bitsFor_39 : decode cX6_bitsFor 39 = .ok (.iconst 0, 1) := by decide +kernel
theorem dX6_bitsFor_40 : decode cX6_bitsFor 40 = .ok (.ior, 1) := by decide +kernel
theorem dX6_bitsFor_41 : decode cX6_bitsFor 41 = .ok (.istore 5, 2) := by decide +kernel
theorem dX6_bitsFor_43 : decode cX6_bitsFor 43 = .ok (.iinc 6 1, 3) := by decide +kernel
theorem dX6_bitsFor_46 : decode cX6_bitsFor 46 = .ok (.goto (-35), 3) := by decide +kernel
theorem dX6_bitsFor_49 : decode cX6_bitsFor 49 = .ok (.aload_n 1, 1) := by decide +kernel
theorem dX6_bitsFor_50 : decode cX6_bitsFor 50 = .ok (.iload_n 2, 1) := by decide +kernel
theorem dX6_bitsFor_51 : decode cX6_bitsFor 51 = .ok (.iload 4, 2) := by decide +kernel
theorem dX6_bitsFor_53 : decode cX6_bitsFor 53 = .ok (.iastore, 1) := by decide +kernel
theorem dX6_bitsFor_54 : decode cX6_bitsFor 54 = .ok (.iload 5, 2) := by decide +kernel
theorem dX6_bitsFor_56 : decode cX6_bitsFor 56 = .ok (.ireturn, 1) := by decide +kernel
set_option maxRecDepth 20000 in
theorem ggX6_whatIs_X6_isOne : GoodIn wsX6_whatIs wsX6_isOne := goodIn_r _ [7, 8, 119, 120, 121, 122, 123, 124, 125, 126, 127, 128, 129, 130, 131, 132, 133, 134, 135, 136, 137, 138, 139, 140, 141, 142, 143] (by decide +kernel) (by decide +kernel)
set_option maxRecDepth 20000 in
theorem gX6_whatIs_X6_isOne : GoodIn wsX6_whatIs (wsV RX6 118 RX6 yX6_isOne wsX6_isOne) := goodIn_app (goodIn_of _ (by decide +kernel)) ggX6_whatIs_X6_isOne
set_option maxRecDepth 20000 in
theorem ggX6_whatIs_X6_isIn : GoodIn wsX6_whatIs wsX6_isIn := goodIn_r _ [11] (by decide +kernel) (by decide +kernel)
set_option maxRecDepth 20000 in
theorem gX6_whatIs_X6_isIn : GoodIn wsX6_whatIs (va_wsS RX6 84 yX6_isIn wsX6_isIn) := goodIn_app (goodIn_of _ (by decide +kernel)) ggX6_whatIs_X6_isIn
set_option maxRecDepth 20000 in
theorem ggX6_whatIs_X6_no : GoodIn wsX6_whatIs wsX6_no := goodIn_r _ [15, 16, 119, 120, 121, 122, 123, 124, 125, 126, 127, 128, 129, 130, 131, 132, 133, 134, 135, 136, 137, 138, 139, 140, 141, 142, 143] (by decide +kernel) (by decide +kernel)
set_option maxRecDepth 20000 in
theorem gX6_whatIs_X6_no : GoodIn wsX6_whatIs (wsV RX6 73 RX6 yX6_no wsX6_no) := goodIn_app (goodIn_of _ (by decide +kernel)) ggX6_whatIs_X6_no
set_option maxRecDepth 20000 in
theorem ggX6_whatIs_X6_bitsFor : GoodIn wsX6_whatIs wsX6_bitsFor := goodIn_r _ [20, 21, 22, 23, 6, 24, 25, 26, 27, 28, 29, 30, 31, 32, 33, 34, 35, 36, 37, 38, 1, 2, 39, 8, 40, 41, 42, 43, 44, 45, 46, 47, 48, 49, 50, 51, 52, 53, 54, 55, 56, 57, 58, 59, 60, 61, 62, 63, 64, 65, 66, 67, 68, 69, 70, 71, 72, 73, 74, 75, 76, 77, 78, 79, 80, 81, 82, 83, 84, 85, 86, 87, 88, 89, 90, 91, 92, 93, 94, 95, 96, 97, 98, 99, 100, 101, 102, 103, 104, 105, 106, 107, 108, 109, 110, 111, 112, 113, 114, 115, 116, 117, 118, 119, 120, 121, 122, 123, 124, 125, 126, 127, 128, 129, 130, 131, 132, 133, 134, 135, 136, 137, 138, 139, 140, 141, 142, 143] (by decide +kernel) (by decide +kernel)
set_option maxRecDepth 20000 in
theorem gX6_whatIs_X6_bitsFor : GoodIn wsX6_whatIs (wsV RX6 272 RX6 yX6_bitsFor wsX6_bitsFor) := goodIn_app (goodIn_of _ (by decide +kernel)) ggX6_whatIs_X6_bitsFor
theorem dX6_whatIs_0 : decode cX6_whatIs 0 = .ok (.aload_n 0, 1) := by decide +kernel
theorem dX6_whatIs_1 : decode cX6_whatIs 1 = .ok (.iload_n 1, 1) := by decide +kernel
theorem dX6_whatIs_2 : decode cX6_whatIs 2 = .ok (.invokevirtual 118, 3) := by decide +kernel
theorem dX6_whatIs_5 : decode cX6_whatIs 5 = .ok (.ifCond .ne 7, 3) := by decide +kernel
theorem dX6_whatIs_8 : decode cX6_whatIs 8 = .ok (.iconst (-1), 1) := by decide +kernel
theorem dX6_whatIs_9 : decode cX6_whatIs 9 = .ok (.goto 18, 3) := by decide +kernel
theorem dX6_whatIs_12 : decode cX6_whatIs 12 = .ok (.iload_n 2, 1) := by decide +kernel
theorem dX6_whatIs_13 : decode cX6_whatIs 13 = .ok (.iconst 0, 1) := by decide +kernel
theorem dX6_whatIs_14 : decode cX6_whatIs 14 = .ok (.iconst 1, 1) := by decide +kernel
theorem dX6_whatIs_15 : decode cX6_whatIs 15 = .ok (.invokestatic 84, 3) := by decide +kernel
theorem dX6_whatIs_18 : decode cX6_whatIs 18 = .ok (.ifCond .ne 8, 3) := by decide +kernel
theorem dX6_whatIs_21 : decode cX6_whatIs 21 = .ok (.bipush (-2), 2) := by decide +kernel
theorem dX6_whatIs_23 : decode cX6_whatIs 23 = .ok (.goto 4, 3) := by decide +kernel
theorem dX6_whatIs_26 : decode cX6_whatIs 26 = .ok (.iconst 0, 1) := by decide +kernel
theorem dX6_whatIs_27 : decode cX6_whatIs 27 = .ok (.istore_n 3, 1) := by decide +kernel
theorem dX6_whatIs_28 : decode cX6_whatIs 28 = .ok (.iload_n 3, 1) := by decide +kernel
theorem dX6_whatIs_29 : decode cX6_whatIs 29 = .ok (.ifCond .eq 9, 3) := by decide +kernel
theorem dX6_whatIs_32 : decode cX6_whatIs 32 = .ok (.aload_n 0, 1) := by decide +kernel
theorem dX6_whatIs_33 : decode cX6_whatIs 33 = .ok (.iload_n 3, 1) := by decide +kernel
theorem dX6_whatIs_34 : decode cX6_whatIs 34 = .ok (.invokevirtual 73, 3) := by decide +kernel
theorem dX6_whatIs_37 : decode cX6_whatIs 37 = .ok (.ireturn, 1) := by decide +kernel
theorem dX6_whatIs_38 : decode cX6_whatIs 38 = .ok (.iload_n 2, 1) := by decide +kernel
theorem dX6_whatIs_39 : decode cX6_whatIs 39 = .ok (.ifCond .ne 17, 3) := by decide +kernel
theorem dX6_whatIs_42 : decode cX6_whatIs 42 = .ok (.aload_n 0, 1) := by decide +kernel
theorem dX6_whatIs_43 : decode cX6_whatIs 43 = .ok (.aload_n 0, 1) := by decide +kernel
theorem dX6_whatIs_44 : decode cX6_whatIs 44 = .ok (.getfield 16, 3) := by decide +kernel
theorem dX6_whatIs_47 : decode cX6_whatIs 47 = .ok (.iload_n 1, 1) := by decide +kernel
theorem dX6_whatIs_48 : decode cX6_whatIs 48 = .ok (.bipush 6, 2) := by decide +kernel
theorem dX6_whatIs_50 : decode cX6_whatIs 50 = .ok (.invokevirtual 272, 3) := by decide +kernel
theorem dX6_whatIs_53 : decode cX6_whatIs 53 = .ok (.goto 14, 3) := by decide +kernel
theorem dX6_whatIs_56 : decode cX6_whatIs 56 = .ok (.aload_n 0, 1) := by decide +kernel
theorem dX6_whatIs_57 : decode cX6_whatIs 57 = .ok (.aload_n 0, 1) := by decide +kernel
theorem dX6_whatIs_58 : decode cX6_whatIs 58 = .ok (.getfield 19, 3) := by decide +kernel
theorem dX6_whatIs_61 : decode cX6_whatIs 61 = .ok (.iload_n 1, 1) := by decide +kernel
theorem dX6_whatIs_62 : decode cX6_whatIs 62 = .ok (.bipush 10, 2) := by decide +kernel
theorem dX6_whatIs_64 : decode cX6_whatIs 64 = .ok (.invokevirtual 272, 3) := by decide +kernel
theorem dX6_whatIs_67 : decode cX6_whatIs 67 = .ok (.ireturn, 1) := by decide +kernel
set_option maxRecDepth 20000 in
theorem ggX6_areSoMany_X6_thinks : GoodIn wsX6_areSoMany wsX6_thinks := goodIn_r _ [7, 8, 9, 10, 6, 11, 12, 13, 14, 15, 16, 17, 18, 19, 20, 21, 22, 23, 24, 25, 26, 27, 28, 29, 106, 107, 108, 109, 110, 111, 112, 113, 114, 115, 116, 117, 118, 119, 120, 121, 122, 123, 124, 125, 126, 127, 128, 129, 130] (by decide +kernel) (by decide +kernel)
set_option maxRecDepth 20000 in
theorem gX6_areSoMany_X6_thinks : GoodIn wsX6_areSoMany (wsV RX6 211 RX6 yX6_thinks wsX6_thinks) := goodIn_app (goodIn_of _ (by decide +kernel)) ggX6_areSoMany_X6_thinks
set_option maxRecDepth 20000 in
theorem ggX6_areSoMany_X6_believers : GoodIn wsX6_areSoMany wsX6_believers := goodIn_r _ [33, 19, 34, 35, 36, 6, 37, 38, 39, 40, 41, 42, 43, 44, 45, 18, 106, 107, 108, 109, 110, 111, 112, 113, 114, 115, 116, 117, 118, 119, 120, 121, 122, 123, 124, 125, 126, 127, 128, 129, 130] (by decide +kernel) (by decide +kernel)
set_option maxRecDepth 20000 in
theorem gX6_areSoMany_X6_believers : GoodIn wsX6_areSoMany (wsV RX6 202 RX6 yX6_believers wsX6_believers) := goodIn_app (goodIn_of _ (by decide +kernel)) ggX6_areSoMany_X6_believers
set_option maxRecDepth 20000 in
theorem ggX6_areSoMany_X6_bits : GoodIn wsX6_areSoMany wsX6_bits := goodIn_r _ [48] (by decide +kernel) (by decide +kernel)
set_option maxRecDepth 20000 in
theorem gX6_areSoMany_X6_bits : GoodIn wsX6_areSoMany (va_wsS RX6 205 yX6_bits wsX6_bits) := goodIn_app (goodIn_of _ (by decide +kernel)) ggX6_areSoMany_X6_bits
set_option maxRecDepth 20000 in
theorem ggX6_areSoMany_X6_goesYear : GoodIn wsX6_areSoMany wsX6_goesYear := goodIn_r _ [52, 19, 53, 20, 14, 18, 17, 54, 55, 56, 6, 57, 58, 59, 60, 61, 34, 35, 36, 37, 38, 39, 40, 41, 42, 43, 44, 45, 62, 63, 64, 65, 66, 67, 68, 69, 70, 71, 15, 72, 73, 74, 75, 16, 76, 77, 78, 79, 80, 81, 82, 83, 84, 85, 86, 87, 88, 89, 90, 91, 92, 93, 94, 95, 96, 97, 98, 99, 100, 101, 106, 107, 108, 109, 110, 111, 112, 113, 114, 115, 116, 117, 118, 119, 120, 121, 122, 123, 124, 125, 126, 127, 128, 129, 130] (by decide +kernel) (by decide +kernel)
set_option maxRecDepth 20000 in
theorem gX6_areSoMany_X6_goesYear : GoodIn wsX6_areSoMany (wsV RX6 198 RX6 yX6_goesYear wsX6_goesYear) := goodIn_app (goodIn_of _ (by decide +kernel)) ggX6_areSoMany_X6_goesYear
set_option maxRecDepth 20000 in
theorem ggX6_areSoMany_X6_forgets : GoodIn wsX6_areSoMany wsX6_forgets := goodIn_r _ [105, 8, 9, 10, 6, 11, 12, 13, 14, 15, 16, 17, 18, 19, 20, 21, 22, 23, 24, 25, 26, 27, 28, 29, 106, 107, 108, 109, 110, 111, 112, 113, 114, 115, 116, 117, 118, 119, 120, 121, 122, 123, 124, 125, 126, 127, 128, 129, 130] (by decide +kernel) (by decide +kernel)
set_option maxRecDepth 20000 in
theorem gX6_areSoMany_X6_forgets : GoodIn wsX6_areSoMany (wsV RX6 214 RX6 yX6_forgets wsX6_forgets) := goodIn_app (goodIn_of _ (by decide +kernel)) ggX6_areSoMany_X6_forgets
theorem dX6_areSoMany_0 : decode cX6_areSoMany 0 = .ok (.aload_n 0, 1) := by decide +kernel
theorem dX6_areSoMany_1 : decode cX6_areSoMany 1 = .ok (.invokevirtual 211, 3) := by decide +kernel
theorem dX6_areSoMany_4 : decode cX6_areSoMany 4 = .ok (.iconst 1, 1) := by decide +kernel
theorem dX6_areSoMany_5 : decode cX6_areSoMany 5 = .ok (.istore_n 1, 1) := by decide +kernel
theorem dX6_areSoMany_6 : decode cX6_areSoMany 6 = .ok (.iconst 0, 1) := by decide +kernel
theorem dX6_areSoMany_7 : decode cX6_areSoMany 7 = .ok (.istore_n 2, 1) := by decide +kernel
theorem dX6_areSoMany_8 : decode cX6_areSoMany 8 = .ok (.iload_n 2, 1) := by decide +kernel
theorem dX6_areSoMany_9 : decode cX6_areSoMany 9 = .ok (.aload_n 0, 1) := by decide +kernel
theorem dX6_areSoMany_10 : decode cX6_areSoMany 10 = .ok (.getfield 266, 3) := by decide +kernel
theorem dX6_areSoMany_13 : decode cX6_areSoMany 13 = .ok (.if_icmp .ge 40, 3) := by decide +kernel
theorem dX6_areSoMany_16 : decode cX6_areSoMany 16 = .ok (.iload_n 1, 1) := by decide +kernel
theorem dX6_areSoMany_17 : decode cX6_areSoMany 17 = .ok (.ifCond .eq 36, 3) := by decide +kernel
theorem dX6_areSoMany_20 : decode cX6_areSoMany 20 = .ok (.aload_n 0, 1) := by decide +kernel
theorem dX6_areSoMany_21 : decode cX6_areSoMany 21 = .ok (.invokevirtual 202, 3) := by decide +kernel
theorem dX6_areSoMany_24 : decode cX6_areSoMany 24 = .ok (.invokestatic 205, 3) := by decide +kernel
theorem dX6_areSoMany_27 : decode cX6_areSoMany 27 = .ok (.aload_n 0, 1) := by decide +kernel
theorem dX6_areSoMany_28 : decode cX6_areSoMany 28 = .ok (.getfield 49, 3) := by decide +kernel
theorem dX6_areSoMany_31 : decode cX6_areSoMany 31 = .ok (.iload_n 2, 1) := by decide +kernel
theorem dX6_areSoMany_32 : decode cX6_areSoMany 32 = .ok (.iaload, 1) := by decide +kernel
theorem dX6_areSoMany_33 : decode cX6_areSoMany 33 = .ok (.if_icmp .ne 7, 3) := by decide +kernel
theorem dX6_areSoMany_36 : decode cX6_areSoMany 36 = .ok (.iconst 1, 1) := by decide +kernel
theorem dX6_areSoMany_37 : decode cX6_areSoMany 37 = .ok (.goto 4, 3) := by decide +kernel
theorem dX6_areSoMany_40 : decode cX6_areSoMany 40 = .ok (.iconst 0, 1) := by decide +kernel
theorem dX6_areSoMany_41 : decode cX6_areSoMany 41 = .ok (.istore_n 1, 1) := by decide +kernel
theorem dX6_areSoMany_42 : decode cX6_areSoMany 42 = .ok (.aload_n 0, 1) := by decide +kernel
theorem dX6_areSoMany_43 : decode cX6_areSoMany 43 = .ok (.iconst 0, 1) := by decide +kernel
theorem dX6_areSoMany_44 : decode cX6_areSoMany 44 = .ok (.invokevirtual 198, 3) := by decide +kernel
theorem dX6_areSoMany_47 : decode cX6_areSoMany 47 = .ok (.iinc 2 1, 3) := by decide +kernel
theorem dX6_areSoMany_50 : decode cX6_areSoMany 50 = .ok (.goto (-42), 3) := by decide +kernel
theorem dX6_areSoMany_53 : decode cX6_areSoMany 53 = .ok (.aload_n 0, 1) := by decide +kernel
theorem dX6_areSoMany_54 : decode cX6_areSoMany 54 = .ok (.invokevirtual 214, 3) := by decide +kernel
theorem dX6_areSoMany_57 : decode cX6_areSoMany 57 = .ok (.iload_n 1, 1) := by decide +kernel
theorem dX6_areSoMany_58 : decode cX6_areSoMany 58 = .ok (.ireturn, 1) := by decide +kernel
set_option maxRecDepth 20000 in
theorem ggX6_who_X6_areSoMany : GoodIn wsX6_who wsX6_areSoMany := goodIn_r _ [7, 8, 9, 10, 11, 12, 6, 13, 14, 15, 16, 17, 18, 19, 20, 21, 22, 23, 24, 1, 25, 26, 27, 28, 29, 30, 31, 32, 33, 34, 35, 36, 37, 38, 39, 40, 41, 42, 2, 43, 44, 45, 46, 47, 48, 49, 50, 51, 52, 53, 54, 55, 56, 57, 58, 59, 60, 61, 62, 63, 64, 65, 66, 67, 68, 69, 70, 71, 72, 73, 74, 75, 76, 77, 78, 79, 80, 81, 82, 83, 84, 85, 86, 87, 88, 89, 90, 91, 92, 93, 94, 95, 96, 97, 98, 99, 100, 101, 102, 103, 104, 105, 106, 107, 108, 109, 110, 111, 112, 113, 114, 115, 116, 117, 118, 119, 120, 121, 122, 123, 124, 125, 126, 127, 128, 129, 130, 131, 132, 133, 134] (by decide +kernel) (by decide +kernel)
set_option maxRecDepth 20000 in
theorem gX6_who_X6_areSoMany : GoodIn wsX6_who (wsV RX6 276 RX6 yX6_areSoMany wsX6_areSoMany) := goodIn_app (goodIn_of _ (by decide +kernel)) ggX6_who_X6_areSoMany
theorem dX6_who_0 : decode cX6_who 0 = .ok (.iconst 0, 1) := by decide +kernel
theorem dX6_who_1 : decode cX6_who 1 = .ok (.istore_n 1, 1) := by decide +kernel
theorem dX6_who_2 : decode cX6_who 2 = .ok (.iconst 0, 1) := by decide +kernel
theorem dX6_who_3 : decode cX6_who 3 = .ok (.istore_n 2, 1) := by decide +kernel
theorem dX6_who_4 : decode cX6_who 4 = .ok (.iload_n 2, 1) := by decide +kernel
theorem dX6_who_5 : decode cX6_who 5 = .ok (.aload_n 0, 1) := by decide +kernel
theorem dX6_who_6 : decode cX6_who 6 = .ok (.getfield 52, 3) := by decide +kernel
theorem dX6_who_9 : decode cX6_who 9 = .ok (.if_icmp .ge 33, 3) := by decide +kernel
theorem dX6_who_12 : decode cX6_who 12 = .ok (.aload_n 0, 1) := by decide +kernel
theorem dX6_who_13 : decode cX6_who 13 = .ok (.iconst 1, 1) := by decide +kernel
theorem dX6_who_14 : decode cX6_who 14 = .ok (.iload_n 2, 1) := by decide +kernel
theorem dX6_who_15 : decode cX6_who 15 = .ok (.ishl, 1) := by decide +kernel
theorem dX6_who_16 : decode cX6_who 16 = .ok (.putfield 59, 3) := by decide +kernel
theorem dX6_who_19 : decode cX6_who 19 = .ok (.iload_n 1, 1) := by decide +kernel
theorem dX6_who_20 : decode cX6_who 20 = .ok (.aload_n 0, 1) := by decide +kernel
theorem dX6_who_21 : decode cX6_who 21 = .ok (.invokevirtual 276, 3) := by decide +kernel
theorem dX6_who_24 : decode cX6_who 24 = .ok (.ifCond .eq 9, 3) := by decide +kernel
theorem dX6_who_27 : decode cX6_who 27 = .ok (.iconst 1, 1) := by decide +kernel
theorem dX6_who_28 : decode cX6_who 28 = .ok (.iload_n 2, 1) := by decide +kernel
theorem dX6_who_29 : decode cX6_who 29 = .ok (.ishl, 1) := by decide +kernel
theorem dX6_who_30 : decode cX6_who 30 = .ok (.goto 4, 3) := by decide +kernel
theorem dX6_who_33 : decode cX6_who 33 = .ok (.iconst 0, 1) := by decide +kernel
theorem dX6_who_34 : decode cX6_who 34 = .ok (.ior, 1) := by decide +kernel
theorem dX6_who_35 : decode cX6_who 35 = .ok (.istore_n 1, 1) := by decide +kernel
theorem dX6_who_36 : decode cX6_who 36 = .ok (.iinc 2 1, 3) := by decide +kernel
theorem dX6_who_39 : decode cX6_who 39 = .ok (.goto (-35), 3) := by decide +kernel
theorem dX6_who_42 : decode cX6_who 42 = .ok (.aload_n 0, 1) := by decide +kernel
theorem dX6_who_43 : decode cX6_who 43 = .ok (.iconst 0, 1) := by decide +kernel
theorem dX6_who_44 : decode cX6_who 44 = .ok (.putfield 59, 3) := by decide +kernel
theorem dX6_who_47 : decode cX6_who 47 = .ok (.iload_n 1, 1) := by decide +kernel
theorem dX6_who_48 : decode cX6_who 48 = .ok (.ireturn, 1) := by decide +kernel
set_option maxRecDepth 20000 in
theorem ggX6_row_X6_bound : GoodIn wsX6_row wsX6_bound := goodIn_r _ [6] (by decide +kernel) (by decide +kernel)
set_option maxRecDepth 20000 in
theorem gX6_row_X6_bound : GoodIn wsX6_row (va_wsS RX6 66 yX6_bound wsX6_bound) := goodIn_app (goodIn_of _ (by decide +kernel)) ggX6_row_X6_bound
set_option maxRecDepth 20000 in
theorem ggX6_row_X6_no : GoodIn wsX6_row wsX6_no := goodIn_r _ [10, 11, 12, 13, 14, 15, 16, 17, 18, 19, 20, 21, 22, 23, 24, 25, 26, 27, 28, 29, 30, 31, 32, 33, 34, 35, 36] (by decide +kernel) (by decide +kernel)
set_option maxRecDepth 20000 in
theorem gX6_row_X6_no : GoodIn wsX6_row (wsV RX6 73 RX6 yX6_no wsX6_no) := goodIn_app (goodIn_of _ (by decide +kernel)) ggX6_row_X6_no
theorem dX6_row_0 : decode cX6_row 0 = .ok (.iload_n 1, 1) := by decide +kernel
theorem dX6_row_1 : decode cX6_row 1 = .ok (.iconst 0, 1) := by decide +kernel
theorem dX6_row_2 : decode cX6_row 2 = .ok (.bipush 99, 2) := by decide +kernel
theorem dX6_row_4 : decode cX6_row 4 = .ok (.invokestatic 66, 3) := by decide +kernel
theorem dX6_row_7 : decode cX6_row 7 = .ok (.istore_n 2, 1) := by decide +kernel
theorem dX6_row_8 : decode cX6_row 8 = .ok (.iload_n 2, 1) := by decide +kernel
theorem dX6_row_9 : decode cX6_row 9 = .ok (.ifCond .ne 15, 3) := by decide +kernel
theorem dX6_row_12 : decode cX6_row 12 = .ok (.aload_n 0, 1) := by decide +kernel
theorem dX6_row_13 : decode cX6_row 13 = .ok (.getfield 266, 3) := by decide +kernel
theorem dX6_row_16 : decode cX6_row 16 = .ok (.bipush 16, 2) := by decide +kernel
theorem dX6_row_18 : decode cX6_row 18 = .ok (.if_icmp .ne 6, 3) := by decide +kernel
theorem dX6_row_21 : decode cX6_row 21 = .ok (.bipush (-6), 2) := by decide +kernel
theorem dX6_row_23 : decode cX6_row 23 = .ok (.istore_n 2, 1) := by decide +kernel
theorem dX6_row_24 : decode cX6_row 24 = .ok (.iload_n 2, 1) := by decide +kernel
theorem dX6_row_25 : decode cX6_row 25 = .ok (.ifCond .eq 9, 3) := by decide +kernel
theorem dX6_row_28 : decode cX6_row 28 = .ok (.aload_n 0, 1) := by decide +kernel
theorem dX6_row_29 : decode cX6_row 29 = .ok (.iload_n 2, 1) := by decide +kernel
theorem dX6_row_30 : decode cX6_row 30 = .ok (.invokevirtual 73, 3) := by decide +kernel
theorem dX6_row_33 : decode cX6_row 33 = .ok (.ireturn, 1) := by decide +kernel
theorem dX6_row_34 : decode cX6_row 34 = .ok (.aload_n 0, 1) := by decide +kernel
theorem dX6_row_35 : decode cX6_row 35 = .ok (.getfield 49, 3) := by decide +kernel
theorem dX6_row_38 : decode cX6_row 38 = .ok (.aload_n 0, 1) := by decide +kernel
theorem dX6_row_39 : decode cX6_row 39 = .ok (.getfield 266, 3) := by decide +kernel
theorem dX6_row_42 : decode cX6_row 42 = .ok (.iload_n 1, 1) := by decide +kernel
theorem dX6_row_43 : decode cX6_row 43 = .ok (.iastore, 1) := by decide +kernel
theorem dX6_row_44 : decode cX6_row 44 = .ok (.aload_n 0, 1) := by decide +kernel
theorem dX6_row_45 : decode cX6_row 45 = .ok (.dup, 1) := by decide +kernel
theorem dX6_row_46 : decode cX6_row 46 = .ok (.getfield 266, 3) := by decide +kernel
theorem dX6_row_49 : decode cX6_row 49 = .ok (.iconst 1, 1) := by decide +kernel
theorem dX6_row_50 : decode cX6_row 50 = .ok (.iadd, 1) := by decide +kernel
theorem dX6_row_51 : decode cX6_row 51 = .ok (.putfield 266, 3) := by decide +kernel
theorem dX6_row_54 : decode cX6_row 54 = .ok (.aload_n 0, 1) := by decide +kernel
theorem dX6_row_55 : decode cX6_row 55 = .ok (.getfield 266, 3) := by decide +kernel
theorem dX6_row_58 : decode cX6_row 58 = .ok (.ireturn, 1) := by decide +kernel
set_option maxRecDepth 20000 in
theorem ggX6_judge_X6_thinks : GoodIn wsX6_judge wsX6_thinks := goodIn_r _ [7, 8, 9, 10, 6, 11, 12, 13, 14, 15, 16, 17, 18, 19, 20, 21, 22, 23, 24, 25, 26, 27, 28, 29, 99, 100, 101, 102, 103, 104, 105, 106, 107, 108, 109, 110, 111, 112, 113, 114, 115, 116, 117, 118, 119, 120, 121, 122, 123] (by decide +kernel) (by decide +kernel)
set_option maxRecDepth 20000 in
theorem gX6_judge_X6_thinks : GoodIn wsX6_judge (wsV RX6 211 RX6 yX6_thinks wsX6_thinks) := goodIn_app (goodIn_of _ (by decide +kernel)) ggX6_judge_X6_thinks
set_option maxRecDepth 20000 in
theorem ggX6_judge_X6_here : GoodIn wsX6_judge wsX6_here := goodIn_r _ [33, 14, 99, 100, 101, 102, 103, 104, 105, 106, 107, 108, 109, 110, 111, 112, 113, 114, 115, 116, 117, 118, 119, 120, 121, 122, 123] (by decide +kernel) (by decide +kernel)
set_option maxRecDepth 20000 in
theorem gX6_judge_X6_here : GoodIn wsX6_judge (wsV RX6 186 RX6 yX6_here wsX6_here) := goodIn_app (goodIn_of _ (by decide +kernel)) ggX6_judge_X6_here
set_option maxRecDepth 20000 in
theorem ggX6_judge_X6_goesYear : GoodIn wsX6_judge wsX6_goesYear := goodIn_r _ [37, 19, 38, 20, 14, 18, 17, 30, 31, 32, 6, 33, 39, 40, 41, 42, 43, 44, 45, 46, 47, 48, 49, 50, 51, 52, 53, 54, 55, 56, 57, 58, 59, 60, 61, 62, 63, 64, 15, 65, 66, 67, 68, 16, 69, 70, 71, 72, 73, 74, 75, 76, 77, 78, 79, 80, 81, 82, 83, 84, 85, 86, 87, 88, 89, 90, 91, 92, 93, 94, 99, 100, 101, 102, 103, 104, 105, 106, 107, 108, 109, 110, 111, 112, 113, 114, 115, 116, 117, 118, 119, 120, 121, 122, 123] (by decide +kernel) (by decide +kernel)
set_option maxRecDepth 20000 in
theorem gX6_judge_X6_goesYear : GoodIn wsX6_judge (wsV RX6 198 RX6 yX6_goesYear wsX6_goesYear) := goodIn_app (goodIn_of _ (by decide +kernel)) ggX6_judge_X6_goesYear
set_option maxRecDepth 20000 in
theorem ggX6_judge_X6_forgets : GoodIn wsX6_judge wsX6_forgets := goodIn_r _ [98, 8, 9, 10, 6, 11, 12, 13, 14, 15, 16, 17, 18, 19, 20, 21, 22, 23, 24, 25, 26, 27, 28, 29, 99, 100, 101, 102, 103, 104, 105, 106, 107, 108, 109, 110, 111, 112, 113, 114, 115, 116, 117, 118, 119, 120, 121, 122, 123] (by decide +kernel) (by decide +kernel)
set_option maxRecDepth 20000 in
theorem gX6_judge_X6_forgets : GoodIn wsX6_judge (wsV RX6 214 RX6 yX6_forgets wsX6_forgets) := goodIn_app (goodIn_of _ (by decide +kernel)) ggX6_judge_X6_forgets
theorem dX6_judge_0 : decode cX6_judge 0 = .ok (.aload_n 0, 1) := by decide +kernel
theorem dX6_judge_1 : decode cX6_judge 1 = .ok (.getfield 266, 3) := by decide +kernel
theorem dX6_judge_4 : decode cX6_judge 4 = .ok (.istore_n 1, 1) := by decide +kernel
theorem dX6_judge_5 : decode cX6_judge 5 = .ok (.aload_n 0, 1) := by decide +kernel
theorem dX6_judge_6 : decode cX6_judge 6 = .ok (.iconst 0, 1) := by decide +kernel
theorem dX6_judge_7 : decode cX6_judge 7 = .ok (.putfield 266, 3) := by decide +kernel
theorem dX6_judge_10 : decode cX6_judge 10 = .ok (.aload_n 0, 1) := by decide +kernel
theorem dX6_judge_11 : decode cX6_judge 11 = .ok (.invokevirtual 211, 3) := by decide +kernel
theorem dX6_judge_14 : decode cX6_judge 14 = .ok (.bipush (-9), 2) := by decide +kernel
theorem dX6_judge_16 : decode cX6_judge 16 = .ok (.istore_n 2, 1) := by decide +kernel
theorem dX6_judge_17 : decode cX6_judge 17 = .ok (.iconst 0, 1) := by decide +kernel
theorem dX6_judge_18 : decode cX6_judge 18 = .ok (.istore_n 3, 1) := by decide +kernel
theorem dX6_judge_19 : decode cX6_judge 19 = .ok (.iload_n 3, 1) := by decide +kernel
theorem dX6_judge_20 : decode cX6_judge 20 = .ok (.iload_n 1, 1) := by decide +kernel
theorem dX6_judge_21 : decode cX6_judge 21 = .ok (.if_icmp .ge 38, 3) := by decide +kernel
theorem dX6_judge_24 : decode cX6_judge 24 = .ok (.iload_n 2, 1) := by decide +kernel
theorem dX6_judge_25 : decode cX6_judge 25 = .ok (.ifCond .ge 34, 3) := by decide +kernel
theorem dX6_judge_28 : decode cX6_judge 28 = .ok (.aload_n 0, 1) := by decide +kernel
theorem dX6_judge_29 : decode cX6_judge 29 = .ok (.invokevirtual 186, 3) := by decide +kernel
theorem dX6_judge_32 : decode cX6_judge 32 = .ok (.aload_n 0, 1) := by decide +kernel
theorem dX6_judge_33 : decode cX6_judge 33 = .ok (.getfield 49, 3) := by decide +kernel
theorem dX6_judge_36 : decode cX6_judge 36 = .ok (.iload_n 3, 1) := by decide +kernel
theorem dX6_judge_37 : decode cX6_judge 37 = .ok (.iaload, 1) := by decide +kernel
theorem dX6_judge_38 : decode cX6_judge 38 = .ok (.if_icmp .ne 8, 3) := by decide +kernel
theorem dX6_judge_41 : decode cX6_judge 41 = .ok (.bipush (-9), 2) := by decide +kernel
theorem dX6_judge_43 : decode cX6_judge 43 = .ok (.goto 4, 3) := by decide +kernel
theorem dX6_judge_46 : decode cX6_judge 46 = .ok (.iload_n 3, 1) := by decide +kernel
theorem dX6_judge_47 : decode cX6_judge 47 = .ok (.istore_n 2, 1) := by decide +kernel
theorem dX6_judge_48 : decode cX6_judge 48 = .ok (.aload_n 0, 1) := by decide +kernel
theorem dX6_judge_49 : decode cX6_judge 49 = .ok (.iconst 0, 1) := by decide +kernel
theorem dX6_judge_50 : decode cX6_judge 50 = .ok (.invokevirtual 198, 3) := by decide +kernel
theorem dX6_judge_53 : decode cX6_judge 53 = .ok (.iinc 3 1, 3) := by decide +kernel
theorem dX6_judge_56 : decode cX6_judge 56 = .ok (.goto (-37), 3) := by decide +kernel
theorem dX6_judge_59 : decode cX6_judge 59 = .ok (.aload_n 0, 1) := by decide +kernel
theorem dX6_judge_60 : decode cX6_judge 60 = .ok (.invokevirtual 214, 3) := by decide +kernel
theorem dX6_judge_63 : decode cX6_judge 63 = .ok (.iload_n 2, 1) := by decide +kernel
theorem dX6_judge_64 : decode cX6_judge 64 = .ok (.ireturn, 1) := by decide +kernel
theorem dX6_clear_0 : decode cX6_clear 0 = .ok (.aload_n 0, 1) := by decide +kernel
theorem dX6_clear_1 : decode cX6_clear 1 = .ok (.getfield 266, 3) := by decide +kernel
theorem dX6_clear_4 : decode cX6_clear 4 = .ok (.istore_n 1, 1) := by decide +kernel
theorem dX6_clear_5 : decode cX6_clear 5 = .ok (.aload_n 0, 1) := by decide +kernel
theorem dX6_clear_6 : decode cX6_clear 6 = .ok (.iconst 0, 1) := by decide +kernel
theorem dX6_clear_7 : decode cX6_clear 7 = .ok (.putfield 266, 3) := by decide +kernel
theorem dX6_clear_10 : decode cX6_clear 10 = .ok (.iload_n 1, 1) := by decide +kernel
theorem dX6_clear_11 : decode cX6_clear 11 = .ok (.ireturn, 1) := by decide +kernel
theorem dX6_draw_0 : decode cX6_draw 0 = .ok (.aload_n 0, 1) := by decide +kernel
theorem dX6_draw_1 : decode cX6_draw 1 = .ok (.aload_n 0, 1) := by decide +kernel
theorem dX6_draw_2 : decode cX6_draw 2 = .ok (.getfield 279, 3) := by decide +kernel
theorem dX6_draw_5 : decode cX6_draw 5 = .ok (.ldc_w 282, 3) := by decide +kernel
theorem dX6_draw_8 : decode cX6_draw 8 = .ok (.imul, 1) := by decide +kernel
theorem dX6_draw_9 : decode cX6_draw 9 = .ok (.ldc_w 283, 3) := by decide +kernel
theorem dX6_draw_12 : decode cX6_draw 12 = .ok (.iadd, 1) := by decide +kernel
theorem dX6_draw_13 : decode cX6_draw 13 = .ok (.putfield 279, 3) := by decide +kernel
theorem dX6_draw_16 : decode cX6_draw 16 = .ok (.aload_n 0, 1) := by decide +kernel
theorem dX6_draw_17 : decode cX6_draw 17 = .ok (.getfield 279, 3) := by decide +kernel
theorem dX6_draw_20 : decode cX6_draw 20 = .ok (.ldc_w 284, 3) := by decide +kernel
theorem dX6_draw_23 : decode cX6_draw 23 = .ok (.iand, 1) := by decide +kernel
theorem dX6_draw_24 : decode cX6_draw 24 = .ok (.sipush 256, 3) := by decide +kernel
theorem dX6_draw_27 : decode cX6_draw 27 = .ok (.idiv, 1) := by decide +kernel
theorem dX6_draw_28 : decode cX6_draw 28 = .ok (.iload_n 1, 1) := by decide +kernel
theorem dX6_draw_29 : decode cX6_draw 29 = .ok (.irem, 1) := by decide +kernel
theorem dX6_draw_30 : decode cX6_draw 30 = .ok (.ireturn, 1) := by decide +kernel
theorem dX6_allBelief_0 : decode cX6_allBelief 0 = .ok (.iconst 0, 1) := by decide +kernel
theorem dX6_allBelief_1 : decode cX6_allBelief 1 = .ok (.istore_n 1, 1) := by decide +kernel
theorem dX6_allBelief_2 : decode cX6_allBelief 2 = .ok (.iconst 0, 1) := by decide +kernel
theorem dX6_allBelief_3 : decode cX6_allBelief 3 = .ok (.istore_n 2, 1) := by decide +kernel
theorem dX6_allBelief_4 : decode cX6_allBelief 4 = .ok (.iload_n 2, 1) := by decide +kernel
theorem dX6_allBelief_5 : decode cX6_allBelief 5 = .ok (.aload_n 0, 1) := by decide +kernel
theorem dX6_allBelief_6 : decode cX6_allBelief 6 = .ok (.getfield 52, 3) := by decide +kernel
theorem dX6_allBelief_9 : decode cX6_allBelief 9 = .ok (.if_icmp .ge 18, 3) := by decide +kernel
theorem dX6_allBelief_12 : decode cX6_allBelief 12 = .ok (.iload_n 1, 1) := by decide +kernel
theorem dX6_allBelief_13 : decode cX6_allBelief 13 = .ok (.aload_n 0, 1) := by decide +kernel
theorem dX6_allBelief_14 : decode cX6_allBelief 14 = .ok (.getfield 25, 3) := by decide +kernel
theorem dX6_allBelief_17 : decode cX6_allBelief 17 = .ok (.iload_n 2, 1) := by decide +kernel
theorem dX6_allBelief_18 : decode cX6_allBelief 18 = .ok (.iaload, 1) := by decide +kernel
theorem dX6_allBelief_19 : decode cX6_allBelief 19 = .ok (.iadd, 1) := by decide +kernel
theorem dX6_allBelief_20 : decode cX6_allBelief 20 = .ok (.istore_n 1, 1) := by decide +kernel
theorem dX6_allBelief_21 : decode cX6_allBelief 21 = .ok (.iinc 2 1, 3) := by decide +kernel
theorem dX6_allBelief_24 : decode cX6_allBelief 24 = .ok (.goto (-20), 3) := by decide +kernel
theorem dX6_allBelief_27 : decode cX6_allBelief 27 = .ok (.iload_n 1, 1) := by decide +kernel
theorem dX6_allBelief_28 : decode cX6_allBelief 28 = .ok (.ireturn, 1) := by decide +kernel
set_option maxRecDepth 20000 in
theorem ggX6_lots_X6_bound : GoodIn wsX6_lots wsX6_bound := goodIn_r _ [8] (by decide +kernel) (by decide +kernel)
set_option maxRecDepth 20000 in
theorem gX6_lots_X6_bound : GoodIn wsX6_lots (va_wsS RX6 66 yX6_bound wsX6_bound) := goodIn_app (goodIn_of _ (by decide +kernel)) ggX6_lots_X6_bound
set_option maxRecDepth 20000 in
theorem ggX6_lots_X6_isIn : GoodIn wsX6_lots wsX6_isIn := goodIn_r _ [11] (by decide +kernel) (by decide +kernel)
set_option maxRecDepth 20000 in
theorem gX6_lots_X6_isIn : GoodIn wsX6_lots (va_wsS RX6 84 yX6_isIn wsX6_isIn) := goodIn_app (goodIn_of _ (by decide +kernel)) ggX6_lots_X6_isIn
set_option maxRecDepth 20000 in
theorem ggX6_lots_X6_no : GoodIn wsX6_lots wsX6_no := goodIn_r _ [15, 16, 131, 132, 133, 134, 135, 136, 137, 138, 139, 140, 141, 142, 143, 144, 145, 146, 147, 148, 149, 150, 151, 152, 153, 154, 155] (by decide +kernel) (by decide +kernel)
set_option maxRecDepth 20000 in
theorem gX6_lots_X6_no : GoodIn wsX6_lots (wsV RX6 73 RX6 yX6_no wsX6_no) := goodIn_app (goodIn_of _ (by decide +kernel)) ggX6_lots_X6_no
set_option maxRecDepth 20000 in
theorem ggX6_lots_X6_thinks : GoodIn wsX6_lots wsX6_thinks := goodIn_r _ [20, 21, 22, 23, 7, 24, 25, 26, 27, 28, 29, 3, 4, 2, 30, 31, 32, 33, 34, 35, 36, 37, 38, 39, 131, 132, 133, 134, 135, 136, 137, 138, 139, 140, 141, 142, 143, 144, 145, 146, 147, 148, 149, 150, 151, 152, 153, 154, 155] (by decide +kernel) (by decide +kernel)
set_option maxRecDepth 20000 in
theorem gX6_lots_X6_thinks : GoodIn wsX6_lots (wsV RX6 211 RX6 yX6_thinks wsX6_thinks) := goodIn_app (goodIn_of _ (by decide +kernel)) ggX6_lots_X6_thinks
set_option maxRecDepth 20000 in
theorem ggX6_lots_X6_draw : GoodIn wsX6_lots wsX6_draw := goodIn_r _ [43, 1, 44, 45, 46, 131, 132, 133, 134, 135, 136, 137, 138, 139, 140, 141, 142, 143, 144, 145, 146, 147, 148, 149, 150, 151, 152, 153, 154, 155] (by decide +kernel) (by decide +kernel)
set_option maxRecDepth 20000 in
theorem gX6_lots_X6_draw : GoodIn wsX6_lots (wsV RX6 285 RX6 yX6_draw wsX6_draw) := goodIn_app (goodIn_of _ (by decide +kernel)) ggX6_lots_X6_draw
set_option maxRecDepth 20000 in
theorem ggX6_lots_X6_goes : GoodIn wsX6_lots wsX6_goes := goodIn_r _ [50, 51, 52, 53, 7, 54, 2, 55, 30, 27, 4, 3, 56, 57, 58, 59, 60, 61, 62, 63, 64, 65, 66, 67, 68, 69, 70, 71, 72, 73, 74, 75, 76, 77, 78, 79, 80, 81, 82, 83, 84, 85, 28, 86, 87, 88, 89, 29, 90, 91, 92, 93, 94, 95, 96, 97, 98, 99, 100, 101, 102, 103, 104, 105, 106, 107, 108, 109, 110, 111, 112, 113, 114, 115, 131, 132, 133, 134, 135, 136, 137, 138, 139, 140, 141, 142, 143, 144, 145, 146, 147, 148, 149, 150, 151, 152, 153, 154, 155] (by decide +kernel) (by decide +kernel)
set_option maxRecDepth 20000 in
theorem gX6_lots_X6_goes : GoodIn wsX6_lots (wsV RX6 107 RX6 yX6_goes wsX6_goes) := goodIn_app (goodIn_of _ (by decide +kernel)) ggX6_lots_X6_goes
set_option maxRecDepth 20000 in
theorem ggX6_lots_X6_believers : GoodIn wsX6_lots wsX6_believers := goodIn_r _ [119, 2, 64, 65, 66, 7, 67, 68, 69, 70, 71, 72, 73, 74, 75, 4, 131, 132, 133, 134, 135, 136, 137, 138, 139, 140, 141, 142, 143, 144, 145, 146, 147, 148, 149, 150, 151, 152, 153, 154, 155] (by decide +kernel) (by decide +kernel)
set_option maxRecDepth 20000 in
theorem gX6_lots_X6_believers : GoodIn wsX6_lots (wsV RX6 202 RX6 yX6_believers wsX6_believers) := goodIn_app (goodIn_of _ (by decide +kernel)) ggX6_lots_X6_believers
set_option maxRecDepth 20000 in
theorem ggX6_lots_X6_bits : GoodIn wsX6_lots wsX6_bits := goodIn_r _ [122] (by decide +kernel) (by decide +kernel)
set_option maxRecDepth 20000 in
theorem gX6_lots_X6_bits : GoodIn wsX6_lots (va_wsS RX6 205 yX6_bits wsX6_bits) := goodIn_app (goodIn_of _ (by decide +kernel)) ggX6_lots_X6_bits
set_option maxRecDepth 20000 in
theorem ggX6_lots_X6_allBelief : GoodIn wsX6_lots wsX6_allBelief := goodIn_r _ [126, 2, 4, 131, 132, 133, 134, 135, 136, 137, 138, 139, 140, 141, 142, 143, 144, 145, 146, 147, 148, 149, 150, 151, 152, 153, 154, 155] (by decide +kernel) (by decide +kernel)
set_option maxRecDepth 20000 in
theorem gX6_lots_X6_allBelief : GoodIn wsX6_lots (wsV RX6 288 RX6 yX6_allBelief wsX6_allBelief) := goodIn_app (goodIn_of _ (by decide +kernel)) ggX6_lots_X6_allBelief
set_option maxRecDepth 20000 in
theorem ggX6_lots_X6_forgets : GoodIn wsX6_lots wsX6_forgets := goodIn_r _ [130, 21, 22, 23, 7, 24, 25, 26, 27, 28, 29, 3, 4, 2, 30, 31, 32, 33, 34, 35, 36, 37, 38, 39, 131, 132, 133, 134, 135, 136, 137, 138, 139, 140, 141, 142, 143, 144, 145, 146, 147, 148, 149, 150, 151, 152, 153, 154, 155] (by decide +kernel) (by decide +kernel)
set_option maxRecDepth 20000 in
theorem gX6_lots_X6_forgets : GoodIn wsX6_lots (wsV RX6 214 RX6 yX6_forgets wsX6_forgets) := goodIn_app (goodIn_of _ (by decide +kernel)) ggX6_lots_X6_forgets
theorem dX6_lots_0 : decode cX6_lots 0 = .ok (.iload_n 1, 1) := by decide +kernel
theorem dX6_lots_1 : decode cX6_lots 1 = .ok (.iconst 1, 1) := by decide +kernel
theorem dX6_lots_2 : decode cX6_lots 2 = .ok (.bipush 20, 2) := by decide +kernel
theorem dX6_lots_4 : decode cX6_lots 4 = .ok (.invokestatic 66, 3) := by decide +kernel
theorem dX6_lots_7 : decode cX6_lots 7 = .ok (.istore 4, 2) := by decide +kernel
theorem dX6_lots_9 : decode cX6_lots 9 = .ok (.iload 4, 2) := by decide +kernel
theorem dX6_lots_11 : decode cX6_lots 11 = .ok (.ifCond .ne 16, 3) := by decide +kernel
theorem dX6_lots_14 : decode cX6_lots 14 = .ok (.iload_n 3, 1) := by decide +kernel
theorem dX6_lots_15 : decode cX6_lots 15 = .ok (.iconst 0, 1) := by decide +kernel
theorem dX6_lots_16 : decode cX6_lots 16 = .ok (.iconst 1, 1) := by decide +kernel
theorem dX6_lots_17 : decode cX6_lots 17 = .ok (.invokestatic 84, 3) := by decide +kernel
theorem dX6_lots_20 : decode cX6_lots 20 = .ok (.ifCond .ne 7, 3) := by decide +kernel
theorem dX6_lots_23 : decode cX6_lots 23 = .ok (.bipush (-2), 2) := by decide +kernel
theorem dX6_lots_25 : decode cX6_lots 25 = .ok (.istore 4, 2) := by decide +kernel
theorem dX6_lots_27 : decode cX6_lots 27 = .ok (.iload 4, 2) := by decide +kernel
theorem dX6_lots_29 : decode cX6_lots 29 = .ok (.ifCond .eq 10, 3) := by decide +kernel
theorem dX6_lots_32 : decode cX6_lots 32 = .ok (.aload_n 0, 1) := by decide +kernel
theorem dX6_lots_33 : decode cX6_lots 33 = .ok (.iload 4, 2) := by decide +kernel
theorem dX6_lots_35 : decode cX6_lots 35 = .ok (.invokevirtual 73, 3) := by decide +kernel
theorem dX6_lots_38 : decode cX6_lots 38 = .ok (.ireturn, 1) := by decide +kernel
theorem dX6_lots_39 : decode cX6_lots 39 = .ok (.aload_n 0, 1) := by decide +kernel
theorem dX6_lots_40 : decode cX6_lots 40 = .ok (.iload_n 2, 1) := by decide +kernel
theorem dX6_lots_41 : decode cX6_lots 41 = .ok (.putfield 279, 3) := by decide +kernel
theorem dX6_lots_44 : decode cX6_lots 44 = .ok (.iconst 0, 1) := by decide +kernel
theorem dX6_lots_45 : decode cX6_lots 45 = .ok (.istore 5, 2) := by decide +kernel
theorem dX6_lots_47 : decode cX6_lots 47 = .ok (.iconst 0, 1) := by decide +kernel
theorem dX6_lots_48 : decode cX6_lots 48 = .ok (.istore 6, 2) := by decide +kernel
theorem dX6_lots_50 : decode cX6_lots 50 = .ok (.iconst 0, 1) := by decide +kernel
theorem dX6_lots_51 : decode cX6_lots 51 = .ok (.istore 7, 2) := by decide +kernel
theorem dX6_lots_53 : decode cX6_lots 53 = .ok (.iload 7, 2) := by decide +kernel
theorem dX6_lots_55 : decode cX6_lots 55 = .ok (.iload_n 1, 1) := by decide +kernel
theorem dX6_lots_56 : decode cX6_lots 56 = .ok (.if_icmp .ge 88, 3) := by decide +kernel
theorem dX6_lots_59 : decode cX6_lots 59 = .ok (.aload_n 0, 1) := by decide +kernel
theorem dX6_lots_60 : decode cX6_lots 60 = .ok (.invokevirtual 211, 3) := by decide +kernel
theorem dX6_lots_63 : decode cX6_lots 63 = .ok (.iconst 0, 1) := by decide +kernel
theorem dX6_lots_64 : decode cX6_lots 64 = .ok (.istore 8, 2) := by decide +kernel
theorem dX6_lots_66 : decode cX6_lots 66 = .ok (.iload 8, 2) := by decide +kernel
theorem dX6_lots_68 : decode cX6_lots 68 = .ok (.aload_n 0, 1) := by decide +kernel
theorem dX6_lots_69 : decode cX6_lots 69 = .ok (.getfield 52, 3) := by decide +kernel
theorem dX6_lots_72 : decode cX6_lots 72 = .ok (.if_icmp .ge 35, 3) := by decide +kernel
theorem dX6_lots_75 : decode cX6_lots 75 = .ok (.aload_n 0, 1) := by decide +kernel
theorem dX6_lots_76 : decode cX6_lots 76 = .ok (.getfield 22, 3) := by decide +kernel
theorem dX6_lots_79 : decode cX6_lots 79 = .ok (.iload 8, 2) := by decide +kernel
theorem dX6_lots_81 : decode cX6_lots 81 = .ok (.aload_n 0, 1) := by decide +kernel
theorem dX6_lots_82 : decode cX6_lots 82 = .ok (.bipush 25, 2) := by decide +kernel
theorem dX6_lots_84 : decode cX6_lots 84 = .ok (.invokevirtual 285, 3) := by decide +kernel
theorem dX6_lots_87 : decode cX6_lots 87 = .ok (.iastore, 1) := by decide +kernel
theorem dX6_lots_88 : decode cX6_lots 88 = .ok (.aload_n 0, 1) := by decide +kernel
theorem dX6_lots_89 : decode cX6_lots 89 = .ok (.getfield 25, 3) := by decide +kernel
theorem dX6_lots_92 : decode cX6_lots 92 = .ok (.iload 8, 2) := by decide +kernel
theorem dX6_lots_94 : decode cX6_lots 94 = .ok (.aload_n 0, 1) := by decide +kernel
theorem dX6_lots_95 : decode cX6_lots 95 = .ok (.bipush 10, 2) := by decide +kernel
theorem dX6_lots_97 : decode cX6_lots 97 = .ok (.invokevirtual 285, 3) := by decide +kernel
theorem dX6_lots_100 : decode cX6_lots 100 = .ok (.iastore, 1) := by decide +kernel
theorem dX6_lots_101 : decode cX6_lots 101 = .ok (.iinc 8 1, 3) := by decide +kernel
theorem dX6_lots_104 : decode cX6_lots 104 = .ok (.goto (-38), 3) := by decide +kernel
theorem dX6_lots_107 : decode cX6_lots 107 = .ok (.aload_n 0, 1) := by decide +kernel
theorem dX6_lots_108 : decode cX6_lots 108 = .ok (.bipush 10, 2) := by decide +kernel
theorem dX6_lots_110 : decode cX6_lots 110 = .ok (.invokevirtual 107, 3) := by decide +kernel
theorem dX6_lots_113 : decode cX6_lots 113 = .ok (.iload 5, 2) := by decide +kernel
theorem dX6_lots_115 : decode cX6_lots 115 = .ok (.aload_n 0, 1) := by decide +kernel
theorem dX6_lots_116 : decode cX6_lots 116 = .ok (.invokevirtual 202, 3) := by decide +kernel
theorem dX6_lots_119 : decode cX6_lots 119 = .ok (.invokestatic 205, 3) := by decide +kernel
theorem dX6_lots_122 : decode cX6_lots 122 = .ok (.iadd, 1) := by decide +kernel
theorem dX6_lots_123 : decode cX6_lots 123 = .ok (.istore 5, 2) := by decide +kernel
theorem dX6_lots_125 : decode cX6_lots 125 = .ok (.iload 6, 2) := by decide +kernel
theorem dX6_lots_127 : decode cX6_lots 127 = .ok (.aload_n 0, 1) := by decide +kernel
theorem dX6_lots_128 : decode cX6_lots 128 = .ok (.invokevirtual 288, 3) := by decide +kernel
theorem dX6_lots_131 : decode cX6_lots 131 = .ok (.iadd, 1) := by decide +kernel
theorem dX6_lots_132 : decode cX6_lots 132 = .ok (.istore 6, 2) := by decide +kernel
theorem dX6_lots_134 : decode cX6_lots 134 = .ok (.aload_n 0, 1) := by decide +kernel
theorem dX6_lots_135 : decode cX6_lots 135 = .ok (.invokevirtual 214, 3) := by decide +kernel
theorem dX6_lots_138 : decode cX6_lots 138 = .ok (.iinc 7 1, 3) := by decide +kernel
theorem dX6_lots_141 : decode cX6_lots 141 = .ok (.goto (-88), 3) := by decide +kernel
theorem dX6_lots_144 : decode cX6_lots 144 = .ok (.iload_n 3, 1) := by decide +kernel
theorem dX6_lots_145 : decode cX6_lots 145 = .ok (.ifCond .ne 8, 3) := by decide +kernel
theorem dX6_lots_148 : decode cX6_lots 148 = .ok (.iload 5, 2) := by decide +kernel
theorem dX6_lots_150 : decode cX6_lots 150 = .ok (.goto 5, 3) := by decide +kernel
theorem dX6_lots_153 : decode cX6_lots 153 = .ok (.iload 6, 2) := by decide +kernel
theorem dX6_lots_155 : decode cX6_lots 155 = .ok (.ireturn, 1) := by decide +kernel
set_option maxRecDepth 20000 in
theorem ggX6_count_X6_isIn : GoodIn wsX6_count wsX6_isIn := goodIn_r _ [10] (by decide +kernel) (by decide +kernel)
set_option maxRecDepth 20000 in
theorem gX6_count_X6_isIn : GoodIn wsX6_count (va_wsS RX6 84 yX6_isIn wsX6_isIn) := goodIn_app (goodIn_of _ (by decide +kernel)) ggX6_count_X6_isIn
set_option maxRecDepth 20000 in
theorem ggX6_count_X6_believers : GoodIn wsX6_count wsX6_believers := goodIn_r _ [14, 2, 15, 16, 17, 9, 18, 19, 20, 21, 22, 23, 24, 25, 26, 27, 36, 37, 38, 39, 40, 41, 42, 43, 44, 45, 46, 47, 48, 49, 50, 51, 52, 53, 54, 55, 56, 57, 58, 59, 60] (by decide +kernel) (by decide +kernel)
set_option maxRecDepth 20000 in
theorem gX6_count_X6_believers : GoodIn wsX6_count (wsV RX6 202 RX6 yX6_believers wsX6_believers) := goodIn_app (goodIn_of _ (by decide +kernel)) ggX6_count_X6_believers
set_option maxRecDepth 20000 in
theorem ggX6_count_X6_allBelief : GoodIn wsX6_count wsX6_allBelief := goodIn_r _ [31, 2, 27, 36, 37, 38, 39, 40, 41, 42, 43, 44, 45, 46, 47, 48, 49, 50, 51, 52, 53, 54, 55, 56, 57, 58, 59, 60] (by decide +kernel) (by decide +kernel)
set_option maxRecDepth 20000 in
theorem gX6_count_X6_allBelief : GoodIn wsX6_count (wsV RX6 288 RX6 yX6_allBelief wsX6_allBelief) := goodIn_app (goodIn_of _ (by decide +kernel)) ggX6_count_X6_allBelief
set_option maxRecDepth 20000 in
theorem ggX6_count_X6_here : GoodIn wsX6_count wsX6_here := goodIn_r _ [35, 4, 36, 37, 38, 39, 40, 41, 42, 43, 44, 45, 46, 47, 48, 49, 50, 51, 52, 53, 54, 55, 56, 57, 58, 59, 60] (by decide +kernel) (by decide +kernel)
set_option maxRecDepth 20000 in
theorem gX6_count_X6_here : GoodIn wsX6_count (wsV RX6 186 RX6 yX6_here wsX6_here) := goodIn_app (goodIn_of _ (by decide +kernel)) ggX6_count_X6_here
theorem dX6_count_0 : decode cX6_count 0 = .ok (.iload_n 1, 1) := by decide +kernel
theorem dX6_count_1 : decode cX6_count 1 = .ok (.bipush 11, 2) := by decide +kernel
theorem dX6_count_3 : decode cX6_count 3 = .ok (.bipush 16, 2) := by decide +kernel
theorem dX6_count_5 : decode cX6_count 5 = .ok (.invokestatic 84, 3) := by decide +kernel
theorem dX6_count_8 : decode cX6_count 8 = .ok (.ifCond .eq 13, 3) := by decide +kernel
theorem dX6_count_11 : decode cX6_count 11 = .ok (.aload_n 0, 1) := by decide +kernel
theorem dX6_count_12 : decode cX6_count 12 = .ok (.getfield 7, 3) := by decide +kernel
theorem dX6_count_15 : decode cX6_count 15 = .ok (.iload_n 1, 1) := by decide +kernel
theorem dX6_count_16 : decode cX6_count 16 = .ok (.bipush 10, 2) := by decide +kernel
theorem dX6_count_18 : decode cX6_count 18 = .ok (.isub, 1) := by decide +kernel
theorem dX6_count_19 : decode cX6_count 19 = .ok (.iaload, 1) := by decide +kernel
theorem dX6_count_20 : decode cX6_count 20 = .ok (.ireturn, 1) := by decide +kernel
theorem dX6_count_21 : decode cX6_count 21 = .ok (.iconst 0, 1) := by decide +kernel
theorem dX6_count_22 : decode cX6_count 22 = .ok (.istore_n 2, 1) := by decide +kernel
theorem dX6_count_23 : decode cX6_count 23 = .ok (.iload_n 1, 1) := by decide +kernel
theorem dX6_count_24 : decode cX6_count 24 = .ok (.tableswitch 108 0 7 #[48, 53, 58, 63, 68, 93, 98, 103], 48) := by decide +kernel
theorem dX6_count_72 : decode cX6_count 72 = .ok (.aload_n 0, 1) := by decide +kernel
theorem dX6_count_73 : decode cX6_count 73 = .ok (.getfield 52, 3) := by decide +kernel
theorem dX6_count_76 : decode cX6_count 76 = .ok (.ireturn, 1) := by decide +kernel
theorem dX6_count_77 : decode cX6_count 77 = .ok (.aload_n 0, 1) := by decide +kernel
theorem dX6_count_78 : decode cX6_count 78 = .ok (.getfield 104, 3) := by decide +kernel
theorem dX6_count_81 : decode cX6_count 81 = .ok (.ireturn, 1) := by decide +kernel
theorem dX6_count_82 : decode cX6_count 82 = .ok (.aload_n 0, 1) := by decide +kernel
theorem dX6_count_83 : decode cX6_count 83 = .ok (.invokevirtual 202, 3) := by decide +kernel
theorem dX6_count_86 : decode cX6_count 86 = .ok (.ireturn, 1) := by decide +kernel
theorem dX6_count_87 : decode cX6_count 87 = .ok (.aload_n 0, 1) := by decide +kernel
theorem dX6_count_88 : decode cX6_count 88 = .ok (.invokevirtual 288, 3) := by decide +kernel
theorem dX6_count_91 : decode cX6_count 91 = .ok (.ireturn, 1) := by decide +kernel
theorem dX6_count_92 : decode cX6_count 92 = .ok (.iconst 0, 1) := by decide +kernel
theorem dX6_count_93 : decode cX6_count 93 = .ok (.istore_n 3, 1) := by decide +kernel
theorem dX6_count_94 : decode cX6_count 94 = .ok (.iload_n 3, 1) := by decide +kernel
theorem dX6_count_95 : decode cX6_count 95 = .ok (.bipush 25, 2) := by decide +kernel
theorem dX6_count_97 : decode cX6_count 97 = .ok (.if_icmp .ge 18, 3) := by decide +kernel
theorem dX6_count_100 : decode cX6_count 100 = .ok (.iload_n 2, 1) := by decide +kernel
theorem dX6_count_101 : decode cX6_count 101 = .ok (.aload_n 0, 1) := by decide +kernel
theorem dX6_count_102 : decode cX6_count 102 = .ok (.getfield 13, 3) := by decide +kernel
theorem dX6_count_105 : decode cX6_count 105 = .ok (.iload_n 3, 1) := by decide +kernel
theorem dX6_count_106 : decode cX6_count 106 = .ok (.iaload, 1) := by decide +kernel
theorem dX6_count_107 : decode cX6_count 107 = .ok (.iadd, 1) := by decide +kernel
theorem dX6_count_108 : decode cX6_count 108 = .ok (.istore_n 2, 1) := by decide +kernel
theorem dX6_count_109 : decode cX6_count 109 = .ok (.iinc 3 1, 3) := by decide +kernel
theorem dX6_count_112 : decode cX6_count 112 = .ok (.goto (-18), 3) := by decide +kernel
theorem dX6_count_115 : decode cX6_count 115 = .ok (.iload_n 2, 1) := by decide +kernel
theorem dX6_count_116 : decode cX6_count 116 = .ok (.ireturn, 1) := by decide +kernel
theorem dX6_count_117 : decode cX6_count 117 = .ok (.aload_n 0, 1) := by decide +kernel
theorem dX6_count_118 : decode cX6_count 118 = .ok (.invokevirtual 186, 3) := by decide +kernel
theorem dX6_count_121 : decode cX6_count 121 = .ok (.ireturn, 1) := by decide +kernel
theorem dX6_count_122 : decode cX6_count 122 = .ok (.aload_n 0, 1) := by decide +kernel
theorem dX6_count_123 : decode cX6_count 123 = .ok (.getfield 266, 3) := by decide +kernel
theorem dX6_count_126 : decode cX6_count 126 = .ok (.ireturn, 1) := by decide +kernel
theorem dX6_count_127 : decode cX6_count 127 = .ok (.aload_n 0, 1) := by decide +kernel
theorem dX6_count_128 : decode cX6_count 128 = .ok (.getfield 70, 3) := by decide +kernel
theorem dX6_count_131 : decode cX6_count 131 = .ok (.ireturn, 1) := by decide +kernel
theorem dX6_count_132 : decode cX6_count 132 = .ok (.bipush (-9), 2) := by decide +kernel
theorem dX6_count_134 : decode cX6_count 134 = .ok (.ireturn, 1) := by decide +kernel
