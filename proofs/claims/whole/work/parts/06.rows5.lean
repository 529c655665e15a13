set_option maxRecDepth 20000 in
theorem ggX5_init_X3_init : GoodIn wsX5_init wsX3_init := goodIn_r _ [31, 32, 2, 3, 26, 33, 34, 35, 36, 37, 38, 39, 40, 66, 67, 68, 69, 70, 71, 72, 73] (by decide +kernel) (by decide +kernel)
set_option maxRecDepth 20000 in
theorem gX5_init_X3_init : GoodIn wsX5_init (wsX3_init) := ggX5_init_X3_init
set_option maxRecDepth 20000 in
theorem ggX5_init_X1_init : GoodIn wsX5_init wsX1_init := goodIn_r _ [43, 44, 2, 3, 45, 46, 83, 84] (by decide +kernel) (by decide +kernel)
set_option maxRecDepth 20000 in
theorem gX5_init_X1_init : GoodIn wsX5_init (wsX1_init) := ggX5_init_X1_init
set_option maxRecDepth 20000 in
theorem ggX5_init_X0_init : GoodIn wsX5_init wsX0_init := goodIn_r _ [49, 50, 2, 3, 51, 85] (by decide +kernel) (by decide +kernel)
set_option maxRecDepth 20000 in
theorem gX5_init_X0_init : GoodIn wsX5_init (wsX0_init) := ggX5_init_X0_init
set_option maxRecDepth 20000 in
theorem ggX5_init_X4_init : GoodIn wsX5_init wsX4_init := goodIn_r _ [54, 55, 2, 3, 26, 56, 57, 58, 59, 86, 87, 88, 89] (by decide +kernel) (by decide +kernel)
set_option maxRecDepth 20000 in
theorem gX5_init_X4_init : GoodIn wsX5_init (wsX4_init) := ggX5_init_X4_init
set_option maxRecDepth 20000 in
theorem ggX5_init_X2_init : GoodIn wsX5_init wsX2_init := goodIn_r _ [62, 63, 2, 3, 26, 64, 65, 90, 91] (by decide +kernel) (by decide +kernel)
set_option maxRecDepth 20000 in
theorem gX5_init_X2_init : GoodIn wsX5_init (wsX2_init) := ggX5_init_X2_init
theorem dX5_init_0 : decode cX5_init 0 = .ok (.aload_n 0, 1) := by decide +kernel
theorem dX5_init_1 : decode cX5_init 1 = .ok (.invokespecial 3, 3) := by decide +kernel
theorem dX5_init_4 : decode cX5_init 4 = .ok (.aload_n 0, 1) := by decide +kernel
theorem dX5_init_5 : decode cX5_init 5 = .ok (.new 9, 3) := by decide +kernel
theorem dX5_init_8 : decode cX5_init 8 = .ok (.dup, 1) := by decide +kernel
theorem dX5_init_9 : decode cX5_init 9 = .ok (.invokespecial 11, 3) := by decide +kernel
theorem dX5_init_12 : decode cX5_init 12 = .ok (.putfield 12, 3) := by decide +kernel
theorem dX5_init_15 : decode cX5_init 15 = .ok (.aload_n 0, 1) := by decide +kernel
theorem dX5_init_16 : decode cX5_init 16 = .ok (.new 9, 3) := by decide +kernel
theorem dX5_init_19 : decode cX5_init 19 = .ok (.dup, 1) := by decide +kernel
theorem dX5_init_20 : decode cX5_init 20 = .ok (.invokespecial 11, 3) := by decide +kernel
theorem dX5_init_23 : decode cX5_init 23 = .ok (.putfield 16, 3) := by decide +kernel
theorem dX5_init_26 : decode cX5_init 26 = .ok (.aload_n 0, 1) := by decide +kernel
theorem dX5_init_27 : decode cX5_init 27 = .ok (.new 9, 3) := by decide +kernel
theorem dX5_init_30 : decode cX5_init 30 = .ok (.dup, 1) := by decide +kernel
theorem dX5_init_31 : decode cX5_init 31 = .ok (.invokespecial 11, 3) := by decide +kernel
theorem dX5_init_34 : decode cX5_init 34 = .ok (.putfield 19, 3) := by decide +kernel
theorem dX5_init_37 : decode cX5_init 37 = .ok (.aload_n 0, 1) := by decide +kernel
theorem dX5_init_38 : decode cX5_init 38 = .ok (.new 22, 3) := by decide +kernel
theorem dX5_init_41 : decode cX5_init 41 = .ok (.dup, 1) := by decide +kernel
theorem dX5_init_42 : decode cX5_init 42 = .ok (.aload_n 0, 1) := by decide +kernel
theorem dX5_init_43 : decode cX5_init 43 = .ok (.getfield 12, 3) := by decide +kernel
theorem dX5_init_46 : decode cX5_init 46 = .ok (.aload_n 0, 1) := by decide +kernel
theorem dX5_init_47 : decode cX5_init 47 = .ok (.getfield 19, 3) := by decide +kernel
theorem dX5_init_50 : decode cX5_init 50 = .ok (.invokespecial 24, 3) := by decide +kernel
theorem dX5_init_53 : decode cX5_init 53 = .ok (.putfield 27, 3) := by decide +kernel
theorem dX5_init_56 : decode cX5_init 56 = .ok (.aload_n 0, 1) := by decide +kernel
theorem dX5_init_57 : decode cX5_init 57 = .ok (.new 31, 3) := by decide +kernel
theorem dX5_init_60 : decode cX5_init 60 = .ok (.dup, 1) := by decide +kernel
theorem dX5_init_61 : decode cX5_init 61 = .ok (.aload_n 0, 1) := by decide +kernel
theorem dX5_init_62 : decode cX5_init 62 = .ok (.getfield 12, 3) := by decide +kernel
theorem dX5_init_65 : decode cX5_init 65 = .ok (.invokespecial 33, 3) := by decide +kernel
theorem dX5_init_68 : decode cX5_init 68 = .ok (.putfield 36, 3) := by decide +kernel
theorem dX5_init_71 : decode cX5_init 71 = .ok (.aload_n 0, 1) := by decide +kernel
theorem dX5_init_72 : decode cX5_init 72 = .ok (.new 40, 3) := by decide +kernel
theorem dX5_init_75 : decode cX5_init 75 = .ok (.dup, 1) := by decide +kernel
theorem dX5_init_76 : decode cX5_init 76 = .ok (.aload_n 0, 1) := by decide +kernel
theorem dX5_init_77 : decode cX5_init 77 = .ok (.getfield 12, 3) := by decide +kernel
theorem dX5_init_80 : decode cX5_init 80 = .ok (.aload_n 0, 1) := by decide +kernel
theorem dX5_init_81 : decode cX5_init 81 = .ok (.getfield 19, 3) := by decide +kernel
theorem dX5_init_84 : decode cX5_init 84 = .ok (.invokespecial 42, 3) := by decide +kernel
theorem dX5_init_87 : decode cX5_init 87 = .ok (.putfield 43, 3) := by decide +kernel
theorem dX5_init_90 : decode cX5_init 90 = .ok (.aload_n 0, 1) := by decide +kernel
theorem dX5_init_91 : decode cX5_init 91 = .ok (.new 47, 3) := by decide +kernel
theorem dX5_init_94 : decode cX5_init 94 = .ok (.dup, 1) := by decide +kernel
theorem dX5_init_95 : decode cX5_init 95 = .ok (.invokespecial 49, 3) := by decide +kernel
theorem dX5_init_98 : decode cX5_init 98 = .ok (.putfield 50, 3) := by decide +kernel
theorem dX5_init_101 : decode cX5_init 101 = .ok (.aload_n 0, 1) := by decide +kernel
theorem dX5_init_102 : decode cX5_init 102 = .ok (.bipush 7, 2) := by decide +kernel
theorem dX5_init_104 : decode cX5_init 104 = .ok (.newarray .int, 2) := by decide +kernel
theorem dX5_init_106 : decode cX5_init 106 = .ok (.putfield 54, 3) := by decide +kernel
theorem dX5_init_109 : decode cX5_init 109 = .ok (.aload_n 0, 1) := by decide +kernel
theorem dX5_init_110 : decode cX5_init 110 = .ok (.iconst 0, 1) := by decide +kernel
theorem dX5_init_111 : decode cX5_init 111 = .ok (.putfield 58, 3) := by decide +kernel
theorem dX5_init_114 : decode cX5_init 114 = .ok (.return_, 1) := by decide +kernel
set_option maxRecDepth 20000 in
theorem ggX5_letter_X5_range : GoodIn wsX5_letter wsX5_range := goodIn_r _ [5] (by decide +kernel) (by decide +kernel)
set_option maxRecDepth 20000 in
theorem gX5_letter_X5_range : GoodIn wsX5_letter (va_wsS RX5 62 yX5_range wsX5_range) := goodIn_app (goodIn_of _ (by decide +kernel)) ggX5_letter_X5_range
set_option maxRecDepth 20000 in
theorem ggX5_letter_X4_isFull : GoodIn wsX5_letter wsX4_isFull := goodIn_r _ [10, 11, 32, 33, 34, 35] (by decide +kernel) (by decide +kernel)
set_option maxRecDepth 20000 in
theorem gX5_letter_X4_isFull : GoodIn wsX5_letter (wsV RX5 66 RX4 yX4_isFull wsX4_isFull) := goodIn_app (goodIn_of _ (by decide +kernel)) ggX5_letter_X4_isFull
set_option maxRecDepth 20000 in
theorem ggX5_letter_X5_refuse : GoodIn wsX5_letter wsX5_refuse := goodIn_r _ [15, 16, 23, 24, 25, 26, 27, 28, 29, 30, 31] (by decide +kernel) (by decide +kernel)
set_option maxRecDepth 20000 in
theorem gX5_letter_X5_refuse : GoodIn wsX5_letter (wsV RX5 70 RX5 yX5_refuse wsX5_refuse) := goodIn_app (goodIn_of _ (by decide +kernel)) ggX5_letter_X5_refuse
set_option maxRecDepth 20000 in
theorem ggX5_letter_X4_append : GoodIn wsX5_letter wsX4_append := goodIn_r _ [20, 21, 11, 22, 7, 8, 9, 10, 32, 33, 34, 35] (by decide +kernel) (by decide +kernel)
set_option maxRecDepth 20000 in
theorem gX5_letter_X4_append : GoodIn wsX5_letter (wsV RX5 74 RX4 yX4_append wsX4_append) := goodIn_app (goodIn_of _ (by decide +kernel)) ggX5_letter_X4_append
theorem dX5_letter_0 : decode cX5_letter 0 = .ok (.iload_n 1, 1) := by decide +kernel
theorem dX5_letter_1 : decode cX5_letter 1 = .ok (.iconst 0, 1) := by decide +kernel
theorem dX5_letter_2 : decode cX5_letter 2 = .ok (.sipush 255, 3) := by decide +kernel
theorem dX5_letter_5 : decode cX5_letter 5 = .ok (.invokestatic 62, 3) := by decide +kernel
theorem dX5_letter_8 : decode cX5_letter 8 = .ok (.istore_n 2, 1) := by decide +kernel
theorem dX5_letter_9 : decode cX5_letter 9 = .ok (.iload_n 2, 1) := by decide +kernel
theorem dX5_letter_10 : decode cX5_letter 10 = .ok (.ifCond .ne 16, 3) := by decide +kernel
theorem dX5_letter_13 : decode cX5_letter 13 = .ok (.aload_n 0, 1) := by decide +kernel
theorem dX5_letter_14 : decode cX5_letter 14 = .ok (.getfield 43, 3) := by decide +kernel
theorem dX5_letter_17 : decode cX5_letter 17 = .ok (.invokevirtual 66, 3) := by decide +kernel
theorem dX5_letter_20 : decode cX5_letter 20 = .ok (.ifCond .eq 6, 3) := by decide +kernel
theorem dX5_letter_23 : decode cX5_letter 23 = .ok (.bipush (-6), 2) := by decide +kernel
theorem dX5_letter_25 : decode cX5_letter 25 = .ok (.istore_n 2, 1) := by decide +kernel
theorem dX5_letter_26 : decode cX5_letter 26 = .ok (.iload_n 2, 1) := by decide +kernel
theorem dX5_letter_27 : decode cX5_letter 27 = .ok (.ifCond .eq 11, 3) := by decide +kernel
theorem dX5_letter_30 : decode cX5_letter 30 = .ok (.aload_n 0, 1) := by decide +kernel
theorem dX5_letter_31 : decode cX5_letter 31 = .ok (.iload_n 2, 1) := by decide +kernel
theorem dX5_letter_32 : decode cX5_letter 32 = .ok (.invokevirtual 70, 3) := by decide +kernel
theorem dX5_letter_35 : decode cX5_letter 35 = .ok (.goto 11, 3) := by decide +kernel
theorem dX5_letter_38 : decode cX5_letter 38 = .ok (.aload_n 0, 1) := by decide +kernel
theorem dX5_letter_39 : decode cX5_letter 39 = .ok (.getfield 43, 3) := by decide +kernel
theorem dX5_letter_42 : decode cX5_letter 42 = .ok (.iload_n 1, 1) := by decide +kernel
theorem dX5_letter_43 : decode cX5_letter 43 = .ok (.invokevirtual 74, 3) := by decide +kernel
theorem dX5_letter_46 : decode cX5_letter 46 = .ok (.ireturn, 1) := by decide +kernel
set_option maxRecDepth 20000 in
theorem ggX5_slope_X4_become : GoodIn wsX5_slope wsX4_become := goodIn_r _ [6, 7, 8, 9, 10, 11, 12, 13, 14, 15, 16, 17, 5, 18, 19, 20, 21, 22, 23, 24, 25, 26, 27, 28, 29, 30, 31, 32, 33, 34, 35, 36, 37, 38, 39, 40, 41, 42, 43, 44, 45, 46, 47, 48, 49, 50, 51, 52, 53, 54, 55, 56, 57, 58, 59, 60, 61, 62, 63, 64, 65, 66, 67, 68, 69, 70, 71, 72, 73, 74, 75, 76, 77, 78, 79, 80, 81, 82, 83, 84, 85, 86, 87, 88, 89, 90, 91, 92, 93, 94, 95, 96, 97, 98, 99, 100, 101, 102, 103, 104, 105, 106, 107, 108, 109, 110, 111, 112, 113, 114, 115, 116, 117, 118, 119, 120, 121, 122, 123, 124, 125, 126, 127, 128, 129, 130, 131, 132, 133, 134, 135, 136, 137, 138, 139, 140, 141, 142, 143, 144, 145, 146, 147, 148, 149, 150, 164, 165, 166, 167, 168, 169, 170, 171, 172, 173, 174, 175] (by decide +kernel) (by decide +kernel)
set_option maxRecDepth 20000 in
theorem gX5_slope_X4_become : GoodIn wsX5_slope (wsV RX5 77 RX4 yX4_become wsX4_become) := goodIn_app (goodIn_of _ (by decide +kernel)) ggX5_slope_X4_become
set_option maxRecDepth 20000 in
theorem ggX5_slope_X4_empty : GoodIn wsX5_slope wsX4_empty := goodIn_r _ [154, 9, 164, 165, 166, 167] (by decide +kernel) (by decide +kernel)
set_option maxRecDepth 20000 in
theorem gX5_slope_X4_empty : GoodIn wsX5_slope (wsV RX5 81 RX4 yX4_empty wsX4_empty) := goodIn_app (goodIn_of _ (by decide +kernel)) ggX5_slope_X4_empty
theorem dX5_slope_0 : decode cX5_slope 0 = .ok (.aload_n 0, 1) := by decide +kernel
theorem dX5_slope_1 : decode cX5_slope 1 = .ok (.getfield 43, 3) := by decide +kernel
theorem dX5_slope_4 : decode cX5_slope 4 = .ok (.invokevirtual 77, 3) := by decide +kernel
theorem dX5_slope_7 : decode cX5_slope 7 = .ok (.istore_n 1, 1) := by decide +kernel
theorem dX5_slope_8 : decode cX5_slope 8 = .ok (.aload_n 0, 1) := by decide +kernel
theorem dX5_slope_9 : decode cX5_slope 9 = .ok (.getfield 43, 3) := by decide +kernel
theorem dX5_slope_12 : decode cX5_slope 12 = .ok (.invokevirtual 81, 3) := by decide +kernel
theorem dX5_slope_15 : decode cX5_slope 15 = .ok (.iload_n 1, 1) := by decide +kernel
theorem dX5_slope_16 : decode cX5_slope 16 = .ok (.ireturn, 1) := by decide +kernel
set_option maxRecDepth 20000 in
theorem ggX5_depth_X5_noCell : GoodIn wsX5_depth wsX5_noCell := goodIn_r _ [6] (by decide +kernel) (by decide +kernel)
set_option maxRecDepth 20000 in
theorem gX5_depth_X5_noCell : GoodIn wsX5_depth (va_wsS RX5 84 yX5_noCell wsX5_noCell) := goodIn_app (goodIn_of _ (by decide +kernel)) ggX5_depth_X5_noCell
set_option maxRecDepth 20000 in
theorem ggX5_depth_X5_refuse : GoodIn wsX5_depth wsX5_refuse := goodIn_r _ [10, 11, 12, 13, 14, 15, 16, 17, 18, 19, 20] (by decide +kernel) (by decide +kernel)
set_option maxRecDepth 20000 in
theorem gX5_depth_X5_refuse : GoodIn wsX5_depth (wsV RX5 70 RX5 yX5_refuse wsX5_refuse) := goodIn_app (goodIn_of _ (by decide +kernel)) ggX5_depth_X5_refuse
theorem dX5_depth_0 : decode cX5_depth 0 = .ok (.iload_n 1, 1) := by decide +kernel
theorem dX5_depth_1 : decode cX5_depth 1 = .ok (.invokestatic 84, 3) := by decide +kernel
theorem dX5_depth_4 : decode cX5_depth 4 = .ok (.istore_n 2, 1) := by decide +kernel
theorem dX5_depth_5 : decode cX5_depth 5 = .ok (.iload_n 2, 1) := by decide +kernel
theorem dX5_depth_6 : decode cX5_depth 6 = .ok (.ifCond .eq 11, 3) := by decide +kernel
theorem dX5_depth_9 : decode cX5_depth 9 = .ok (.aload_n 0, 1) := by decide +kernel
theorem dX5_depth_10 : decode cX5_depth 10 = .ok (.iload_n 2, 1) := by decide +kernel
theorem dX5_depth_11 : decode cX5_depth 11 = .ok (.invokevirtual 70, 3) := by decide +kernel
theorem dX5_depth_14 : decode cX5_depth 14 = .ok (.goto 12, 3) := by decide +kernel
theorem dX5_depth_17 : decode cX5_depth 17 = .ok (.aload_n 0, 1) := by decide +kernel
theorem dX5_depth_18 : decode cX5_depth 18 = .ok (.getfield 12, 3) := by decide +kernel
theorem dX5_depth_21 : decode cX5_depth 21 = .ok (.getfield 87, 3) := by decide +kernel
theorem dX5_depth_24 : decode cX5_depth 24 = .ok (.iload_n 1, 1) := by decide +kernel
theorem dX5_depth_25 : decode cX5_depth 25 = .ok (.iaload, 1) := by decide +kernel
theorem dX5_depth_26 : decode cX5_depth 26 = .ok (.ireturn, 1) := by decide +kernel
set_option maxRecDepth 20000 in
theorem ggX5_person_X5_noPerson : GoodIn wsX5_person wsX5_noPerson := goodIn_r _ [10, 1, 11, 73, 74, 75, 76, 77, 78, 79, 80, 81, 82, 83, 84, 85, 86, 87, 88, 89] (by decide +kernel) (by decide +kernel)
set_option maxRecDepth 20000 in
theorem gX5_person_X5_noPerson : GoodIn wsX5_person (wsV RX5 90 RX5 yX5_noPerson wsX5_noPerson) := goodIn_app (goodIn_of _ (by decide +kernel)) ggX5_person_X5_noPerson
set_option maxRecDepth 20000 in
theorem ggX5_person_X5_other : GoodIn wsX5_person wsX5_other := goodIn_r _ [14] (by decide +kernel) (by decide +kernel)
set_option maxRecDepth 20000 in
theorem gX5_person_X5_other : GoodIn wsX5_person (va_wsS RX5 93 yX5_other wsX5_other) := goodIn_app (goodIn_of _ (by decide +kernel)) ggX5_person_X5_other
set_option maxRecDepth 20000 in
theorem ggX5_person_X5_firstOf : GoodIn wsX5_person wsX5_firstOf := goodIn_r _ [17] (by decide +kernel) (by decide +kernel)
set_option maxRecDepth 20000 in
theorem gX5_person_X5_firstOf : GoodIn wsX5_person (va_wsS RX5 97 yX5_firstOf wsX5_firstOf) := goodIn_app (goodIn_of _ (by decide +kernel)) ggX5_person_X5_firstOf
set_option maxRecDepth 20000 in
theorem ggX5_person_X5_refuse : GoodIn wsX5_person wsX5_refuse := goodIn_r _ [21, 22, 73, 74, 75, 76, 77, 78, 79, 80, 81] (by decide +kernel) (by decide +kernel)
set_option maxRecDepth 20000 in
theorem gX5_person_X5_refuse : GoodIn wsX5_person (wsV RX5 70 RX5 yX5_refuse wsX5_refuse) := goodIn_app (goodIn_of _ (by decide +kernel)) ggX5_person_X5_refuse
set_option maxRecDepth 20000 in
theorem ggX5_person_X3_besideBits : GoodIn wsX5_person wsX3_besideBits := goodIn_r _ [27, 28, 29, 30, 9, 31, 82, 83, 84, 85, 86, 87, 88, 89] (by decide +kernel) (by decide +kernel)
set_option maxRecDepth 20000 in
theorem gX5_person_X3_besideBits : GoodIn wsX5_person (wsV RX5 112 RX3 yX3_besideBits wsX3_besideBits) := goodIn_app (goodIn_of _ (by decide +kernel)) ggX5_person_X3_besideBits
set_option maxRecDepth 20000 in
theorem ggX5_person_J6_bitCount_0f7a4 : GoodIn wsX5_person wsJ6_bitCount_0f7a4 := goodIn_r _ [35, 36, 37, 38] (by decide +kernel) (by decide +kernel)
set_option maxRecDepth 20000 in
theorem gX5_person_J6_bitCount_0f7a4 : GoodIn wsX5_person (va_wsS RX5 115 yJ6_bitCount_0f7a4 wsJ6_bitCount_0f7a4) := goodIn_app (goodIn_of _ (by decide +kernel)) ggX5_person_J6_bitCount_0f7a4
set_option maxRecDepth 20000 in
theorem ggX5_person_X3_believerBits : GoodIn wsX5_person wsX3_believerBits := goodIn_r _ [42, 28, 43, 44, 45, 26, 46, 47, 82, 83, 84, 85, 86, 87, 88, 89] (by decide +kernel) (by decide +kernel)
set_option maxRecDepth 20000 in
theorem gX5_person_X3_believerBits : GoodIn wsX5_person (wsV RX5 120 RX3 yX3_believerBits wsX3_believerBits) := goodIn_app (goodIn_of _ (by decide +kernel)) ggX5_person_X3_believerBits
set_option maxRecDepth 20000 in
theorem ggX5_person_X3_hollow : GoodIn wsX5_person wsX3_hollow := goodIn_r _ [51, 52, 82, 83, 84, 85, 86, 87, 88, 89] (by decide +kernel) (by decide +kernel)
set_option maxRecDepth 20000 in
theorem gX5_person_X3_hollow : GoodIn wsX5_person (wsV RX5 123 RX3 yX3_hollow wsX3_hollow) := goodIn_app (goodIn_of _ (by decide +kernel)) ggX5_person_X3_hollow
set_option maxRecDepth 20000 in
theorem ggX5_person_X3_nextBelief : GoodIn wsX5_person wsX3_nextBelief := goodIn_r _ [56, 47, 29, 28, 57, 58, 59, 60, 61, 62, 63, 64, 30, 9, 31, 43, 44, 45, 26, 46, 65, 66, 34, 67, 68, 69, 70, 71, 72, 82, 83, 84, 85, 86, 87, 88, 89] (by decide +kernel) (by decide +kernel)
set_option maxRecDepth 20000 in
theorem gX5_person_X3_nextBelief : GoodIn wsX5_person (wsV RX5 126 RX3 yX3_nextBelief wsX3_nextBelief) := goodIn_app (goodIn_of _ (by decide +kernel)) ggX5_person_X3_nextBelief
theorem dX5_person_0 : decode cX5_person 0 = .ok (.aload_n 0, 1) := by decide +kernel
theorem dX5_person_1 : decode cX5_person 1 = .ok (.iload_n 1, 1) := by decide +kernel
theorem dX5_person_2 : decode cX5_person 2 = .ok (.invokevirtual 90, 3) := by decide +kernel
theorem dX5_person_5 : decode cX5_person 5 = .ok (.iload_n 2, 1) := by decide +kernel
theorem dX5_person_6 : decode cX5_person 6 = .ok (.bipush 7, 2) := by decide +kernel
theorem dX5_person_8 : decode cX5_person 8 = .ok (.invokestatic 93, 3) := by decide +kernel
theorem dX5_person_11 : decode cX5_person 11 = .ok (.iconst 0, 1) := by decide +kernel
theorem dX5_person_12 : decode cX5_person 12 = .ok (.invokestatic 97, 3) := by decide +kernel
theorem dX5_person_15 : decode cX5_person 15 = .ok (.istore_n 3, 1) := by decide +kernel
theorem dX5_person_16 : decode cX5_person 16 = .ok (.iload_n 3, 1) := by decide +kernel
theorem dX5_person_17 : decode cX5_person 17 = .ok (.ifCond .eq 9, 3) := by decide +kernel
theorem dX5_person_20 : decode cX5_person 20 = .ok (.aload_n 0, 1) := by decide +kernel
theorem dX5_person_21 : decode cX5_person 21 = .ok (.iload_n 3, 1) := by decide +kernel
theorem dX5_person_22 : decode cX5_person 22 = .ok (.invokevirtual 70, 3) := by decide +kernel
theorem dX5_person_25 : decode cX5_person 25 = .ok (.ireturn, 1) := by decide +kernel
theorem dX5_person_26 : decode cX5_person 26 = .ok (.iload_n 2, 1) := by decide +kernel
theorem dX5_person_27 : decode cX5_person 27 = .ok (.tableswitch 109 0 5 #[37, 47, 57, 67, 77, 89], 37) := by decide +kernel
theorem dX5_person_64 : decode cX5_person 64 = .ok (.aload_n 0, 1) := by decide +kernel
theorem dX5_person_65 : decode cX5_person 65 = .ok (.getfield 12, 3) := by decide +kernel
theorem dX5_person_68 : decode cX5_person 68 = .ok (.getfield 100, 3) := by decide +kernel
theorem dX5_person_71 : decode cX5_person 71 = .ok (.iload_n 1, 1) := by decide +kernel
theorem dX5_person_72 : decode cX5_person 72 = .ok (.iaload, 1) := by decide +kernel
theorem dX5_person_73 : decode cX5_person 73 = .ok (.ireturn, 1) := by decide +kernel
theorem dX5_person_74 : decode cX5_person 74 = .ok (.aload_n 0, 1) := by decide +kernel
theorem dX5_person_75 : decode cX5_person 75 = .ok (.getfield 12, 3) := by decide +kernel
theorem dX5_person_78 : decode cX5_person 78 = .ok (.getfield 103, 3) := by decide +kernel
theorem dX5_person_81 : decode cX5_person 81 = .ok (.iload_n 1, 1) := by decide +kernel
theorem dX5_person_82 : decode cX5_person 82 = .ok (.iaload, 1) := by decide +kernel
theorem dX5_person_83 : decode cX5_person 83 = .ok (.ireturn, 1) := by decide +kernel
theorem dX5_person_84 : decode cX5_person 84 = .ok (.aload_n 0, 1) := by decide +kernel
theorem dX5_person_85 : decode cX5_person 85 = .ok (.getfield 12, 3) := by decide +kernel
theorem dX5_person_88 : decode cX5_person 88 = .ok (.getfield 106, 3) := by decide +kernel
theorem dX5_person_91 : decode cX5_person 91 = .ok (.iload_n 1, 1) := by decide +kernel
theorem dX5_person_92 : decode cX5_person 92 = .ok (.iaload, 1) := by decide +kernel
theorem dX5_person_93 : decode cX5_person 93 = .ok (.ireturn, 1) := by decide +kernel
theorem dX5_person_94 : decode cX5_person 94 = .ok (.aload_n 0, 1) := by decide +kernel
theorem dX5_person_95 : decode cX5_person 95 = .ok (.getfield 12, 3) := by decide +kernel
theorem dX5_person_98 : decode cX5_person 98 = .ok (.getfield 109, 3) := by decide +kernel
theorem dX5_person_101 : decode cX5_person 101 = .ok (.iload_n 1, 1) := by decide +kernel
theorem dX5_person_102 : decode cX5_person 102 = .ok (.iaload, 1) := by decide +kernel
theorem dX5_person_103 : decode cX5_person 103 = .ok (.ireturn, 1) := by decide +kernel
theorem dX5_person_104 : decode cX5_person 104 = .ok (.aload_n 0, 1) := by decide +kernel
theorem dX5_person_105 : decode cX5_person 105 = .ok (.getfield 12, 3) := by decide +kernel
theorem dX5_person_108 : decode cX5_person 108 = .ok (.iload_n 1, 1) := by decide +kernel
theorem dX5_person_109 : decode cX5_person 109 = .ok (.invokevirtual 112, 3) := by decide +kernel
theorem dX5_person_112 : decode cX5_person 112 = .ok (.invokestatic 115, 3) := by decide +kernel
theorem dX5_person_115 : decode cX5_person 115 = .ok (.ireturn, 1) := by decide +kernel
theorem dX5_person_116 : decode cX5_person 116 = .ok (.aload_n 0, 1) := by decide +kernel
theorem dX5_person_117 : decode cX5_person 117 = .ok (.getfield 12, 3) := by decide +kernel
theorem dX5_person_120 : decode cX5_person 120 = .ok (.iload_n 1, 1) := by decide +kernel
theorem dX5_person_121 : decode cX5_person 121 = .ok (.invokevirtual 112, 3) := by decide +kernel
theorem dX5_person_124 : decode cX5_person 124 = .ok (.aload_n 0, 1) := by decide +kernel
theorem dX5_person_125 : decode cX5_person 125 = .ok (.getfield 12, 3) := by decide +kernel
theorem dX5_person_128 : decode cX5_person 128 = .ok (.invokevirtual 120, 3) := by decide +kernel
theorem dX5_person_131 : decode cX5_person 131 = .ok (.iand, 1) := by decide +kernel
theorem dX5_person_132 : decode cX5_person 132 = .ok (.invokestatic 115, 3) := by decide +kernel
theorem dX5_person_135 : decode cX5_person 135 = .ok (.ireturn, 1) := by decide +kernel
theorem dX5_person_136 : decode cX5_person 136 = .ok (.aload_n 0, 1) := by decide +kernel
theorem dX5_person_137 : decode cX5_person 137 = .ok (.getfield 12, 3) := by decide +kernel
theorem dX5_person_140 : decode cX5_person 140 = .ok (.iload_n 1, 1) := by decide +kernel
theorem dX5_person_141 : decode cX5_person 141 = .ok (.aload_n 0, 1) := by decide +kernel
theorem dX5_person_142 : decode cX5_person 142 = .ok (.getfield 12, 3) := by decide +kernel
theorem dX5_person_145 : decode cX5_person 145 = .ok (.invokevirtual 123, 3) := by decide +kernel
theorem dX5_person_148 : decode cX5_person 148 = .ok (.invokevirtual 126, 3) := by decide +kernel
theorem dX5_person_151 : decode cX5_person 151 = .ok (.ireturn, 1) := by decide +kernel
set_option maxRecDepth 20000 in
theorem ggX5_place_X3_hollow : GoodIn wsX5_place wsX3_hollow := goodIn_r _ [6, 7, 17, 18, 19, 20, 21, 22, 23, 24] (by decide +kernel) (by decide +kernel)
set_option maxRecDepth 20000 in
theorem gX5_place_X3_hollow : GoodIn wsX5_place (wsV RX5 123 RX3 yX3_hollow wsX3_hollow) := goodIn_app (goodIn_of _ (by decide +kernel)) ggX5_place_X3_hollow
theorem dX5_place_0 : decode cX5_place 0 = .ok (.aload_n 0, 1) := by decide +kernel
theorem dX5_place_1 : decode cX5_place 1 = .ok (.getfield 12, 3) := by decide +kernel
theorem dX5_place_4 : decode cX5_place 4 = .ok (.invokevirtual 123, 3) := by decide +kernel
theorem dX5_place_7 : decode cX5_place 7 = .ok (.ireturn, 1) := by decide +kernel
set_option maxRecDepth 20000 in
theorem ggX5_digs_X5_noCell : GoodIn wsX5_digs wsX5_noCell := goodIn_r _ [6] (by decide +kernel) (by decide +kernel)
set_option maxRecDepth 20000 in
theorem gX5_digs_X5_noCell : GoodIn wsX5_digs (va_wsS RX5 84 yX5_noCell wsX5_noCell) := goodIn_app (goodIn_of _ (by decide +kernel)) ggX5_digs_X5_noCell
set_option maxRecDepth 20000 in
theorem ggX5_digs_X5_range : GoodIn wsX5_digs wsX5_range := goodIn_r _ [9] (by decide +kernel) (by decide +kernel)
set_option maxRecDepth 20000 in
theorem gX5_digs_X5_range : GoodIn wsX5_digs (va_wsS RX5 62 yX5_range wsX5_range) := goodIn_app (goodIn_of _ (by decide +kernel)) ggX5_digs_X5_range
set_option maxRecDepth 20000 in
theorem ggX5_digs_X5_firstOf : GoodIn wsX5_digs wsX5_firstOf := goodIn_r _ [12] (by decide +kernel) (by decide +kernel)
set_option maxRecDepth 20000 in
theorem gX5_digs_X5_firstOf : GoodIn wsX5_digs (va_wsS RX5 97 yX5_firstOf wsX5_firstOf) := goodIn_app (goodIn_of _ (by decide +kernel)) ggX5_digs_X5_firstOf
set_option maxRecDepth 20000 in
theorem ggX5_digs_X5_refuse : GoodIn wsX5_digs wsX5_refuse := goodIn_r _ [16, 17, 18, 19, 20, 21, 22, 23, 24, 25, 26] (by decide +kernel) (by decide +kernel)
set_option maxRecDepth 20000 in
theorem gX5_digs_X5_refuse : GoodIn wsX5_digs (wsV RX5 70 RX5 yX5_refuse wsX5_refuse) := goodIn_app (goodIn_of _ (by decide +kernel)) ggX5_digs_X5_refuse
theorem dX5_digs_0 : decode cX5_digs 0 = .ok (.iload_n 1, 1) := by decide +kernel
theorem dX5_digs_1 : decode cX5_digs 1 = .ok (.invokestatic 84, 3) := by decide +kernel
theorem dX5_digs_4 : decode cX5_digs 4 = .ok (.iload_n 2, 1) := by decide +kernel
theorem dX5_digs_5 : decode cX5_digs 5 = .ok (.iconst 0, 1) := by decide +kernel
theorem dX5_digs_6 : decode cX5_digs 6 = .ok (.bipush 99, 2) := by decide +kernel
theorem dX5_digs_8 : decode cX5_digs 8 = .ok (.invokestatic 62, 3) := by decide +kernel
theorem dX5_digs_11 : decode cX5_digs 11 = .ok (.iconst 0, 1) := by decide +kernel
theorem dX5_digs_12 : decode cX5_digs 12 = .ok (.invokestatic 97, 3) := by decide +kernel
theorem dX5_digs_15 : decode cX5_digs 15 = .ok (.istore_n 3, 1) := by decide +kernel
theorem dX5_digs_16 : decode cX5_digs 16 = .ok (.iload_n 3, 1) := by decide +kernel
theorem dX5_digs_17 : decode cX5_digs 17 = .ok (.ifCond .eq 9, 3) := by decide +kernel
theorem dX5_digs_20 : decode cX5_digs 20 = .ok (.aload_n 0, 1) := by decide +kernel
theorem dX5_digs_21 : decode cX5_digs 21 = .ok (.iload_n 3, 1) := by decide +kernel
theorem dX5_digs_22 : decode cX5_digs 22 = .ok (.invokevirtual 70, 3) := by decide +kernel
theorem dX5_digs_25 : decode cX5_digs 25 = .ok (.ireturn, 1) := by decide +kernel
theorem dX5_digs_26 : decode cX5_digs 26 = .ok (.aload_n 0, 1) := by decide +kernel
theorem dX5_digs_27 : decode cX5_digs 27 = .ok (.getfield 12, 3) := by decide +kernel
theorem dX5_digs_30 : decode cX5_digs 30 = .ok (.getfield 87, 3) := by decide +kernel
theorem dX5_digs_33 : decode cX5_digs 33 = .ok (.iload_n 1, 1) := by decide +kernel
theorem dX5_digs_34 : decode cX5_digs 34 = .ok (.iaload, 1) := by decide +kernel
theorem dX5_digs_35 : decode cX5_digs 35 = .ok (.istore 4, 2) := by decide +kernel
theorem dX5_digs_37 : decode cX5_digs 37 = .ok (.aload_n 0, 1) := by decide +kernel
theorem dX5_digs_38 : decode cX5_digs 38 = .ok (.getfield 12, 3) := by decide +kernel
theorem dX5_digs_41 : decode cX5_digs 41 = .ok (.getfield 87, 3) := by decide +kernel
theorem dX5_digs_44 : decode cX5_digs 44 = .ok (.iload_n 1, 1) := by decide +kernel
theorem dX5_digs_45 : decode cX5_digs 45 = .ok (.iload_n 2, 1) := by decide +kernel
theorem dX5_digs_46 : decode cX5_digs 46 = .ok (.iastore, 1) := by decide +kernel
theorem dX5_digs_47 : decode cX5_digs 47 = .ok (.iload 4, 2) := by decide +kernel
theorem dX5_digs_49 : decode cX5_digs 49 = .ok (.ireturn, 1) := by decide +kernel
set_option maxRecDepth 20000 in
theorem ggX5_believes_X5_noPerson : GoodIn wsX5_believes wsX5_noPerson := goodIn_r _ [7, 1, 8, 20, 21, 22, 23, 24, 25, 26, 27, 28, 29, 30, 31, 32, 33, 34, 35, 36] (by decide +kernel) (by decide +kernel)
set_option maxRecDepth 20000 in
theorem gX5_believes_X5_noPerson : GoodIn wsX5_believes (wsV RX5 90 RX5 yX5_noPerson wsX5_noPerson) := goodIn_app (goodIn_of _ (by decide +kernel)) ggX5_believes_X5_noPerson
set_option maxRecDepth 20000 in
theorem ggX5_believes_X5_range : GoodIn wsX5_believes wsX5_range := goodIn_r _ [11] (by decide +kernel) (by decide +kernel)
set_option maxRecDepth 20000 in
theorem gX5_believes_X5_range : GoodIn wsX5_believes (va_wsS RX5 62 yX5_range wsX5_range) := goodIn_app (goodIn_of _ (by decide +kernel)) ggX5_believes_X5_range
set_option maxRecDepth 20000 in
theorem ggX5_believes_X5_firstOf : GoodIn wsX5_believes wsX5_firstOf := goodIn_r _ [14] (by decide +kernel) (by decide +kernel)
set_option maxRecDepth 20000 in
theorem gX5_believes_X5_firstOf : GoodIn wsX5_believes (va_wsS RX5 97 yX5_firstOf wsX5_firstOf) := goodIn_app (goodIn_of _ (by decide +kernel)) ggX5_believes_X5_firstOf
set_option maxRecDepth 20000 in
theorem ggX5_believes_X5_refuse : GoodIn wsX5_believes wsX5_refuse := goodIn_r _ [18, 19, 20, 21, 22, 23, 24, 25, 26, 27, 28] (by decide +kernel) (by decide +kernel)
set_option maxRecDepth 20000 in
theorem gX5_believes_X5_refuse : GoodIn wsX5_believes (wsV RX5 70 RX5 yX5_refuse wsX5_refuse) := goodIn_app (goodIn_of _ (by decide +kernel)) ggX5_believes_X5_refuse
theorem dX5_believes_0 : decode cX5_believes 0 = .ok (.aload_n 0, 1) := by decide +kernel
theorem dX5_believes_1 : decode cX5_believes 1 = .ok (.iload_n 1, 1) := by decide +kernel
theorem dX5_believes_2 : decode cX5_believes 2 = .ok (.invokevirtual 90, 3) := by decide +kernel
theorem dX5_believes_5 : decode cX5_believes 5 = .ok (.iload_n 2, 1) := by decide +kernel
theorem dX5_believes_6 : decode cX5_believes 6 = .ok (.iconst 0, 1) := by decide +kernel
theorem dX5_believes_7 : decode cX5_believes 7 = .ok (.bipush 9, 2) := by decide +kernel
theorem dX5_believes_9 : decode cX5_believes 9 = .ok (.invokestatic 62, 3) := by decide +kernel
theorem dX5_believes_12 : decode cX5_believes 12 = .ok (.iconst 0, 1) := by decide +kernel
theorem dX5_believes_13 : decode cX5_believes 13 = .ok (.invokestatic 97, 3) := by decide +kernel
theorem dX5_believes_16 : decode cX5_believes 16 = .ok (.istore_n 3, 1) := by decide +kernel
theorem dX5_believes_17 : decode cX5_believes 17 = .ok (.iload_n 3, 1) := by decide +kernel
theorem dX5_believes_18 : decode cX5_believes 18 = .ok (.ifCond .eq 9, 3) := by decide +kernel
theorem dX5_believes_21 : decode cX5_believes 21 = .ok (.aload_n 0, 1) := by decide +kernel
theorem dX5_believes_22 : decode cX5_believes 22 = .ok (.iload_n 3, 1) := by decide +kernel
theorem dX5_believes_23 : decode cX5_believes 23 = .ok (.invokevirtual 70, 3) := by decide +kernel
theorem dX5_believes_26 : decode cX5_believes 26 = .ok (.ireturn, 1) := by decide +kernel
theorem dX5_believes_27 : decode cX5_believes 27 = .ok (.aload_n 0, 1) := by decide +kernel
theorem dX5_believes_28 : decode cX5_believes 28 = .ok (.getfield 12, 3) := by decide +kernel
theorem dX5_believes_31 : decode cX5_believes 31 = .ok (.getfield 109, 3) := by decide +kernel
theorem dX5_believes_34 : decode cX5_believes 34 = .ok (.iload_n 1, 1) := by decide +kernel
theorem dX5_believes_35 : decode cX5_believes 35 = .ok (.iaload, 1) := by decide +kernel
theorem dX5_believes_36 : decode cX5_believes 36 = .ok (.istore 4, 2) := by decide +kernel
theorem dX5_believes_38 : decode cX5_believes 38 = .ok (.aload_n 0, 1) := by decide +kernel
theorem dX5_believes_39 : decode cX5_believes 39 = .ok (.getfield 12, 3) := by decide +kernel
theorem dX5_believes_42 : decode cX5_believes 42 = .ok (.getfield 109, 3) := by decide +kernel
theorem dX5_believes_45 : decode cX5_believes 45 = .ok (.iload_n 1, 1) := by decide +kernel
theorem dX5_believes_46 : decode cX5_believes 46 = .ok (.iload_n 2, 1) := by decide +kernel
theorem dX5_believes_47 : decode cX5_believes 47 = .ok (.iastore, 1) := by decide +kernel
theorem dX5_believes_48 : decode cX5_believes 48 = .ok (.iload 4, 2) := by decide +kernel
theorem dX5_believes_50 : decode cX5_believes 50 = .ok (.ireturn, 1) := by decide +kernel
set_option maxRecDepth 20000 in
theorem ggX5_sits_X5_noPerson : GoodIn wsX5_sits wsX5_noPerson := goodIn_r _ [7, 1, 8, 20, 21, 22, 23, 24, 25, 26, 27, 28, 29, 30, 31, 32, 33, 34, 35, 36] (by decide +kernel) (by decide +kernel)
set_option maxRecDepth 20000 in
theorem gX5_sits_X5_noPerson : GoodIn wsX5_sits (wsV RX5 90 RX5 yX5_noPerson wsX5_noPerson) := goodIn_app (goodIn_of _ (by decide +kernel)) ggX5_sits_X5_noPerson
set_option maxRecDepth 20000 in
theorem ggX5_sits_X5_noCell : GoodIn wsX5_sits wsX5_noCell := goodIn_r _ [11] (by decide +kernel) (by decide +kernel)
set_option maxRecDepth 20000 in
theorem gX5_sits_X5_noCell : GoodIn wsX5_sits (va_wsS RX5 84 yX5_noCell wsX5_noCell) := goodIn_app (goodIn_of _ (by decide +kernel)) ggX5_sits_X5_noCell
set_option maxRecDepth 20000 in
theorem ggX5_sits_X5_firstOf : GoodIn wsX5_sits wsX5_firstOf := goodIn_r _ [14] (by decide +kernel) (by decide +kernel)
set_option maxRecDepth 20000 in
theorem gX5_sits_X5_firstOf : GoodIn wsX5_sits (va_wsS RX5 97 yX5_firstOf wsX5_firstOf) := goodIn_app (goodIn_of _ (by decide +kernel)) ggX5_sits_X5_firstOf
set_option maxRecDepth 20000 in
theorem ggX5_sits_X5_refuse : GoodIn wsX5_sits wsX5_refuse := goodIn_r _ [18, 19, 20, 21, 22, 23, 24, 25, 26, 27, 28] (by decide +kernel) (by decide +kernel)
set_option maxRecDepth 20000 in
theorem gX5_sits_X5_refuse : GoodIn wsX5_sits (wsV RX5 70 RX5 yX5_refuse wsX5_refuse) := goodIn_app (goodIn_of _ (by decide +kernel)) ggX5_sits_X5_refuse
theorem dX5_sits_0 : decode cX5_sits 0 = .ok (.aload_n 0, 1) := by decide +kernel
theorem dX5_sits_1 : decode cX5_sits 1 = .ok (.iload_n 1, 1) := by decide +kernel
theorem dX5_sits_2 : decode cX5_sits 2 = .ok (.invokevirtual 90, 3) := by decide +kernel
theorem dX5_sits_5 : decode cX5_sits 5 = .ok (.iload_n 2, 1) := by decide +kernel
theorem dX5_sits_6 : decode cX5_sits 6 = .ok (.invokestatic 84, 3) := by decide +kernel
theorem dX5_sits_9 : decode cX5_sits 9 = .ok (.iconst 0, 1) := by decide +kernel
theorem dX5_sits_10 : decode cX5_sits 10 = .ok (.invokestatic 97, 3) := by decide +kernel
theorem dX5_sits_13 : decode cX5_sits 13 = .ok (.istore_n 3, 1) := by decide +kernel
theorem dX5_sits_14 : decode cX5_sits 14 = .ok (.iload_n 3, 1) := by decide +kernel
theorem dX5_sits_15 : decode cX5_sits 15 = .ok (.ifCond .eq 9, 3) := by decide +kernel
theorem dX5_sits_18 : decode cX5_sits 18 = .ok (.aload_n 0, 1) := by decide +kernel
theorem dX5_sits_19 : decode cX5_sits 19 = .ok (.iload_n 3, 1) := by decide +kernel
theorem dX5_sits_20 : decode cX5_sits 20 = .ok (.invokevirtual 70, 3) := by decide +kernel
theorem dX5_sits_23 : decode cX5_sits 23 = .ok (.ireturn, 1) := by decide +kernel
theorem dX5_sits_24 : decode cX5_sits 24 = .ok (.aload_n 0, 1) := by decide +kernel
theorem dX5_sits_25 : decode cX5_sits 25 = .ok (.getfield 12, 3) := by decide +kernel
theorem dX5_sits_28 : decode cX5_sits 28 = .ok (.getfield 106, 3) := by decide +kernel
theorem dX5_sits_31 : decode cX5_sits 31 = .ok (.iload_n 1, 1) := by decide +kernel
theorem dX5_sits_32 : decode cX5_sits 32 = .ok (.iaload, 1) := by decide +kernel
theorem dX5_sits_33 : decode cX5_sits 33 = .ok (.istore 4, 2) := by decide +kernel
theorem dX5_sits_35 : decode cX5_sits 35 = .ok (.aload_n 0, 1) := by decide +kernel
theorem dX5_sits_36 : decode cX5_sits 36 = .ok (.getfield 12, 3) := by decide +kernel
theorem dX5_sits_39 : decode cX5_sits 39 = .ok (.getfield 106, 3) := by decide +kernel
theorem dX5_sits_42 : decode cX5_sits 42 = .ok (.iload_n 1, 1) := by decide +kernel
theorem dX5_sits_43 : decode cX5_sits 43 = .ok (.iload_n 2, 1) := by decide +kernel
theorem dX5_sits_44 : decode cX5_sits 44 = .ok (.iastore, 1) := by decide +kernel
theorem dX5_sits_45 : decode cX5_sits 45 = .ok (.iload 4, 2) := by decide +kernel
theorem dX5_sits_47 : decode cX5_sits 47 = .ok (.ireturn, 1) := by decide +kernel
set_option maxRecDepth 20000 in
theorem ggX5_turn_X5_noPerson : GoodIn wsX5_turn wsX5_noPerson := goodIn_r _ [8, 1, 9, 24, 25, 26, 27, 28, 29, 30, 31, 32, 33, 34, 35, 36, 37, 38, 39, 40] (by decide +kernel) (by decide +kernel)
set_option maxRecDepth 20000 in
theorem gX5_turn_X5_noPerson : GoodIn wsX5_turn (wsV RX5 90 RX5 yX5_noPerson wsX5_noPerson) := goodIn_app (goodIn_of _ (by decide +kernel)) ggX5_turn_X5_noPerson
set_option maxRecDepth 20000 in
theorem ggX5_turn_X5_other : GoodIn wsX5_turn wsX5_other := goodIn_r _ [12] (by decide +kernel) (by decide +kernel)
set_option maxRecDepth 20000 in
theorem gX5_turn_X5_other : GoodIn wsX5_turn (va_wsS RX5 93 yX5_other wsX5_other) := goodIn_app (goodIn_of _ (by decide +kernel)) ggX5_turn_X5_other
set_option maxRecDepth 20000 in
theorem ggX5_turn_X5_range : GoodIn wsX5_turn wsX5_range := goodIn_r _ [15] (by decide +kernel) (by decide +kernel)
set_option maxRecDepth 20000 in
theorem gX5_turn_X5_range : GoodIn wsX5_turn (va_wsS RX5 62 yX5_range wsX5_range) := goodIn_app (goodIn_of _ (by decide +kernel)) ggX5_turn_X5_range
set_option maxRecDepth 20000 in
theorem ggX5_turn_X5_firstOf : GoodIn wsX5_turn wsX5_firstOf := goodIn_r _ [18] (by decide +kernel) (by decide +kernel)
set_option maxRecDepth 20000 in
theorem gX5_turn_X5_firstOf : GoodIn wsX5_turn (va_wsS RX5 97 yX5_firstOf wsX5_firstOf) := goodIn_app (goodIn_of _ (by decide +kernel)) ggX5_turn_X5_firstOf
set_option maxRecDepth 20000 in
theorem ggX5_turn_X5_refuse : GoodIn wsX5_turn wsX5_refuse := goodIn_r _ [22, 23, 24, 25, 26, 27, 28, 29, 30, 31, 32] (by decide +kernel) (by decide +kernel)
set_option maxRecDepth 20000 in
theorem gX5_turn_X5_refuse : GoodIn wsX5_turn (wsV RX5 70 RX5 yX5_refuse wsX5_refuse) := goodIn_app (goodIn_of _ (by decide +kernel)) ggX5_turn_X5_refuse
theorem dX5_turn_0 : decode cX5_turn 0 = .ok (.aload_n 0, 1) := by decide +kernel
theorem dX5_turn_1 : decode cX5_turn 1 = .ok (.iload_n 1, 1) := by decide +kernel
theorem dX5_turn_2 : decode cX5_turn 2 = .ok (.invokevirtual 90, 3) := by decide +kernel
theorem dX5_turn_5 : decode cX5_turn 5 = .ok (.iload_n 2, 1) := by decide +kernel
theorem dX5_turn_6 : decode cX5_turn 6 = .ok (.bipush 6, 2) := by decide +kernel
theorem dX5_turn_8 : decode cX5_turn 8 = .ok (.invokestatic 93, 3) := by decide +kernel
theorem dX5_turn_11 : decode cX5_turn 11 = .ok (.iload_n 3, 1) := by decide +kernel
theorem dX5_turn_12 : decode cX5_turn 12 = .ok (.iconst 0, 1) := by decide +kernel
theorem dX5_turn_13 : decode cX5_turn 13 = .ok (.bipush 9, 2) := by decide +kernel
theorem dX5_turn_15 : decode cX5_turn 15 = .ok (.invokestatic 62, 3) := by decide +kernel
theorem dX5_turn_18 : decode cX5_turn 18 = .ok (.invokestatic 97, 3) := by decide +kernel
theorem dX5_turn_21 : decode cX5_turn 21 = .ok (.istore 4, 2) := by decide +kernel
theorem dX5_turn_23 : decode cX5_turn 23 = .ok (.iload 4, 2) := by decide +kernel
theorem dX5_turn_25 : decode cX5_turn 25 = .ok (.ifCond .eq 10, 3) := by decide +kernel
theorem dX5_turn_28 : decode cX5_turn 28 = .ok (.aload_n 0, 1) := by decide +kernel
theorem dX5_turn_29 : decode cX5_turn 29 = .ok (.iload 4, 2) := by decide +kernel
theorem dX5_turn_31 : decode cX5_turn 31 = .ok (.invokevirtual 70, 3) := by decide +kernel
theorem dX5_turn_34 : decode cX5_turn 34 = .ok (.ireturn, 1) := by decide +kernel
theorem dX5_turn_35 : decode cX5_turn 35 = .ok (.bipush 10, 2) := by decide +kernel
theorem dX5_turn_37 : decode cX5_turn 37 = .ok (.aload_n 0, 1) := by decide +kernel
theorem dX5_turn_38 : decode cX5_turn 38 = .ok (.getfield 12, 3) := by decide +kernel
theorem dX5_turn_41 : decode cX5_turn 41 = .ok (.getfield 100, 3) := by decide +kernel
theorem dX5_turn_44 : decode cX5_turn 44 = .ok (.iload_n 1, 1) := by decide +kernel
theorem dX5_turn_45 : decode cX5_turn 45 = .ok (.iaload, 1) := by decide +kernel
theorem dX5_turn_46 : decode cX5_turn 46 = .ok (.imul, 1) := by decide +kernel
theorem dX5_turn_47 : decode cX5_turn 47 = .ok (.aload_n 0, 1) := by decide +kernel
theorem dX5_turn_48 : decode cX5_turn 48 = .ok (.getfield 12, 3) := by decide +kernel
theorem dX5_turn_51 : decode cX5_turn 51 = .ok (.getfield 103, 3) := by decide +kernel
theorem dX5_turn_54 : decode cX5_turn 54 = .ok (.iload_n 1, 1) := by decide +kernel
theorem dX5_turn_55 : decode cX5_turn 55 = .ok (.iaload, 1) := by decide +kernel
theorem dX5_turn_56 : decode cX5_turn 56 = .ok (.iadd, 1) := by decide +kernel
theorem dX5_turn_57 : decode cX5_turn 57 = .ok (.istore 5, 2) := by decide +kernel
theorem dX5_turn_59 : decode cX5_turn 59 = .ok (.aload_n 0, 1) := by decide +kernel
theorem dX5_turn_60 : decode cX5_turn 60 = .ok (.getfield 12, 3) := by decide +kernel
theorem dX5_turn_63 : decode cX5_turn 63 = .ok (.getfield 100, 3) := by decide +kernel
theorem dX5_turn_66 : decode cX5_turn 66 = .ok (.iload_n 1, 1) := by decide +kernel
theorem dX5_turn_67 : decode cX5_turn 67 = .ok (.iload_n 2, 1) := by decide +kernel
theorem dX5_turn_68 : decode cX5_turn 68 = .ok (.iastore, 1) := by decide +kernel
theorem dX5_turn_69 : decode cX5_turn 69 = .ok (.aload_n 0, 1) := by decide +kernel
theorem dX5_turn_70 : decode cX5_turn 70 = .ok (.getfield 12, 3) := by decide +kernel
theorem dX5_turn_73 : decode cX5_turn 73 = .ok (.getfield 103, 3) := by decide +kernel
theorem dX5_turn_76 : decode cX5_turn 76 = .ok (.iload_n 1, 1) := by decide +kernel
theorem dX5_turn_77 : decode cX5_turn 77 = .ok (.iload_n 3, 1) := by decide +kernel
theorem dX5_turn_78 : decode cX5_turn 78 = .ok (.iastore, 1) := by decide +kernel
theorem dX5_turn_79 : decode cX5_turn 79 = .ok (.iload 5, 2) := by decide +kernel
theorem dX5_turn_81 : decode cX5_turn 81 = .ok (.ireturn, 1) := by decide +kernel
set_option maxRecDepth 20000 in
theorem ggX5_years_X5_range : GoodIn wsX5_years wsX5_range := goodIn_r _ [6] (by decide +kernel) (by decide +kernel)
set_option maxRecDepth 20000 in
theorem gX5_years_X5_range : GoodIn wsX5_years (va_wsS RX5 62 yX5_range wsX5_range) := goodIn_app (goodIn_of _ (by decide +kernel)) ggX5_years_X5_range
set_option maxRecDepth 20000 in
theorem ggX5_years_X5_refuse : GoodIn wsX5_years wsX5_refuse := goodIn_r _ [10, 11, 83, 84, 85, 86, 87, 88, 89, 90, 91] (by decide +kernel) (by decide +kernel)
set_option maxRecDepth 20000 in
theorem gX5_years_X5_refuse : GoodIn wsX5_years (wsV RX5 70 RX5 yX5_refuse wsX5_refuse) := goodIn_app (goodIn_of _ (by decide +kernel)) ggX5_years_X5_refuse
set_option maxRecDepth 20000 in
theorem ggX5_years_X3_passYears : GoodIn wsX5_years wsX3_passYears := goodIn_r _ [16, 17, 18, 19, 15, 20, 21, 22, 23, 24, 25, 26, 27, 28, 29, 30, 31, 32, 33, 34, 35, 36, 37, 38, 39, 40, 41, 42, 43, 5, 44, 45, 46, 47, 48, 49, 50, 51, 52, 53, 54, 55, 56, 57, 58, 59, 60, 61, 62, 63, 64, 65, 66, 67, 68, 69, 70, 71, 72, 73, 74, 75, 76, 77, 78, 79, 80, 81, 82, 92, 93, 94, 95, 96, 97, 98, 99] (by decide +kernel) (by decide +kernel)
set_option maxRecDepth 20000 in
theorem gX5_years_X3_passYears : GoodIn wsX5_years (wsV RX5 133 RX3 yX3_passYears wsX3_passYears) := goodIn_app (goodIn_of _ (by decide +kernel)) ggX5_years_X3_passYears
theorem dX5_years_0 : decode cX5_years 0 = .ok (.iload_n 1, 1) := by decide +kernel
theorem dX5_years_1 : decode cX5_years 1 = .ok (.iconst 1, 1) := by decide +kernel
theorem dX5_years_2 : decode cX5_years 2 = .ok (.bipush 60, 2) := by decide +kernel
theorem dX5_years_4 : decode cX5_years 4 = .ok (.invokestatic 62, 3) := by decide +kernel
theorem dX5_years_7 : decode cX5_years 7 = .ok (.istore_n 2, 1) := by decide +kernel
theorem dX5_years_8 : decode cX5_years 8 = .ok (.iload_n 2, 1) := by decide +kernel
theorem dX5_years_9 : decode cX5_years 9 = .ok (.ifCond .ne 21, 3) := by decide +kernel
theorem dX5_years_12 : decode cX5_years 12 = .ok (.aload_n 0, 1) := by decide +kernel
theorem dX5_years_13 : decode cX5_years 13 = .ok (.getfield 12, 3) := by decide +kernel
theorem dX5_years_16 : decode cX5_years 16 = .ok (.getfield 129, 3) := by decide +kernel
theorem dX5_years_19 : decode cX5_years 19 = .ok (.iload_n 1, 1) := by decide +kernel
theorem dX5_years_20 : decode cX5_years 20 = .ok (.iadd, 1) := by decide +kernel
theorem dX5_years_21 : decode cX5_years 21 = .ok (.sipush 999, 3) := by decide +kernel
theorem dX5_years_24 : decode cX5_years 24 = .ok (.if_icmp .le 6, 3) := by decide +kernel
theorem dX5_years_27 : decode cX5_years 27 = .ok (.bipush (-6), 2) := by decide +kernel
theorem dX5_years_29 : decode cX5_years 29 = .ok (.istore_n 2, 1) := by decide +kernel
theorem dX5_years_30 : decode cX5_years 30 = .ok (.iload_n 2, 1) := by decide +kernel
theorem dX5_years_31 : decode cX5_years 31 = .ok (.ifCond .eq 11, 3) := by decide +kernel
theorem dX5_years_34 : decode cX5_years 34 = .ok (.aload_n 0, 1) := by decide +kernel
theorem dX5_years_35 : decode cX5_years 35 = .ok (.iload_n 2, 1) := by decide +kernel
theorem dX5_years_36 : decode cX5_years 36 = .ok (.invokevirtual 70, 3) := by decide +kernel
theorem dX5_years_39 : decode cX5_years 39 = .ok (.goto 11, 3) := by decide +kernel
theorem dX5_years_42 : decode cX5_years 42 = .ok (.aload_n 0, 1) := by decide +kernel
theorem dX5_years_43 : decode cX5_years 43 = .ok (.getfield 12, 3) := by decide +kernel
theorem dX5_years_46 : decode cX5_years 46 = .ok (.iload_n 1, 1) := by decide +kernel
theorem dX5_years_47 : decode cX5_years 47 = .ok (.invokevirtual 133, 3) := by decide +kernel
theorem dX5_years_50 : decode cX5_years 50 = .ok (.ireturn, 1) := by decide +kernel
set_option maxRecDepth 20000 in
theorem ggX5_behind_X5_noPerson : GoodIn wsX5_behind wsX5_noPerson := goodIn_r _ [9, 10, 11, 112, 113, 114, 115, 116, 117, 118, 119, 120, 121, 122, 123, 124, 125, 126, 127, 128] (by decide +kernel) (by decide +kernel)
set_option maxRecDepth 20000 in
theorem gX5_behind_X5_noPerson : GoodIn wsX5_behind (wsV RX5 90 RX5 yX5_noPerson wsX5_noPerson) := goodIn_app (goodIn_of _ (by decide +kernel)) ggX5_behind_X5_noPerson
set_option maxRecDepth 20000 in
theorem ggX5_behind_X5_range : GoodIn wsX5_behind wsX5_range := goodIn_r _ [14] (by decide +kernel) (by decide +kernel)
set_option maxRecDepth 20000 in
theorem gX5_behind_X5_range : GoodIn wsX5_behind (va_wsS RX5 62 yX5_range wsX5_range) := goodIn_app (goodIn_of _ (by decide +kernel)) ggX5_behind_X5_range
set_option maxRecDepth 20000 in
theorem ggX5_behind_X5_other : GoodIn wsX5_behind wsX5_other := goodIn_r _ [17] (by decide +kernel) (by decide +kernel)
set_option maxRecDepth 20000 in
theorem gX5_behind_X5_other : GoodIn wsX5_behind (va_wsS RX5 93 yX5_other wsX5_other) := goodIn_app (goodIn_of _ (by decide +kernel)) ggX5_behind_X5_other
set_option maxRecDepth 20000 in
theorem ggX5_behind_X5_firstOf : GoodIn wsX5_behind wsX5_firstOf := goodIn_r _ [20] (by decide +kernel) (by decide +kernel)
set_option maxRecDepth 20000 in
theorem gX5_behind_X5_firstOf : GoodIn wsX5_behind (va_wsS RX5 97 yX5_firstOf wsX5_firstOf) := goodIn_app (goodIn_of _ (by decide +kernel)) ggX5_behind_X5_firstOf
set_option maxRecDepth 20000 in
theorem ggX5_behind_X5_refuse : GoodIn wsX5_behind wsX5_refuse := goodIn_r _ [24, 25, 112, 113, 114, 115, 116, 117, 118, 119, 120] (by decide +kernel) (by decide +kernel)
set_option maxRecDepth 20000 in
theorem gX5_behind_X5_refuse : GoodIn wsX5_behind (wsV RX5 70 RX5 yX5_refuse wsX5_refuse) := goodIn_app (goodIn_of _ (by decide +kernel)) ggX5_behind_X5_refuse
set_option maxRecDepth 20000 in
theorem ggX5_behind_X1_think : GoodIn wsX5_behind wsX1_think := goodIn_r _ [30, 31, 32, 33, 34, 35, 36, 37, 38, 39, 40, 41, 42, 43, 44, 45, 46, 47, 48, 129, 130, 121, 122, 123, 124, 125, 126, 127, 128] (by decide +kernel) (by decide +kernel)
set_option maxRecDepth 20000 in
theorem gX5_behind_X1_think : GoodIn wsX5_behind (wsV RX5 136 RX1 yX1_think wsX1_think) := goodIn_app (goodIn_of _ (by decide +kernel)) ggX5_behind_X1_think
set_option maxRecDepth 20000 in
theorem ggX5_behind_X3_passYears : GoodIn wsX5_behind wsX3_passYears := goodIn_r _ [52, 53, 54, 55, 36, 56, 47, 57, 48, 46, 45, 58, 59, 60, 61, 38, 62, 63, 64, 65, 66, 67, 68, 69, 44, 70, 71, 72, 73, 8, 74, 75, 76, 77, 78, 79, 80, 81, 82, 83, 84, 85, 86, 43, 87, 88, 89, 90, 91, 92, 93, 94, 95, 96, 97, 98, 99, 100, 101, 102, 103, 104, 105, 106, 107, 108, 109, 110, 111, 121, 122, 123, 124, 125, 126, 127, 128] (by decide +kernel) (by decide +kernel)
set_option maxRecDepth 20000 in
theorem gX5_behind_X3_passYears : GoodIn wsX5_behind (wsV RX5 133 RX3 yX3_passYears wsX3_passYears) := goodIn_app (goodIn_of _ (by decide +kernel)) ggX5_behind_X3_passYears
theorem dX5_behind_0 : decode cX5_behind 0 = .ok (.aload_n 0, 1) := by decide +kernel
theorem dX5_behind_1 : decode cX5_behind 1 = .ok (.iload_n 1, 1) := by decide +kernel
theorem dX5_behind_2 : decode cX5_behind 2 = .ok (.invokevirtual 90, 3) := by decide +kernel
theorem dX5_behind_5 : decode cX5_behind 5 = .ok (.iload_n 2, 1) := by decide +kernel
theorem dX5_behind_6 : decode cX5_behind 6 = .ok (.iconst 0, 1) := by decide +kernel
theorem dX5_behind_7 : decode cX5_behind 7 = .ok (.bipush 60, 2) := by decide +kernel
theorem dX5_behind_9 : decode cX5_behind 9 = .ok (.invokestatic 62, 3) := by decide +kernel
theorem dX5_behind_12 : decode cX5_behind 12 = .ok (.iload_n 3, 1) := by decide +kernel
theorem dX5_behind_13 : decode cX5_behind 13 = .ok (.iconst 2, 1) := by decide +kernel
theorem dX5_behind_14 : decode cX5_behind 14 = .ok (.invokestatic 93, 3) := by decide +kernel
theorem dX5_behind_17 : decode cX5_behind 17 = .ok (.invokestatic 97, 3) := by decide +kernel
theorem dX5_behind_20 : decode cX5_behind 20 = .ok (.istore 4, 2) := by decide +kernel
theorem dX5_behind_22 : decode cX5_behind 22 = .ok (.iload 4, 2) := by decide +kernel
theorem dX5_behind_24 : decode cX5_behind 24 = .ok (.ifCond .eq 10, 3) := by decide +kernel
theorem dX5_behind_27 : decode cX5_behind 27 = .ok (.aload_n 0, 1) := by decide +kernel
theorem dX5_behind_28 : decode cX5_behind 28 = .ok (.iload 4, 2) := by decide +kernel
theorem dX5_behind_30 : decode cX5_behind 30 = .ok (.invokevirtual 70, 3) := by decide +kernel
theorem dX5_behind_33 : decode cX5_behind 33 = .ok (.ireturn, 1) := by decide +kernel
theorem dX5_behind_34 : decode cX5_behind 34 = .ok (.aload_n 0, 1) := by decide +kernel
theorem dX5_behind_35 : decode cX5_behind 35 = .ok (.getfield 27, 3) := by decide +kernel
theorem dX5_behind_38 : decode cX5_behind 38 = .ok (.invokevirtual 136, 3) := by decide +kernel
theorem dX5_behind_41 : decode cX5_behind 41 = .ok (.iload_n 2, 1) := by decide +kernel
theorem dX5_behind_42 : decode cX5_behind 42 = .ok (.invokevirtual 133, 3) := by decide +kernel
theorem dX5_behind_45 : decode cX5_behind 45 = .ok (.pop, 1) := by decide +kernel
theorem dX5_behind_46 : decode cX5_behind 46 = .ok (.iload_n 3, 1) := by decide +kernel
theorem dX5_behind_47 : decode cX5_behind 47 = .ok (.ifCond .ne 15, 3) := by decide +kernel
theorem dX5_behind_50 : decode cX5_behind 50 = .ok (.aload_n 0, 1) := by decide +kernel
theorem dX5_behind_51 : decode cX5_behind 51 = .ok (.getfield 19, 3) := by decide +kernel
theorem dX5_behind_54 : decode cX5_behind 54 = .ok (.getfield 109, 3) := by decide +kernel
theorem dX5_behind_57 : decode cX5_behind 57 = .ok (.iload_n 1, 1) := by decide +kernel
theorem dX5_behind_58 : decode cX5_behind 58 = .ok (.iaload, 1) := by decide +kernel
theorem dX5_behind_59 : decode cX5_behind 59 = .ok (.goto 12, 3) := by decide +kernel
theorem dX5_behind_62 : decode cX5_behind 62 = .ok (.aload_n 0, 1) := by decide +kernel
theorem dX5_behind_63 : decode cX5_behind 63 = .ok (.getfield 19, 3) := by decide +kernel
theorem dX5_behind_66 : decode cX5_behind 66 = .ok (.getfield 106, 3) := by decide +kernel
theorem dX5_behind_69 : decode cX5_behind 69 = .ok (.iload_n 1, 1) := by decide +kernel
theorem dX5_behind_70 : decode cX5_behind 70 = .ok (.iaload, 1) := by decide +kernel
theorem dX5_behind_71 : decode cX5_behind 71 = .ok (.ireturn, 1) := by decide +kernel
set_option maxRecDepth 20000 in
theorem ggX5_then_X5_range : GoodIn wsX5_then wsX5_range := goodIn_r _ [6] (by decide +kernel) (by decide +kernel)
set_option maxRecDepth 20000 in
theorem gX5_then_X5_range : GoodIn wsX5_then (va_wsS RX5 62 yX5_range wsX5_range) := goodIn_app (goodIn_of _ (by decide +kernel)) ggX5_then_X5_range
set_option maxRecDepth 20000 in
theorem ggX5_then_X5_other : GoodIn wsX5_then wsX5_other := goodIn_r _ [9] (by decide +kernel) (by decide +kernel)
set_option maxRecDepth 20000 in
theorem gX5_then_X5_other : GoodIn wsX5_then (va_wsS RX5 93 yX5_other wsX5_other) := goodIn_app (goodIn_of _ (by decide +kernel)) ggX5_then_X5_other
set_option maxRecDepth 20000 in
theorem ggX5_then_X5_firstOf : GoodIn wsX5_then wsX5_firstOf := goodIn_r _ [12] (by decide +kernel) (by decide +kernel)
set_option maxRecDepth 20000 in
theorem gX5_then_X5_firstOf : GoodIn wsX5_then (va_wsS RX5 97 yX5_firstOf wsX5_firstOf) := goodIn_app (goodIn_of _ (by decide +kernel)) ggX5_then_X5_firstOf
set_option maxRecDepth 20000 in
theorem ggX5_then_X5_refuse : GoodIn wsX5_then wsX5_refuse := goodIn_r _ [16, 17, 105, 106, 107, 108, 109, 110, 111, 112, 113] (by decide +kernel) (by decide +kernel)
set_option maxRecDepth 20000 in
theorem gX5_then_X5_refuse : GoodIn wsX5_then (wsV RX5 70 RX5 yX5_refuse wsX5_refuse) := goodIn_app (goodIn_of _ (by decide +kernel)) ggX5_then_X5_refuse
set_option maxRecDepth 20000 in
theorem ggX5_then_X1_think : GoodIn wsX5_then wsX1_think := goodIn_r _ [22, 23, 24, 25, 26, 27, 28, 29, 30, 31, 32, 33, 34, 35, 36, 37, 38, 39, 40, 114, 115, 116, 117, 118, 119, 120, 121, 122, 123] (by decide +kernel) (by decide +kernel)
set_option maxRecDepth 20000 in
theorem gX5_then_X1_think : GoodIn wsX5_then (wsV RX5 136 RX1 yX1_think wsX1_think) := goodIn_app (goodIn_of _ (by decide +kernel)) ggX5_then_X1_think
set_option maxRecDepth 20000 in
theorem ggX5_then_X3_passYears : GoodIn wsX5_then wsX3_passYears := goodIn_r _ [44, 45, 46, 47, 28, 48, 39, 49, 40, 38, 37, 50, 51, 52, 53, 30, 54, 55, 56, 57, 58, 59, 60, 61, 36, 62, 63, 64, 65, 5, 66, 67, 68, 69, 70, 71, 72, 73, 74, 75, 76, 77, 78, 35, 79, 80, 81, 82, 83, 84, 85, 86, 87, 88, 89, 90, 91, 92, 93, 94, 95, 96, 97, 98, 99, 100, 101, 102, 103, 116, 117, 118, 119, 120, 121, 122, 123] (by decide +kernel) (by decide +kernel)
set_option maxRecDepth 20000 in
theorem gX5_then_X3_passYears : GoodIn wsX5_then (wsV RX5 133 RX3 yX3_passYears wsX3_passYears) := goodIn_app (goodIn_of _ (by decide +kernel)) ggX5_then_X3_passYears
set_option maxRecDepth 20000 in
theorem ggX5_then_X3_hollow : GoodIn wsX5_then wsX3_hollow := goodIn_r _ [53, 30, 116, 117, 118, 119, 120, 121, 122, 123] (by decide +kernel) (by decide +kernel)
set_option maxRecDepth 20000 in
theorem gX5_then_X3_hollow : GoodIn wsX5_then (wsV RX5 123 RX3 yX3_hollow wsX3_hollow) := goodIn_app (goodIn_of _ (by decide +kernel)) ggX5_then_X3_hollow
theorem dX5_then_0 : decode cX5_then 0 = .ok (.iload_n 1, 1) := by decide +kernel
theorem dX5_then_1 : decode cX5_then 1 = .ok (.iconst 0, 1) := by decide +kernel
theorem dX5_then_2 : decode cX5_then 2 = .ok (.bipush 60, 2) := by decide +kernel
theorem dX5_then_4 : decode cX5_then 4 = .ok (.invokestatic 62, 3) := by decide +kernel
theorem dX5_then_7 : decode cX5_then 7 = .ok (.iload_n 2, 1) := by decide +kernel
theorem dX5_then_8 : decode cX5_then 8 = .ok (.iconst 2, 1) := by decide +kernel
theorem dX5_then_9 : decode cX5_then 9 = .ok (.invokestatic 93, 3) := by decide +kernel
theorem dX5_then_12 : decode cX5_then 12 = .ok (.iconst 0, 1) := by decide +kernel
theorem dX5_then_13 : decode cX5_then 13 = .ok (.invokestatic 97, 3) := by decide +kernel
theorem dX5_then_16 : decode cX5_then 16 = .ok (.istore_n 3, 1) := by decide +kernel
theorem dX5_then_17 : decode cX5_then 17 = .ok (.iload_n 3, 1) := by decide +kernel
theorem dX5_then_18 : decode cX5_then 18 = .ok (.ifCond .eq 9, 3) := by decide +kernel
theorem dX5_then_21 : decode cX5_then 21 = .ok (.aload_n 0, 1) := by decide +kernel
theorem dX5_then_22 : decode cX5_then 22 = .ok (.iload_n 3, 1) := by decide +kernel
theorem dX5_then_23 : decode cX5_then 23 = .ok (.invokevirtual 70, 3) := by decide +kernel
theorem dX5_then_26 : decode cX5_then 26 = .ok (.ireturn, 1) := by decide +kernel
theorem dX5_then_27 : decode cX5_then 27 = .ok (.aload_n 0, 1) := by decide +kernel
theorem dX5_then_28 : decode cX5_then 28 = .ok (.getfield 27, 3) := by decide +kernel
theorem dX5_then_31 : decode cX5_then 31 = .ok (.invokevirtual 136, 3) := by decide +kernel
theorem dX5_then_34 : decode cX5_then 34 = .ok (.iload_n 1, 1) := by decide +kernel
theorem dX5_then_35 : decode cX5_then 35 = .ok (.invokevirtual 133, 3) := by decide +kernel
theorem dX5_then_38 : decode cX5_then 38 = .ok (.istore 4, 2) := by decide +kernel
theorem dX5_then_40 : decode cX5_then 40 = .ok (.iload_n 2, 1) := by decide +kernel
theorem dX5_then_41 : decode cX5_then 41 = .ok (.ifCond .ne 13, 3) := by decide +kernel
theorem dX5_then_44 : decode cX5_then 44 = .ok (.aload_n 0, 1) := by decide +kernel
theorem dX5_then_45 : decode cX5_then 45 = .ok (.getfield 19, 3) := by decide +kernel
theorem dX5_then_48 : decode cX5_then 48 = .ok (.invokevirtual 123, 3) := by decide +kernel
theorem dX5_then_51 : decode cX5_then 51 = .ok (.goto 5, 3) := by decide +kernel
theorem dX5_then_54 : decode cX5_then 54 = .ok (.iload 4, 2) := by decide +kernel
theorem dX5_then_56 : decode cX5_then 56 = .ok (.ireturn, 1) := by decide +kernel
set_option maxRecDepth 20000 in
theorem ggX5_depthThen_X5_noCell : GoodIn wsX5_depthThen wsX5_noCell := goodIn_r _ [7] (by decide +kernel) (by decide +kernel)
set_option maxRecDepth 20000 in
theorem gX5_depthThen_X5_noCell : GoodIn wsX5_depthThen (va_wsS RX5 84 yX5_noCell wsX5_noCell) := goodIn_app (goodIn_of _ (by decide +kernel)) ggX5_depthThen_X5_noCell
set_option maxRecDepth 20000 in
theorem ggX5_depthThen_X5_range : GoodIn wsX5_depthThen wsX5_range := goodIn_r _ [10] (by decide +kernel) (by decide +kernel)
set_option maxRecDepth 20000 in
theorem gX5_depthThen_X5_range : GoodIn wsX5_depthThen (va_wsS RX5 62 yX5_range wsX5_range) := goodIn_app (goodIn_of _ (by decide +kernel)) ggX5_depthThen_X5_range
set_option maxRecDepth 20000 in
theorem ggX5_depthThen_X5_firstOf : GoodIn wsX5_depthThen wsX5_firstOf := goodIn_r _ [13] (by decide +kernel) (by decide +kernel)
set_option maxRecDepth 20000 in
theorem gX5_depthThen_X5_firstOf : GoodIn wsX5_depthThen (va_wsS RX5 97 yX5_firstOf wsX5_firstOf) := goodIn_app (goodIn_of _ (by decide +kernel)) ggX5_depthThen_X5_firstOf
set_option maxRecDepth 20000 in
theorem ggX5_depthThen_X5_refuse : GoodIn wsX5_depthThen wsX5_refuse := goodIn_r _ [17, 18, 105, 106, 107, 108, 109, 110, 111, 112, 113] (by decide +kernel) (by decide +kernel)
set_option maxRecDepth 20000 in
theorem gX5_depthThen_X5_refuse : GoodIn wsX5_depthThen (wsV RX5 70 RX5 yX5_refuse wsX5_refuse) := goodIn_app (goodIn_of _ (by decide +kernel)) ggX5_depthThen_X5_refuse
set_option maxRecDepth 20000 in
theorem ggX5_depthThen_X1_think : GoodIn wsX5_depthThen wsX1_think := goodIn_r _ [23, 24, 25, 26, 27, 28, 29, 30, 31, 32, 33, 34, 35, 36, 37, 38, 39, 40, 41, 122, 123, 114, 115, 116, 117, 118, 119, 120, 121] (by decide +kernel) (by decide +kernel)
set_option maxRecDepth 20000 in
theorem gX5_depthThen_X1_think : GoodIn wsX5_depthThen (wsV RX5 136 RX1 yX1_think wsX1_think) := goodIn_app (goodIn_of _ (by decide +kernel)) ggX5_depthThen_X1_think
set_option maxRecDepth 20000 in
theorem ggX5_depthThen_X3_passYears : GoodIn wsX5_depthThen wsX3_passYears := goodIn_r _ [45, 46, 47, 48, 29, 49, 40, 50, 41, 39, 38, 51, 52, 53, 54, 31, 55, 56, 57, 58, 59, 60, 61, 62, 37, 63, 64, 65, 66, 6, 67, 68, 69, 70, 71, 72, 73, 74, 75, 76, 77, 78, 79, 36, 80, 81, 82, 83, 84, 85, 86, 87, 88, 89, 90, 91, 92, 93, 94, 95, 96, 97, 98, 99, 100, 101, 102, 103, 104, 114, 115, 116, 117, 118, 119, 120, 121] (by decide +kernel) (by decide +kernel)
set_option maxRecDepth 20000 in
theorem gX5_depthThen_X3_passYears : GoodIn wsX5_depthThen (wsV RX5 133 RX3 yX3_passYears wsX3_passYears) := goodIn_app (goodIn_of _ (by decide +kernel)) ggX5_depthThen_X3_passYears
theorem dX5_depthThen_0 : decode cX5_depthThen 0 = .ok (.iload_n 1, 1) := by decide +kernel
theorem dX5_depthThen_1 : decode cX5_depthThen 1 = .ok (.invokestatic 84, 3) := by decide +kernel
theorem dX5_depthThen_4 : decode cX5_depthThen 4 = .ok (.iload_n 2, 1) := by decide +kernel
theorem dX5_depthThen_5 : decode cX5_depthThen 5 = .ok (.iconst 0, 1) := by decide +kernel
theorem dX5_depthThen_6 : decode cX5_depthThen 6 = .ok (.bipush 60, 2) := by decide +kernel
theorem dX5_depthThen_8 : decode cX5_depthThen 8 = .ok (.invokestatic 62, 3) := by decide +kernel
theorem dX5_depthThen_11 : decode cX5_depthThen 11 = .ok (.iconst 0, 1) := by decide +kernel
theorem dX5_depthThen_12 : decode cX5_depthThen 12 = .ok (.invokestatic 97, 3) := by decide +kernel
theorem dX5_depthThen_15 : decode cX5_depthThen 15 = .ok (.istore_n 3, 1) := by decide +kernel
theorem dX5_depthThen_16 : decode cX5_depthThen 16 = .ok (.iload_n 3, 1) := by decide +kernel
theorem dX5_depthThen_17 : decode cX5_depthThen 17 = .ok (.ifCond .eq 9, 3) := by decide +kernel
theorem dX5_depthThen_20 : decode cX5_depthThen 20 = .ok (.aload_n 0, 1) := by decide +kernel
theorem dX5_depthThen_21 : decode cX5_depthThen 21 = .ok (.iload_n 3, 1) := by decide +kernel
theorem dX5_depthThen_22 : decode cX5_depthThen 22 = .ok (.invokevirtual 70, 3) := by decide +kernel
theorem dX5_depthThen_25 : decode cX5_depthThen 25 = .ok (.ireturn, 1) := by decide +kernel
theorem dX5_depthThen_26 : decode cX5_depthThen 26 = .ok (.aload_n 0, 1) := by decide +kernel
theorem dX5_depthThen_27 : decode cX5_depthThen 27 = .ok (.getfield 27, 3) := by decide +kernel
theorem dX5_depthThen_30 : decode cX5_depthThen 30 = .ok (.invokevirtual 136, 3) := by decide +kernel
theorem dX5_depthThen_33 : decode cX5_depthThen 33 = .ok (.iload_n 2, 1) := by decide +kernel
theorem dX5_depthThen_34 : decode cX5_depthThen 34 = .ok (.invokevirtual 133, 3) := by decide +kernel
theorem dX5_depthThen_37 : decode cX5_depthThen 37 = .ok (.pop, 1) := by decide +kernel
theorem dX5_depthThen_38 : decode cX5_depthThen 38 = .ok (.aload_n 0, 1) := by decide +kernel
theorem dX5_depthThen_39 : decode cX5_depthThen 39 = .ok (.getfield 19, 3) := by decide +kernel
theorem dX5_depthThen_42 : decode cX5_depthThen 42 = .ok (.getfield 87, 3) := by decide +kernel
theorem dX5_depthThen_45 : decode cX5_depthThen 45 = .ok (.iload_n 1, 1) := by decide +kernel
theorem dX5_depthThen_46 : decode cX5_depthThen 46 = .ok (.iaload, 1) := by decide +kernel
theorem dX5_depthThen_47 : decode cX5_depthThen 47 = .ok (.ireturn, 1) := by decide +kernel
set_option maxRecDepth 20000 in
theorem ggX5_first_X1_yearsTillAll : GoodIn wsX5_first wsX1_yearsTillAll := goodIn_r _ [6, 7, 8, 9, 10, 5, 11, 12, 13, 14, 15, 16, 17, 18, 19, 20, 21, 22, 23, 24, 25, 26, 27, 28, 29, 30, 31, 32, 33, 34, 35, 36, 37, 38, 39, 40, 41, 42, 43, 44, 45, 46, 47, 48, 49, 50, 51, 52, 53, 54, 55, 56, 57, 58, 59, 60, 61, 62, 63, 64, 65, 66, 67, 68, 69, 70, 71, 72, 73, 74, 75, 76, 77, 78, 79, 80, 81, 82, 83, 84, 85, 86, 87, 88, 89, 90, 91, 92, 93, 121, 122, 123, 124, 125, 126, 127, 128, 129, 130] (by decide +kernel) (by decide +kernel)
set_option maxRecDepth 20000 in
theorem gX5_first_X1_yearsTillAll : GoodIn wsX5_first (wsV RX5 140 RX1 yX1_yearsTillAll wsX1_yearsTillAll) := goodIn_app (goodIn_of _ (by decide +kernel)) ggX5_first_X1_yearsTillAll
set_option maxRecDepth 20000 in
theorem ggX5_first_X1_yearsTillNone : GoodIn wsX5_first wsX1_yearsTillNone := goodIn_r _ [97, 7, 8, 9, 10, 5, 11, 12, 13, 14, 15, 16, 17, 18, 19, 20, 21, 22, 23, 24, 25, 26, 27, 28, 34, 35, 36, 37, 38, 39, 40, 41, 42, 43, 44, 45, 46, 47, 48, 49, 50, 51, 52, 53, 54, 55, 56, 57, 58, 59, 60, 61, 62, 63, 64, 65, 66, 67, 68, 69, 70, 71, 72, 73, 74, 75, 76, 77, 78, 79, 80, 81, 82, 83, 84, 85, 86, 87, 88, 89, 90, 91, 92, 93, 121, 122, 123, 124, 125, 126, 127, 128, 129, 130] (by decide +kernel) (by decide +kernel)
set_option maxRecDepth 20000 in
theorem gX5_first_X1_yearsTillNone : GoodIn wsX5_first (wsV RX5 143 RX1 yX1_yearsTillNone wsX1_yearsTillNone) := goodIn_app (goodIn_of _ (by decide +kernel)) ggX5_first_X1_yearsTillNone
set_option maxRecDepth 20000 in
theorem ggX5_first_X1_yearsTillSettled : GoodIn wsX5_first wsX1_yearsTillSettled := goodIn_r _ [101, 7, 8, 9, 10, 5, 11, 12, 13, 14, 15, 16, 17, 18, 19, 20, 21, 22, 23, 24, 25, 26, 27, 28, 53, 54, 55, 56, 57, 58, 59, 60, 61, 62, 63, 64, 65, 66, 67, 68, 69, 70, 71, 72, 73, 74, 75, 42, 43, 44, 45, 76, 77, 48, 78, 79, 80, 81, 82, 83, 84, 85, 86, 87, 88, 89, 90, 91, 92, 93, 121, 122, 123, 124, 125, 126, 127, 128, 129, 130] (by decide +kernel) (by decide +kernel)
set_option maxRecDepth 20000 in
theorem gX5_first_X1_yearsTillSettled : GoodIn wsX5_first (wsV RX5 146 RX1 yX1_yearsTillSettled wsX1_yearsTillSettled) := goodIn_app (goodIn_of _ (by decide +kernel)) ggX5_first_X1_yearsTillSettled
set_option maxRecDepth 20000 in
theorem ggX5_first_X1_yearsTillElsewhere : GoodIn wsX5_first wsX1_yearsTillElsewhere := goodIn_r _ [105, 7, 8, 9, 10, 5, 11, 12, 13, 14, 15, 16, 17, 18, 19, 20, 21, 22, 23, 24, 25, 26, 27, 28, 106, 59, 60, 61, 53, 54, 55, 56, 57, 58, 62, 63, 64, 65, 66, 67, 68, 69, 70, 71, 72, 73, 74, 75, 42, 43, 44, 45, 76, 77, 48, 78, 79, 80, 81, 82, 83, 84, 85, 86, 87, 88, 89, 90, 91, 92, 93, 121, 122, 123, 124, 125, 126, 127, 128, 129, 130] (by decide +kernel) (by decide +kernel)
set_option maxRecDepth 20000 in
theorem gX5_first_X1_yearsTillElsewhere : GoodIn wsX5_first (wsV RX5 149 RX1 yX1_yearsTillElsewhere wsX1_yearsTillElsewhere) := goodIn_app (goodIn_of _ (by decide +kernel)) ggX5_first_X1_yearsTillElsewhere
set_option maxRecDepth 20000 in
theorem ggX5_first_X5_refuse : GoodIn wsX5_first wsX5_refuse := goodIn_r _ [110, 111, 112, 113, 114, 115, 116, 117, 118, 119, 120] (by decide +kernel) (by decide +kernel)
set_option maxRecDepth 20000 in
theorem gX5_first_X5_refuse : GoodIn wsX5_first (wsV RX5 70 RX5 yX5_refuse wsX5_refuse) := goodIn_app (goodIn_of _ (by decide +kernel)) ggX5_first_X5_refuse
theorem dX5_first_0 : decode cX5_first 0 = .ok (.iload_n 1, 1) := by decide +kernel
theorem dX5_first_1 : decode cX5_first 1 = .ok (.tableswitch 63 0 3 #[31, 39, 47, 55], 31) := by decide +kernel
theorem dX5_first_32 : decode cX5_first 32 = .ok (.aload_n 0, 1) := by decide +kernel
theorem dX5_first_33 : decode cX5_first 33 = .ok (.getfield 27, 3) := by decide +kernel
theorem dX5_first_36 : decode cX5_first 36 = .ok (.invokevirtual 140, 3) := by decide +kernel
theorem dX5_first_39 : decode cX5_first 39 = .ok (.ireturn, 1) := by decide +kernel
theorem dX5_first_40 : decode cX5_first 40 = .ok (.aload_n 0, 1) := by decide +kernel
theorem dX5_first_41 : decode cX5_first 41 = .ok (.getfield 27, 3) := by decide +kernel
theorem dX5_first_44 : decode cX5_first 44 = .ok (.invokevirtual 143, 3) := by decide +kernel
theorem dX5_first_47 : decode cX5_first 47 = .ok (.ireturn, 1) := by decide +kernel
theorem dX5_first_48 : decode cX5_first 48 = .ok (.aload_n 0, 1) := by decide +kernel
theorem dX5_first_49 : decode cX5_first 49 = .ok (.getfield 27, 3) := by decide +kernel
theorem dX5_first_52 : decode cX5_first 52 = .ok (.invokevirtual 146, 3) := by decide +kernel
theorem dX5_first_55 : decode cX5_first 55 = .ok (.ireturn, 1) := by decide +kernel
theorem dX5_first_56 : decode cX5_first 56 = .ok (.aload_n 0, 1) := by decide +kernel
theorem dX5_first_57 : decode cX5_first 57 = .ok (.getfield 27, 3) := by decide +kernel
theorem dX5_first_60 : decode cX5_first 60 = .ok (.invokevirtual 149, 3) := by decide +kernel
theorem dX5_first_63 : decode cX5_first 63 = .ok (.ireturn, 1) := by decide +kernel
theorem dX5_first_64 : decode cX5_first 64 = .ok (.aload_n 0, 1) := by decide +kernel
theorem dX5_first_65 : decode cX5_first 65 = .ok (.bipush (-2), 2) := by decide +kernel
theorem dX5_first_67 : decode cX5_first 67 = .ok (.invokevirtual 70, 3) := by decide +kernel
theorem dX5_first_70 : decode cX5_first 70 = .ok (.ireturn, 1) := by decide +kernel
set_option maxRecDepth 20000 in
theorem ggX5_makes_X5_range : GoodIn wsX5_makes wsX5_range := goodIn_r _ [5] (by decide +kernel) (by decide +kernel)
set_option maxRecDepth 20000 in
theorem gX5_makes_X5_range : GoodIn wsX5_makes (va_wsS RX5 62 yX5_range wsX5_range) := goodIn_app (goodIn_of _ (by decide +kernel)) ggX5_makes_X5_range
set_option maxRecDepth 20000 in
theorem ggX5_makes_X5_refuse : GoodIn wsX5_makes wsX5_refuse := goodIn_r _ [9, 10, 115, 116, 117, 118, 119, 120, 121, 122, 123] (by decide +kernel) (by decide +kernel)
set_option maxRecDepth 20000 in
theorem gX5_makes_X5_refuse : GoodIn wsX5_makes (wsV RX5 70 RX5 yX5_refuse wsX5_refuse) := goodIn_app (goodIn_of _ (by decide +kernel)) ggX5_makes_X5_refuse
set_option maxRecDepth 20000 in
theorem ggX5_makes_X1_fewestMakers : GoodIn wsX5_makes wsX1_fewestMakers := goodIn_r _ [15, 16, 17, 18, 19, 20, 21, 22, 23, 24, 25, 26, 27, 14, 28, 29, 30, 31, 32, 33, 34, 35, 36, 37, 38, 39, 40, 41, 42, 43, 44, 45, 46, 47, 48, 49, 50, 51, 4, 52, 53, 54, 55, 56, 57, 58, 59, 60, 61, 62, 63, 64, 65, 66, 67, 68, 69, 70, 71, 72, 73, 74, 75, 76, 77, 78, 79, 80, 81, 82, 83, 84, 85, 86, 87, 88, 89, 90, 91, 92, 93, 94, 95, 96, 97, 98, 99, 100, 101, 102, 103, 104, 105, 106, 107, 108, 109, 110, 111, 112, 113, 114, 124, 125, 126, 127, 128, 129, 130, 131, 132, 133] (by decide +kernel) (by decide +kernel)
set_option maxRecDepth 20000 in
theorem gX5_makes_X1_fewestMakers : GoodIn wsX5_makes (wsV RX5 152 RX1 yX1_fewestMakers wsX1_fewestMakers) := goodIn_app (goodIn_of _ (by decide +kernel)) ggX5_makes_X1_fewestMakers
theorem dX5_makes_0 : decode cX5_makes 0 = .ok (.iload_n 1, 1) := by decide +kernel
theorem dX5_makes_1 : decode cX5_makes 1 = .ok (.iconst 0, 1) := by decide +kernel
theorem dX5_makes_2 : decode cX5_makes 2 = .ok (.bipush 20, 2) := by decide +kernel
theorem dX5_makes_4 : decode cX5_makes 4 = .ok (.invokestatic 62, 3) := by decide +kernel
theorem dX5_makes_7 : decode cX5_makes 7 = .ok (.istore_n 2, 1) := by decide +kernel
theorem dX5_makes_8 : decode cX5_makes 8 = .ok (.iload_n 2, 1) := by decide +kernel
theorem dX5_makes_9 : decode cX5_makes 9 = .ok (.ifCond .eq 11, 3) := by decide +kernel
theorem dX5_makes_12 : decode cX5_makes 12 = .ok (.aload_n 0, 1) := by decide +kernel
theorem dX5_makes_13 : decode cX5_makes 13 = .ok (.iload_n 2, 1) := by decide +kernel
theorem dX5_makes_14 : decode cX5_makes 14 = .ok (.invokevirtual 70, 3) := by decide +kernel
theorem dX5_makes_17 : decode cX5_makes 17 = .ok (.goto 11, 3) := by decide +kernel
theorem dX5_makes_20 : decode cX5_makes 20 = .ok (.aload_n 0, 1) := by decide +kernel
theorem dX5_makes_21 : decode cX5_makes 21 = .ok (.getfield 27, 3) := by decide +kernel
theorem dX5_makes_24 : decode cX5_makes 24 = .ok (.iload_n 1, 1) := by decide +kernel
theorem dX5_makes_25 : decode cX5_makes 25 = .ok (.invokevirtual 152, 3) := by decide +kernel
theorem dX5_makes_28 : decode cX5_makes 28 = .ok (.ireturn, 1) := by decide +kernel
set_option maxRecDepth 20000 in
theorem ggX5_leaves_X5_range : GoodIn wsX5_leaves wsX5_range := goodIn_r _ [5] (by decide +kernel) (by decide +kernel)
set_option maxRecDepth 20000 in
theorem gX5_leaves_X5_range : GoodIn wsX5_leaves (va_wsS RX5 62 yX5_range wsX5_range) := goodIn_app (goodIn_of _ (by decide +kernel)) ggX5_leaves_X5_range
set_option maxRecDepth 20000 in
theorem ggX5_leaves_X5_refuse : GoodIn wsX5_leaves wsX5_refuse := goodIn_r _ [9, 10, 113, 114, 115, 116, 117, 118, 119, 120, 121] (by decide +kernel) (by decide +kernel)
set_option maxRecDepth 20000 in
theorem gX5_leaves_X5_refuse : GoodIn wsX5_leaves (wsV RX5 70 RX5 yX5_refuse wsX5_refuse) := goodIn_app (goodIn_of _ (by decide +kernel)) ggX5_leaves_X5_refuse
set_option maxRecDepth 20000 in
theorem ggX5_leaves_X1_fewestLeavers : GoodIn wsX5_leaves wsX1_fewestLeavers := goodIn_r _ [15, 16, 17, 18, 19, 20, 21, 22, 23, 24, 25, 26, 27, 14, 28, 29, 30, 31, 32, 33, 34, 35, 36, 37, 38, 39, 40, 41, 42, 43, 44, 45, 46, 47, 48, 49, 50, 51, 52, 53, 54, 4, 55, 56, 57, 58, 59, 60, 61, 62, 63, 64, 65, 66, 67, 68, 69, 70, 71, 72, 73, 74, 75, 76, 77, 78, 79, 80, 81, 82, 83, 84, 85, 86, 87, 88, 89, 90, 91, 92, 93, 94, 95, 96, 97, 98, 99, 100, 101, 102, 103, 104, 105, 106, 107, 108, 109, 110, 111, 112, 122, 123, 124, 125, 126, 127, 128, 129, 130, 131] (by decide +kernel) (by decide +kernel)
set_option maxRecDepth 20000 in
theorem gX5_leaves_X1_fewestLeavers : GoodIn wsX5_leaves (wsV RX5 155 RX1 yX1_fewestLeavers wsX1_fewestLeavers) := goodIn_app (goodIn_of _ (by decide +kernel)) ggX5_leaves_X1_fewestLeavers
theorem dX5_leaves_0 : decode cX5_leaves 0 = .ok (.iload_n 1, 1) := by decide +kernel
theorem dX5_leaves_1 : decode cX5_leaves 1 = .ok (.iconst 0, 1) := by decide +kernel
theorem dX5_leaves_2 : decode cX5_leaves 2 = .ok (.bipush 20, 2) := by decide +kernel
theorem dX5_leaves_4 : decode cX5_leaves 4 = .ok (.invokestatic 62, 3) := by decide +kernel
theorem dX5_leaves_7 : decode cX5_leaves 7 = .ok (.istore_n 2, 1) := by decide +kernel
theorem dX5_leaves_8 : decode cX5_leaves 8 = .ok (.iload_n 2, 1) := by decide +kernel
theorem dX5_leaves_9 : decode cX5_leaves 9 = .ok (.ifCond .eq 11, 3) := by decide +kernel
theorem dX5_leaves_12 : decode cX5_leaves 12 = .ok (.aload_n 0, 1) := by decide +kernel
theorem dX5_leaves_13 : decode cX5_leaves 13 = .ok (.iload_n 2, 1) := by decide +kernel
theorem dX5_leaves_14 : decode cX5_leaves 14 = .ok (.invokevirtual 70, 3) := by decide +kernel
theorem dX5_leaves_17 : decode cX5_leaves 17 = .ok (.goto 11, 3) := by decide +kernel
theorem dX5_leaves_20 : decode cX5_leaves 20 = .ok (.aload_n 0, 1) := by decide +kernel
theorem dX5_leaves_21 : decode cX5_leaves 21 = .ok (.getfield 27, 3) := by decide +kernel
theorem dX5_leaves_24 : decode cX5_leaves 24 = .ok (.iload_n 1, 1) := by decide +kernel
theorem dX5_leaves_25 : decode cX5_leaves 25 = .ok (.invokevirtual 155, 3) := by decide +kernel
theorem dX5_leaves_28 : decode cX5_leaves 28 = .ok (.ireturn, 1) := by decide +kernel
set_option maxRecDepth 20000 in
theorem ggX5_ask_X5_range : GoodIn wsX5_ask wsX5_range := goodIn_r _ [5] (by decide +kernel) (by decide +kernel)
set_option maxRecDepth 20000 in
theorem gX5_ask_X5_range : GoodIn wsX5_ask (va_wsS RX5 62 yX5_range wsX5_range) := goodIn_app (goodIn_of _ (by decide +kernel)) ggX5_ask_X5_range
set_option maxRecDepth 20000 in
theorem ggX5_ask_X5_refuse : GoodIn wsX5_ask wsX5_refuse := goodIn_r _ [9, 10, 103, 104, 105, 106, 107, 108, 109, 110, 111] (by decide +kernel) (by decide +kernel)
set_option maxRecDepth 20000 in
theorem gX5_ask_X5_refuse : GoodIn wsX5_ask (wsV RX5 70 RX5 yX5_refuse wsX5_refuse) := goodIn_app (goodIn_of _ (by decide +kernel)) ggX5_ask_X5_refuse
set_option maxRecDepth 20000 in
theorem ggX5_ask_X1_whomToAsk : GoodIn wsX5_ask wsX1_whomToAsk := goodIn_r _ [15, 16, 17, 18, 19, 20, 21, 22, 14, 23, 24, 25, 26, 27, 28, 29, 30, 31, 32, 33, 34, 35, 36, 37, 38, 39, 40, 41, 42, 43, 44, 45, 46, 47, 48, 49, 50, 51, 52, 53, 54, 55, 56, 57, 58, 59, 60, 61, 62, 63, 64, 4, 65, 66, 67, 68, 69, 70, 71, 72, 73, 74, 75, 76, 77, 78, 79, 80, 81, 82, 83, 84, 85, 86, 87, 88, 89, 90, 91, 92, 93, 94, 95, 96, 97, 98, 99, 100, 101, 102, 112, 113, 114, 115, 116, 117, 118, 119, 120, 121] (by decide +kernel) (by decide +kernel)
set_option maxRecDepth 20000 in
theorem gX5_ask_X1_whomToAsk : GoodIn wsX5_ask (wsV RX5 158 RX1 yX1_whomToAsk wsX1_whomToAsk) := goodIn_app (goodIn_of _ (by decide +kernel)) ggX5_ask_X1_whomToAsk
theorem dX5_ask_0 : decode cX5_ask 0 = .ok (.iload_n 1, 1) := by decide +kernel
theorem dX5_ask_1 : decode cX5_ask 1 = .ok (.iconst 0, 1) := by decide +kernel
theorem dX5_ask_2 : decode cX5_ask 2 = .ok (.bipush 60, 2) := by decide +kernel
theorem dX5_ask_4 : decode cX5_ask 4 = .ok (.invokestatic 62, 3) := by decide +kernel
theorem dX5_ask_7 : decode cX5_ask 7 = .ok (.istore_n 2, 1) := by decide +kernel
theorem dX5_ask_8 : decode cX5_ask 8 = .ok (.iload_n 2, 1) := by decide +kernel
theorem dX5_ask_9 : decode cX5_ask 9 = .ok (.ifCond .eq 11, 3) := by decide +kernel
theorem dX5_ask_12 : decode cX5_ask 12 = .ok (.aload_n 0, 1) := by decide +kernel
theorem dX5_ask_13 : decode cX5_ask 13 = .ok (.iload_n 2, 1) := by decide +kernel
theorem dX5_ask_14 : decode cX5_ask 14 = .ok (.invokevirtual 70, 3) := by decide +kernel
theorem dX5_ask_17 : decode cX5_ask 17 = .ok (.goto 11, 3) := by decide +kernel
theorem dX5_ask_20 : decode cX5_ask 20 = .ok (.aload_n 0, 1) := by decide +kernel
theorem dX5_ask_21 : decode cX5_ask 21 = .ok (.getfield 27, 3) := by decide +kernel
theorem dX5_ask_24 : decode cX5_ask 24 = .ok (.iload_n 1, 1) := by decide +kernel
theorem dX5_ask_25 : decode cX5_ask 25 = .ok (.invokevirtual 158, 3) := by decide +kernel
theorem dX5_ask_28 : decode cX5_ask 28 = .ok (.ireturn, 1) := by decide +kernel
set_option maxRecDepth 20000 in
theorem ggX5_sit_X5_noPerson : GoodIn wsX5_sit wsX5_noPerson := goodIn_r _ [6, 7, 8, 120, 121, 122, 123, 124, 125, 126, 127, 128, 129, 130, 131, 132, 133, 134, 135, 136] (by decide +kernel) (by decide +kernel)
set_option maxRecDepth 20000 in
theorem gX5_sit_X5_noPerson : GoodIn wsX5_sit (wsV RX5 90 RX5 yX5_noPerson wsX5_noPerson) := goodIn_app (goodIn_of _ (by decide +kernel)) ggX5_sit_X5_noPerson
set_option maxRecDepth 20000 in
theorem ggX5_sit_X5_range : GoodIn wsX5_sit wsX5_range := goodIn_r _ [11] (by decide +kernel) (by decide +kernel)
set_option maxRecDepth 20000 in
theorem gX5_sit_X5_range : GoodIn wsX5_sit (va_wsS RX5 62 yX5_range wsX5_range) := goodIn_app (goodIn_of _ (by decide +kernel)) ggX5_sit_X5_range
set_option maxRecDepth 20000 in
theorem ggX5_sit_X5_other : GoodIn wsX5_sit wsX5_other := goodIn_r _ [14] (by decide +kernel) (by decide +kernel)
set_option maxRecDepth 20000 in
theorem gX5_sit_X5_other : GoodIn wsX5_sit (va_wsS RX5 93 yX5_other wsX5_other) := goodIn_app (goodIn_of _ (by decide +kernel)) ggX5_sit_X5_other
set_option maxRecDepth 20000 in
theorem ggX5_sit_X5_firstOf : GoodIn wsX5_sit wsX5_firstOf := goodIn_r _ [17] (by decide +kernel) (by decide +kernel)
set_option maxRecDepth 20000 in
theorem gX5_sit_X5_firstOf : GoodIn wsX5_sit (va_wsS RX5 97 yX5_firstOf wsX5_firstOf) := goodIn_app (goodIn_of _ (by decide +kernel)) ggX5_sit_X5_firstOf
set_option maxRecDepth 20000 in
theorem ggX5_sit_X5_refuse : GoodIn wsX5_sit wsX5_refuse := goodIn_r _ [21, 22, 120, 121, 122, 123, 124, 125, 126, 127, 128] (by decide +kernel) (by decide +kernel)
set_option maxRecDepth 20000 in
theorem gX5_sit_X5_refuse : GoodIn wsX5_sit (wsV RX5 70 RX5 yX5_refuse wsX5_refuse) := goodIn_app (goodIn_of _ (by decide +kernel)) ggX5_sit_X5_refuse
set_option maxRecDepth 20000 in
theorem ggX5_sit_X1_bestCell : GoodIn wsX5_sit wsX1_bestCell := goodIn_r _ [27, 28, 29, 30, 26, 31, 32, 33, 34, 35, 36, 37, 38, 39, 40, 41, 42, 43, 44, 45, 46, 47, 48, 49, 50, 51, 52, 53, 54, 55, 56, 57, 58, 59, 60, 61, 62, 63, 64, 65, 66, 67, 68, 69, 70, 71, 72, 73, 74, 75, 76, 77, 78, 79, 80, 5, 81, 82, 83, 84, 85, 86, 87, 88, 89, 90, 91, 92, 93, 94, 95, 96, 97, 98, 99, 100, 101, 102, 103, 104, 105, 106, 107, 108, 109, 110, 111, 112, 113, 114, 115, 116, 117, 118, 129, 130, 131, 132, 133, 134, 135, 136, 137, 138] (by decide +kernel) (by decide +kernel)
set_option maxRecDepth 20000 in
theorem gX5_sit_X1_bestCell : GoodIn wsX5_sit (wsV RX5 161 RX1 yX1_bestCell wsX1_bestCell) := goodIn_app (goodIn_of _ (by decide +kernel)) ggX5_sit_X1_bestCell
set_option maxRecDepth 20000 in
theorem ggX5_sit_X1_beliefFrom : GoodIn wsX5_sit wsX1_beliefFrom := goodIn_r _ [31, 32, 33, 34, 35, 36, 37, 26, 38, 39, 40, 41, 42, 43, 44, 45, 46, 47, 48, 49, 50, 51, 52, 53, 54, 55, 56, 57, 58, 59, 60, 61, 62, 63, 64, 65, 66, 67, 68, 69, 70, 71, 72, 73, 74, 75, 76, 77, 78, 79, 80, 5, 81, 82, 83, 84, 85, 86, 87, 88, 89, 90, 91, 92, 93, 94, 95, 96, 97, 98, 99, 100, 101, 102, 103, 104, 105, 106, 107, 108, 109, 110, 111, 112, 113, 114, 115, 116, 117, 118, 129, 130, 131, 132, 133, 134, 135, 136, 137, 138] (by decide +kernel) (by decide +kernel)
set_option maxRecDepth 20000 in
theorem gX5_sit_X1_beliefFrom : GoodIn wsX5_sit (wsV RX5 164 RX1 yX1_beliefFrom wsX1_beliefFrom) := goodIn_app (goodIn_of _ (by decide +kernel)) ggX5_sit_X1_beliefFrom
theorem dX5_sit_0 : decode cX5_sit 0 = .ok (.aload_n 0, 1) := by decide +kernel
theorem dX5_sit_1 : decode cX5_sit 1 = .ok (.iload_n 1, 1) := by decide +kernel
theorem dX5_sit_2 : decode cX5_sit 2 = .ok (.invokevirtual 90, 3) := by decide +kernel
theorem dX5_sit_5 : decode cX5_sit 5 = .ok (.iload_n 2, 1) := by decide +kernel
theorem dX5_sit_6 : decode cX5_sit 6 = .ok (.iconst 0, 1) := by decide +kernel
theorem dX5_sit_7 : decode cX5_sit 7 = .ok (.bipush 20, 2) := by decide +kernel
theorem dX5_sit_9 : decode cX5_sit 9 = .ok (.invokestatic 62, 3) := by decide +kernel
theorem dX5_sit_12 : decode cX5_sit 12 = .ok (.iload_n 3, 1) := by decide +kernel
theorem dX5_sit_13 : decode cX5_sit 13 = .ok (.iconst 2, 1) := by decide +kernel
theorem dX5_sit_14 : decode cX5_sit 14 = .ok (.invokestatic 93, 3) := by decide +kernel
theorem dX5_sit_17 : decode cX5_sit 17 = .ok (.invokestatic 97, 3) := by decide +kernel
theorem dX5_sit_20 : decode cX5_sit 20 = .ok (.istore 4, 2) := by decide +kernel
theorem dX5_sit_22 : decode cX5_sit 22 = .ok (.iload 4, 2) := by decide +kernel
theorem dX5_sit_24 : decode cX5_sit 24 = .ok (.ifCond .eq 10, 3) := by decide +kernel
theorem dX5_sit_27 : decode cX5_sit 27 = .ok (.aload_n 0, 1) := by decide +kernel
theorem dX5_sit_28 : decode cX5_sit 28 = .ok (.iload 4, 2) := by decide +kernel
theorem dX5_sit_30 : decode cX5_sit 30 = .ok (.invokevirtual 70, 3) := by decide +kernel
theorem dX5_sit_33 : decode cX5_sit 33 = .ok (.ireturn, 1) := by decide +kernel
theorem dX5_sit_34 : decode cX5_sit 34 = .ok (.aload_n 0, 1) := by decide +kernel
theorem dX5_sit_35 : decode cX5_sit 35 = .ok (.getfield 27, 3) := by decide +kernel
theorem dX5_sit_38 : decode cX5_sit 38 = .ok (.iload_n 1, 1) := by decide +kernel
theorem dX5_sit_39 : decode cX5_sit 39 = .ok (.iload_n 2, 1) := by decide +kernel
theorem dX5_sit_40 : decode cX5_sit 40 = .ok (.invokevirtual 161, 3) := by decide +kernel
theorem dX5_sit_43 : decode cX5_sit 43 = .ok (.istore 5, 2) := by decide +kernel
theorem dX5_sit_45 : decode cX5_sit 45 = .ok (.iload_n 3, 1) := by decide +kernel
theorem dX5_sit_46 : decode cX5_sit 46 = .ok (.ifCond .ne 8, 3) := by decide +kernel
theorem dX5_sit_49 : decode cX5_sit 49 = .ok (.iload 5, 2) := by decide +kernel
theorem dX5_sit_51 : decode cX5_sit 51 = .ok (.goto 14, 3) := by decide +kernel
theorem dX5_sit_54 : decode cX5_sit 54 = .ok (.aload_n 0, 1) := by decide +kernel
theorem dX5_sit_55 : decode cX5_sit 55 = .ok (.getfield 27, 3) := by decide +kernel
theorem dX5_sit_58 : decode cX5_sit 58 = .ok (.iload 5, 2) := by decide +kernel
theorem dX5_sit_60 : decode cX5_sit 60 = .ok (.iload_n 1, 1) := by decide +kernel
theorem dX5_sit_61 : decode cX5_sit 61 = .ok (.iload_n 2, 1) := by decide +kernel
theorem dX5_sit_62 : decode cX5_sit 62 = .ok (.invokevirtual 164, 3) := by decide +kernel
theorem dX5_sit_65 : decode cX5_sit 65 = .ok (.ireturn, 1) := by decide +kernel
set_option maxRecDepth 20000 in
theorem ggX5_doubt_X5_range : GoodIn wsX5_doubt wsX5_range := goodIn_r _ [5] (by decide +kernel) (by decide +kernel)
set_option maxRecDepth 20000 in
theorem gX5_doubt_X5_range : GoodIn wsX5_doubt (va_wsS RX5 62 yX5_range wsX5_range) := goodIn_app (goodIn_of _ (by decide +kernel)) ggX5_doubt_X5_range
set_option maxRecDepth 20000 in
theorem ggX5_doubt_X5_refuse : GoodIn wsX5_doubt wsX5_refuse := goodIn_r _ [9, 10, 103, 104, 105, 106, 107, 108, 109, 110, 111] (by decide +kernel) (by decide +kernel)
set_option maxRecDepth 20000 in
theorem gX5_doubt_X5_refuse : GoodIn wsX5_doubt (wsV RX5 70 RX5 yX5_refuse wsX5_refuse) := goodIn_app (goodIn_of _ (by decide +kernel)) ggX5_doubt_X5_refuse
set_option maxRecDepth 20000 in
theorem ggX5_doubt_X1_worstDoubter : GoodIn wsX5_doubt wsX1_worstDoubter := goodIn_r _ [15, 16, 17, 18, 19, 20, 21, 22, 14, 23, 24, 25, 26, 27, 28, 29, 30, 31, 32, 33, 34, 35, 36, 37, 38, 39, 40, 41, 42, 43, 44, 45, 46, 47, 48, 49, 50, 51, 52, 53, 54, 55, 56, 57, 58, 59, 60, 61, 62, 63, 64, 4, 65, 66, 67, 68, 69, 70, 71, 72, 73, 74, 75, 76, 77, 78, 79, 80, 81, 82, 83, 84, 85, 86, 87, 88, 89, 90, 91, 92, 93, 94, 95, 96, 97, 98, 99, 100, 101, 102, 112, 113, 114, 115, 116, 117, 118, 119, 120, 121] (by decide +kernel) (by decide +kernel)
set_option maxRecDepth 20000 in
theorem gX5_doubt_X1_worstDoubter : GoodIn wsX5_doubt (wsV RX5 167 RX1 yX1_worstDoubter wsX1_worstDoubter) := goodIn_app (goodIn_of _ (by decide +kernel)) ggX5_doubt_X1_worstDoubter
theorem dX5_doubt_0 : decode cX5_doubt 0 = .ok (.iload_n 1, 1) := by decide +kernel
theorem dX5_doubt_1 : decode cX5_doubt 1 = .ok (.iconst 0, 1) := by decide +kernel
theorem dX5_doubt_2 : decode cX5_doubt 2 = .ok (.bipush 60, 2) := by decide +kernel
theorem dX5_doubt_4 : decode cX5_doubt 4 = .ok (.invokestatic 62, 3) := by decide +kernel
theorem dX5_doubt_7 : decode cX5_doubt 7 = .ok (.istore_n 2, 1) := by decide +kernel
theorem dX5_doubt_8 : decode cX5_doubt 8 = .ok (.iload_n 2, 1) := by decide +kernel
theorem dX5_doubt_9 : decode cX5_doubt 9 = .ok (.ifCond .eq 11, 3) := by decide +kernel
theorem dX5_doubt_12 : decode cX5_doubt 12 = .ok (.aload_n 0, 1) := by decide +kernel
theorem dX5_doubt_13 : decode cX5_doubt 13 = .ok (.iload_n 2, 1) := by decide +kernel
theorem dX5_doubt_14 : decode cX5_doubt 14 = .ok (.invokevirtual 70, 3) := by decide +kernel
theorem dX5_doubt_17 : decode cX5_doubt 17 = .ok (.goto 11, 3) := by decide +kernel
theorem dX5_doubt_20 : decode cX5_doubt 20 = .ok (.aload_n 0, 1) := by decide +kernel
theorem dX5_doubt_21 : decode cX5_doubt 21 = .ok (.getfield 27, 3) := by decide +kernel
theorem dX5_doubt_24 : decode cX5_doubt 24 = .ok (.iload_n 1, 1) := by decide +kernel
theorem dX5_doubt_25 : decode cX5_doubt 25 = .ok (.invokevirtual 167, 3) := by decide +kernel
theorem dX5_doubt_28 : decode cX5_doubt 28 = .ok (.ireturn, 1) := by decide +kernel
set_option maxRecDepth 20000 in
theorem ggX5_stranger_X5_range : GoodIn wsX5_stranger wsX5_range := goodIn_r _ [6] (by decide +kernel) (by decide +kernel)
set_option maxRecDepth 20000 in
theorem gX5_stranger_X5_range : GoodIn wsX5_stranger (va_wsS RX5 62 yX5_range wsX5_range) := goodIn_app (goodIn_of _ (by decide +kernel)) ggX5_stranger_X5_range
set_option maxRecDepth 20000 in
theorem ggX5_stranger_X5_refuse : GoodIn wsX5_stranger wsX5_refuse := goodIn_r _ [10, 11, 113, 114, 115, 116, 117, 118, 119, 120, 121] (by decide +kernel) (by decide +kernel)
set_option maxRecDepth 20000 in
theorem gX5_stranger_X5_refuse : GoodIn wsX5_stranger (wsV RX5 70 RX5 yX5_refuse wsX5_refuse) := goodIn_app (goodIn_of _ (by decide +kernel)) ggX5_stranger_X5_refuse
set_option maxRecDepth 20000 in
theorem ggX5_stranger_X1_moreByStranger : GoodIn wsX5_stranger wsX1_moreByStranger := goodIn_r _ [16, 17, 18, 19, 20, 21, 22, 23, 24, 25, 26, 27, 28, 15, 29, 30, 31, 32, 33, 34, 35, 36, 37, 38, 39, 40, 41, 42, 43, 44, 45, 46, 47, 48, 49, 50, 51, 52, 53, 54, 55, 56, 57, 58, 59, 60, 61, 62, 63, 64, 65, 66, 67, 68, 5, 69, 70, 71, 72, 73, 74, 75, 76, 77, 78, 79, 80, 81, 82, 83, 84, 85, 86, 87, 88, 89, 90, 91, 92, 93, 94, 95, 96, 97, 98, 99, 100, 101, 102, 103, 104, 105, 106, 107, 108, 109, 110, 111, 112, 122, 123, 124, 125, 126, 127, 128, 129, 130, 131] (by decide +kernel) (by decide +kernel)
set_option maxRecDepth 20000 in
theorem gX5_stranger_X1_moreByStranger : GoodIn wsX5_stranger (wsV RX5 171 RX1 yX1_moreByStranger wsX1_moreByStranger) := goodIn_app (goodIn_of _ (by decide +kernel)) ggX5_stranger_X1_moreByStranger
theorem dX5_stranger_0 : decode cX5_stranger 0 = .ok (.iload_n 1, 1) := by decide +kernel
theorem dX5_stranger_1 : decode cX5_stranger 1 = .ok (.iconst 0, 1) := by decide +kernel
theorem dX5_stranger_2 : decode cX5_stranger 2 = .ok (.bipush 60, 2) := by decide +kernel
theorem dX5_stranger_4 : decode cX5_stranger 4 = .ok (.invokestatic 62, 3) := by decide +kernel
theorem dX5_stranger_7 : decode cX5_stranger 7 = .ok (.istore_n 2, 1) := by decide +kernel
theorem dX5_stranger_8 : decode cX5_stranger 8 = .ok (.iload_n 2, 1) := by decide +kernel
theorem dX5_stranger_9 : decode cX5_stranger 9 = .ok (.ifCond .eq 14, 3) := by decide +kernel
theorem dX5_stranger_12 : decode cX5_stranger 12 = .ok (.ldc 170, 2) := by decide +kernel
theorem dX5_stranger_14 : decode cX5_stranger 14 = .ok (.aload_n 0, 1) := by decide +kernel
theorem dX5_stranger_15 : decode cX5_stranger 15 = .ok (.iload_n 2, 1) := by decide +kernel
theorem dX5_stranger_16 : decode cX5_stranger 16 = .ok (.invokevirtual 70, 3) := by decide +kernel
theorem dX5_stranger_19 : decode cX5_stranger 19 = .ok (.isub, 1) := by decide +kernel
theorem dX5_stranger_20 : decode cX5_stranger 20 = .ok (.goto 11, 3) := by decide +kernel
theorem dX5_stranger_23 : decode cX5_stranger 23 = .ok (.aload_n 0, 1) := by decide +kernel
theorem dX5_stranger_24 : decode cX5_stranger 24 = .ok (.getfield 27, 3) := by decide +kernel
theorem dX5_stranger_27 : decode cX5_stranger 27 = .ok (.iload_n 1, 1) := by decide +kernel
theorem dX5_stranger_28 : decode cX5_stranger 28 = .ok (.invokevirtual 171, 3) := by decide +kernel
theorem dX5_stranger_31 : decode cX5_stranger 31 = .ok (.ireturn, 1) := by decide +kernel
set_option maxRecDepth 20000 in
theorem ggX5_nearest_X3_hollow : GoodIn wsX5_nearest wsX3_hollow := goodIn_r _ [7, 8, 29, 30, 31, 32, 33, 34, 35, 36] (by decide +kernel) (by decide +kernel)
set_option maxRecDepth 20000 in
theorem gX5_nearest_X3_hollow : GoodIn wsX5_nearest (wsV RX5 123 RX3 yX3_hollow wsX3_hollow) := goodIn_app (goodIn_of _ (by decide +kernel)) ggX5_nearest_X3_hollow
set_option maxRecDepth 20000 in
theorem ggX5_nearest_X0_nearestTo : GoodIn wsX5_nearest wsX0_nearestTo := goodIn_r _ [13, 14, 15, 16, 17, 18, 19, 37, 29, 30, 31, 32, 33, 34, 35, 36] (by decide +kernel) (by decide +kernel)
set_option maxRecDepth 20000 in
theorem gX5_nearest_X0_nearestTo : GoodIn wsX5_nearest (wsV RX5 174 RX0 yX0_nearestTo wsX0_nearestTo) := goodIn_app (goodIn_of _ (by decide +kernel)) ggX5_nearest_X0_nearestTo
theorem dX5_nearest_0 : decode cX5_nearest 0 = .ok (.aload_n 0, 1) := by decide +kernel
theorem dX5_nearest_1 : decode cX5_nearest 1 = .ok (.getfield 36, 3) := by decide +kernel
theorem dX5_nearest_4 : decode cX5_nearest 4 = .ok (.aload_n 0, 1) := by decide +kernel
theorem dX5_nearest_5 : decode cX5_nearest 5 = .ok (.getfield 12, 3) := by decide +kernel
theorem dX5_nearest_8 : decode cX5_nearest 8 = .ok (.invokevirtual 123, 3) := by decide +kernel
theorem dX5_nearest_11 : decode cX5_nearest 11 = .ok (.invokevirtual 174, 3) := by decide +kernel
theorem dX5_nearest_14 : decode cX5_nearest 14 = .ok (.ireturn, 1) := by decide +kernel
set_option maxRecDepth 20000 in
theorem ggX5_passed_X5_range : GoodIn wsX5_passed wsX5_range := goodIn_r _ [5] (by decide +kernel) (by decide +kernel)
set_option maxRecDepth 20000 in
theorem gX5_passed_X5_range : GoodIn wsX5_passed (va_wsS RX5 62 yX5_range wsX5_range) := goodIn_app (goodIn_of _ (by decide +kernel)) ggX5_passed_X5_range
set_option maxRecDepth 20000 in
theorem ggX5_passed_X5_refuse : GoodIn wsX5_passed wsX5_refuse := goodIn_r _ [9, 10, 90, 91, 92, 93, 94, 95, 96, 97, 98] (by decide +kernel) (by decide +kernel)
set_option maxRecDepth 20000 in
theorem gX5_passed_X5_refuse : GoodIn wsX5_passed (wsV RX5 70 RX5 yX5_refuse wsX5_refuse) := goodIn_app (goodIn_of _ (by decide +kernel)) ggX5_passed_X5_refuse
set_option maxRecDepth 20000 in
theorem ggX5_passed_X1_thingsPassed : GoodIn wsX5_passed wsX1_thingsPassed := goodIn_r _ [15, 16, 17, 18, 19, 14, 20, 21, 22, 23, 24, 25, 26, 27, 28, 29, 30, 31, 32, 33, 34, 35, 36, 37, 38, 39, 40, 41, 42, 43, 44, 45, 46, 47, 48, 49, 50, 51, 52, 53, 54, 55, 56, 57, 58, 59, 60, 61, 62, 63, 64, 65, 66, 67, 68, 4, 69, 70, 71, 72, 73, 74, 75, 76, 77, 78, 79, 80, 81, 82, 83, 84, 85, 86, 87, 88, 89, 99, 100, 101, 102, 103, 104, 105, 106, 107, 108] (by decide +kernel) (by decide +kernel)
set_option maxRecDepth 20000 in
theorem gX5_passed_X1_thingsPassed : GoodIn wsX5_passed (wsV RX5 177 RX1 yX1_thingsPassed wsX1_thingsPassed) := goodIn_app (goodIn_of _ (by decide +kernel)) ggX5_passed_X1_thingsPassed
theorem dX5_passed_0 : decode cX5_passed 0 = .ok (.iload_n 1, 1) := by decide +kernel
theorem dX5_passed_1 : decode cX5_passed 1 = .ok (.iconst 0, 1) := by decide +kernel
theorem dX5_passed_2 : decode cX5_passed 2 = .ok (.bipush 60, 2) := by decide +kernel
theorem dX5_passed_4 : decode cX5_passed 4 = .ok (.invokestatic 62, 3) := by decide +kernel
theorem dX5_passed_7 : decode cX5_passed 7 = .ok (.istore_n 2, 1) := by decide +kernel
theorem dX5_passed_8 : decode cX5_passed 8 = .ok (.iload_n 2, 1) := by decide +kernel
theorem dX5_passed_9 : decode cX5_passed 9 = .ok (.ifCond .eq 11, 3) := by decide +kernel
theorem dX5_passed_12 : decode cX5_passed 12 = .ok (.aload_n 0, 1) := by decide +kernel
theorem dX5_passed_13 : decode cX5_passed 13 = .ok (.iload_n 2, 1) := by decide +kernel
theorem dX5_passed_14 : decode cX5_passed 14 = .ok (.invokevirtual 70, 3) := by decide +kernel
theorem dX5_passed_17 : decode cX5_passed 17 = .ok (.goto 11, 3) := by decide +kernel
theorem dX5_passed_20 : decode cX5_passed 20 = .ok (.aload_n 0, 1) := by decide +kernel
theorem dX5_passed_21 : decode cX5_passed 21 = .ok (.getfield 27, 3) := by decide +kernel
theorem dX5_passed_24 : decode cX5_passed 24 = .ok (.iload_n 1, 1) := by decide +kernel
theorem dX5_passed_25 : decode cX5_passed 25 = .ok (.invokevirtual 177, 3) := by decide +kernel
theorem dX5_passed_28 : decode cX5_passed 28 = .ok (.ireturn, 1) := by decide +kernel
set_option maxRecDepth 20000 in
theorem ggX5_heard_X5_noPerson : GoodIn wsX5_heard wsX5_noPerson := goodIn_r _ [6, 7, 8, 32, 33, 34, 35, 36, 37, 38, 39, 40, 41, 42, 43, 44, 45, 46, 47, 48] (by decide +kernel) (by decide +kernel)
set_option maxRecDepth 20000 in
theorem gX5_heard_X5_noPerson : GoodIn wsX5_heard (wsV RX5 90 RX5 yX5_noPerson wsX5_noPerson) := goodIn_app (goodIn_of _ (by decide +kernel)) ggX5_heard_X5_noPerson
set_option maxRecDepth 20000 in
theorem ggX5_heard_X5_refuse : GoodIn wsX5_heard wsX5_refuse := goodIn_r _ [12, 13, 32, 33, 34, 35, 36, 37, 38, 39, 40] (by decide +kernel) (by decide +kernel)
set_option maxRecDepth 20000 in
theorem gX5_heard_X5_refuse : GoodIn wsX5_heard (wsV RX5 70 RX5 yX5_refuse wsX5_refuse) := goodIn_app (goodIn_of _ (by decide +kernel)) ggX5_heard_X5_refuse
set_option maxRecDepth 20000 in
theorem ggX5_heard_X0_chainOf : GoodIn wsX5_heard wsX0_chainOf := goodIn_r _ [18, 19, 20, 21, 5, 22, 23, 24, 25, 26, 27, 28, 29, 30, 31, 49, 41, 42, 43, 44, 45, 46, 47, 48] (by decide +kernel) (by decide +kernel)
set_option maxRecDepth 20000 in
theorem gX5_heard_X0_chainOf : GoodIn wsX5_heard (wsV RX5 180 RX0 yX0_chainOf wsX0_chainOf) := goodIn_app (goodIn_of _ (by decide +kernel)) ggX5_heard_X0_chainOf
theorem dX5_heard_0 : decode cX5_heard 0 = .ok (.aload_n 0, 1) := by decide +kernel
theorem dX5_heard_1 : decode cX5_heard 1 = .ok (.iload_n 1, 1) := by decide +kernel
theorem dX5_heard_2 : decode cX5_heard 2 = .ok (.invokevirtual 90, 3) := by decide +kernel
theorem dX5_heard_5 : decode cX5_heard 5 = .ok (.istore_n 2, 1) := by decide +kernel
theorem dX5_heard_6 : decode cX5_heard 6 = .ok (.iload_n 2, 1) := by decide +kernel
theorem dX5_heard_7 : decode cX5_heard 7 = .ok (.ifCond .eq 11, 3) := by decide +kernel
theorem dX5_heard_10 : decode cX5_heard 10 = .ok (.aload_n 0, 1) := by decide +kernel
theorem dX5_heard_11 : decode cX5_heard 11 = .ok (.iload_n 2, 1) := by decide +kernel
theorem dX5_heard_12 : decode cX5_heard 12 = .ok (.invokevirtual 70, 3) := by decide +kernel
theorem dX5_heard_15 : decode cX5_heard 15 = .ok (.goto 11, 3) := by decide +kernel
theorem dX5_heard_18 : decode cX5_heard 18 = .ok (.aload_n 0, 1) := by decide +kernel
theorem dX5_heard_19 : decode cX5_heard 19 = .ok (.getfield 36, 3) := by decide +kernel
theorem dX5_heard_22 : decode cX5_heard 22 = .ok (.iload_n 1, 1) := by decide +kernel
theorem dX5_heard_23 : decode cX5_heard 23 = .ok (.invokevirtual 180, 3) := by decide +kernel
theorem dX5_heard_26 : decode cX5_heard 26 = .ok (.ireturn, 1) := by decide +kernel
set_option maxRecDepth 20000 in
theorem ggX5_groups_X5_other : GoodIn wsX5_groups wsX5_other := goodIn_r _ [5] (by decide +kernel) (by decide +kernel)
set_option maxRecDepth 20000 in
theorem gX5_groups_X5_other : GoodIn wsX5_groups (va_wsS RX5 93 yX5_other wsX5_other) := goodIn_app (goodIn_of _ (by decide +kernel)) ggX5_groups_X5_other
set_option maxRecDepth 20000 in
theorem ggX5_groups_X5_refuse : GoodIn wsX5_groups wsX5_refuse := goodIn_r _ [9, 10, 48, 49, 50, 51, 52, 53, 54, 55, 56] (by decide +kernel) (by decide +kernel)
set_option maxRecDepth 20000 in
theorem gX5_groups_X5_refuse : GoodIn wsX5_groups (wsV RX5 70 RX5 yX5_refuse wsX5_refuse) := goodIn_app (goodIn_of _ (by decide +kernel)) ggX5_groups_X5_refuse
set_option maxRecDepth 20000 in
theorem ggX5_groups_X0_chains : GoodIn wsX5_groups wsX0_chains := goodIn_r _ [15, 16, 17, 18, 4, 19, 20, 21, 22, 14, 23, 24, 25, 26, 27, 28, 29, 30, 31, 32, 57, 58, 59, 60, 61, 62, 63, 64, 65] (by decide +kernel) (by decide +kernel)
set_option maxRecDepth 20000 in
theorem gX5_groups_X0_chains : GoodIn wsX5_groups (wsV RX5 183 RX0 yX0_chains wsX0_chains) := goodIn_app (goodIn_of _ (by decide +kernel)) ggX5_groups_X0_chains
set_option maxRecDepth 20000 in
theorem ggX5_groups_X0_mostInAChain : GoodIn wsX5_groups wsX0_mostInAChain := goodIn_r _ [36, 16, 17, 37, 38, 39, 40, 20, 21, 22, 14, 23, 18, 4, 19, 24, 25, 26, 27, 28, 29, 30, 31, 32, 41, 42, 43, 44, 45, 46, 47, 57, 58, 59, 60, 61, 62, 63, 64, 65] (by decide +kernel) (by decide +kernel)
set_option maxRecDepth 20000 in
theorem gX5_groups_X0_mostInAChain : GoodIn wsX5_groups (wsV RX5 186 RX0 yX0_mostInAChain wsX0_mostInAChain) := goodIn_app (goodIn_of _ (by decide +kernel)) ggX5_groups_X0_mostInAChain
theorem dX5_groups_0 : decode cX5_groups 0 = .ok (.iload_n 1, 1) := by decide +kernel
theorem dX5_groups_1 : decode cX5_groups 1 = .ok (.iconst 2, 1) := by decide +kernel
theorem dX5_groups_2 : decode cX5_groups 2 = .ok (.invokestatic 93, 3) := by decide +kernel
theorem dX5_groups_5 : decode cX5_groups 5 = .ok (.istore_n 2, 1) := by decide +kernel
theorem dX5_groups_6 : decode cX5_groups 6 = .ok (.iload_n 2, 1) := by decide +kernel
theorem dX5_groups_7 : decode cX5_groups 7 = .ok (.ifCond .eq 9, 3) := by decide +kernel
theorem dX5_groups_10 : decode cX5_groups 10 = .ok (.aload_n 0, 1) := by decide +kernel
theorem dX5_groups_11 : decode cX5_groups 11 = .ok (.iload_n 2, 1) := by decide +kernel
theorem dX5_groups_12 : decode cX5_groups 12 = .ok (.invokevirtual 70, 3) := by decide +kernel
theorem dX5_groups_15 : decode cX5_groups 15 = .ok (.ireturn, 1) := by decide +kernel
theorem dX5_groups_16 : decode cX5_groups 16 = .ok (.iload_n 1, 1) := by decide +kernel
theorem dX5_groups_17 : decode cX5_groups 17 = .ok (.ifCond .ne 13, 3) := by decide +kernel
theorem dX5_groups_20 : decode cX5_groups 20 = .ok (.aload_n 0, 1) := by decide +kernel
theorem dX5_groups_21 : decode cX5_groups 21 = .ok (.getfield 36, 3) := by decide +kernel
theorem dX5_groups_24 : decode cX5_groups 24 = .ok (.invokevirtual 183, 3) := by decide +kernel
theorem dX5_groups_27 : decode cX5_groups 27 = .ok (.goto 10, 3) := by decide +kernel
theorem dX5_groups_30 : decode cX5_groups 30 = .ok (.aload_n 0, 1) := by decide +kernel
theorem dX5_groups_31 : decode cX5_groups 31 = .ok (.getfield 36, 3) := by decide +kernel
theorem dX5_groups_34 : decode cX5_groups 34 = .ok (.invokevirtual 186, 3) := by decide +kernel
theorem dX5_groups_37 : decode cX5_groups 37 = .ok (.ireturn, 1) := by decide +kernel
set_option maxRecDepth 20000 in
theorem ggX5_middle_X5_other : GoodIn wsX5_middle wsX5_other := goodIn_r _ [5] (by decide +kernel) (by decide +kernel)
set_option maxRecDepth 20000 in
theorem gX5_middle_X5_other : GoodIn wsX5_middle (va_wsS RX5 93 yX5_other wsX5_other) := goodIn_app (goodIn_of _ (by decide +kernel)) ggX5_middle_X5_other
set_option maxRecDepth 20000 in
theorem ggX5_middle_X5_refuse : GoodIn wsX5_middle wsX5_refuse := goodIn_r _ [9, 10, 26, 27, 28, 29, 30, 31, 32, 33, 34] (by decide +kernel) (by decide +kernel)
set_option maxRecDepth 20000 in
theorem gX5_middle_X5_refuse : GoodIn wsX5_middle (wsV RX5 70 RX5 yX5_refuse wsX5_refuse) := goodIn_app (goodIn_of _ (by decide +kernel)) ggX5_middle_X5_refuse
set_option maxRecDepth 20000 in
theorem ggX5_middle_X0_middleCell : GoodIn wsX5_middle wsX0_middleCell := goodIn_r _ [15, 16, 17, 18, 14, 19, 20, 21, 22, 23, 4, 24, 35, 36, 37, 38, 39, 40, 41, 42, 43] (by decide +kernel) (by decide +kernel)
set_option maxRecDepth 20000 in
theorem gX5_middle_X0_middleCell : GoodIn wsX5_middle (wsV RX5 189 RX0 yX0_middleCell wsX0_middleCell) := goodIn_app (goodIn_of _ (by decide +kernel)) ggX5_middle_X0_middleCell
set_option maxRecDepth 20000 in
theorem ggX5_middle_X0_stepsFrom : GoodIn wsX5_middle wsX0_stepsFrom := goodIn_r _ [19, 20, 21, 22, 23, 4, 24, 35, 36, 37, 38, 39, 40, 41, 42, 43] (by decide +kernel) (by decide +kernel)
set_option maxRecDepth 20000 in
theorem gX5_middle_X0_stepsFrom : GoodIn wsX5_middle (wsV RX5 192 RX0 yX0_stepsFrom wsX0_stepsFrom) := goodIn_app (goodIn_of _ (by decide +kernel)) ggX5_middle_X0_stepsFrom
theorem dX5_middle_0 : decode cX5_middle 0 = .ok (.iload_n 1, 1) := by decide +kernel
theorem dX5_middle_1 : decode cX5_middle 1 = .ok (.iconst 2, 1) := by decide +kernel
theorem dX5_middle_2 : decode cX5_middle 2 = .ok (.invokestatic 93, 3) := by decide +kernel
theorem dX5_middle_5 : decode cX5_middle 5 = .ok (.istore_n 2, 1) := by decide +kernel
theorem dX5_middle_6 : decode cX5_middle 6 = .ok (.iload_n 2, 1) := by decide +kernel
theorem dX5_middle_7 : decode cX5_middle 7 = .ok (.ifCond .eq 9, 3) := by decide +kernel
theorem dX5_middle_10 : decode cX5_middle 10 = .ok (.aload_n 0, 1) := by decide +kernel
theorem dX5_middle_11 : decode cX5_middle 11 = .ok (.iload_n 2, 1) := by decide +kernel
theorem dX5_middle_12 : decode cX5_middle 12 = .ok (.invokevirtual 70, 3) := by decide +kernel
theorem dX5_middle_15 : decode cX5_middle 15 = .ok (.ireturn, 1) := by decide +kernel
theorem dX5_middle_16 : decode cX5_middle 16 = .ok (.aload_n 0, 1) := by decide +kernel
theorem dX5_middle_17 : decode cX5_middle 17 = .ok (.getfield 36, 3) := by decide +kernel
theorem dX5_middle_20 : decode cX5_middle 20 = .ok (.invokevirtual 189, 3) := by decide +kernel
theorem dX5_middle_23 : decode cX5_middle 23 = .ok (.istore_n 3, 1) := by decide +kernel
theorem dX5_middle_24 : decode cX5_middle 24 = .ok (.iload_n 1, 1) := by decide +kernel
theorem dX5_middle_25 : decode cX5_middle 25 = .ok (.ifCond .ne 7, 3) := by decide +kernel
theorem dX5_middle_28 : decode cX5_middle 28 = .ok (.iload_n 3, 1) := by decide +kernel
theorem dX5_middle_29 : decode cX5_middle 29 = .ok (.goto 11, 3) := by decide +kernel
theorem dX5_middle_32 : decode cX5_middle 32 = .ok (.aload_n 0, 1) := by decide +kernel
theorem dX5_middle_33 : decode cX5_middle 33 = .ok (.getfield 36, 3) := by decide +kernel
theorem dX5_middle_36 : decode cX5_middle 36 = .ok (.iload_n 3, 1) := by decide +kernel
theorem dX5_middle_37 : decode cX5_middle 37 = .ok (.invokevirtual 192, 3) := by decide +kernel
theorem dX5_middle_40 : decode cX5_middle 40 = .ok (.ireturn, 1) := by decide +kernel
set_option maxRecDepth 20000 in
theorem ggX5_wind_X5_other : GoodIn wsX5_wind wsX5_other := goodIn_r _ [6] (by decide +kernel) (by decide +kernel)
set_option maxRecDepth 20000 in
theorem gX5_wind_X5_other : GoodIn wsX5_wind (va_wsS RX5 93 yX5_other wsX5_other) := goodIn_app (goodIn_of _ (by decide +kernel)) ggX5_wind_X5_other
set_option maxRecDepth 20000 in
theorem ggX5_wind_X5_refuse : GoodIn wsX5_wind wsX5_refuse := goodIn_r _ [10, 11, 120, 121, 122, 123, 124, 125, 126, 127, 128] (by decide +kernel) (by decide +kernel)
set_option maxRecDepth 20000 in
theorem gX5_wind_X5_refuse : GoodIn wsX5_wind (wsV RX5 70 RX5 yX5_refuse wsX5_refuse) := goodIn_app (goodIn_of _ (by decide +kernel)) ggX5_wind_X5_refuse
set_option maxRecDepth 20000 in
theorem ggX5_wind_X1_windsToAll : GoodIn wsX5_wind wsX1_windsToAll := goodIn_r _ [16, 17, 18, 19, 15, 20, 21, 22, 23, 24, 25, 26, 27, 28, 29, 30, 31, 32, 33, 34, 35, 36, 37, 38, 39, 40, 41, 42, 43, 5, 44, 45, 46, 47, 48, 49, 50, 51, 52, 53, 54, 55, 56, 57, 58, 59, 60, 61, 62, 63, 64, 65, 66, 67, 68, 69, 70, 71, 72, 73, 74, 75, 76, 77, 78, 79, 80, 81, 82, 83, 84, 85, 86, 87, 88, 89, 90, 91, 92, 93, 94, 95, 96, 97, 98, 99, 100, 101, 102, 103, 104, 105, 106, 107, 108, 109, 110, 111, 112, 129, 130, 131, 132, 133, 134, 135, 136, 137, 138] (by decide +kernel) (by decide +kernel)
set_option maxRecDepth 20000 in
theorem gX5_wind_X1_windsToAll : GoodIn wsX5_wind (wsV RX5 197 RX1 yX1_windsToAll wsX1_windsToAll) := goodIn_app (goodIn_of _ (by decide +kernel)) ggX5_wind_X1_windsToAll
set_option maxRecDepth 20000 in
theorem ggX5_wind_X1_power : GoodIn wsX5_wind wsX1_power := goodIn_r _ [112] (by decide +kernel) (by decide +kernel)
set_option maxRecDepth 20000 in
theorem gX5_wind_X1_power : GoodIn wsX5_wind (va_wsS RX5 201 yX1_power wsX1_power) := goodIn_app (goodIn_of _ (by decide +kernel)) ggX5_wind_X1_power
set_option maxRecDepth 20000 in
theorem ggX5_wind_X5_partOf : GoodIn wsX5_wind wsX5_partOf := goodIn_r _ [116, 117, 118, 5, 119] (by decide +kernel) (by decide +kernel)
set_option maxRecDepth 20000 in
theorem gX5_wind_X5_partOf : GoodIn wsX5_wind (va_wsS RX5 204 yX5_partOf wsX5_partOf) := goodIn_app (goodIn_of _ (by decide +kernel)) ggX5_wind_X5_partOf
theorem dX5_wind_0 : decode cX5_wind 0 = .ok (.iconst 0, 1) := by decide +kernel
theorem dX5_wind_1 : decode cX5_wind 1 = .ok (.istore 4, 2) := by decide +kernel
theorem dX5_wind_3 : decode cX5_wind 3 = .ok (.iload_n 1, 1) := by decide +kernel
theorem dX5_wind_4 : decode cX5_wind 4 = .ok (.ifCond .lt 8, 3) := by decide +kernel
theorem dX5_wind_7 : decode cX5_wind 7 = .ok (.iload_n 2, 1) := by decide +kernel
theorem dX5_wind_8 : decode cX5_wind 8 = .ok (.iconst 2, 1) := by decide +kernel
theorem dX5_wind_9 : decode cX5_wind 9 = .ok (.if_icmp .ge 10, 3) := by decide +kernel
theorem dX5_wind_12 : decode cX5_wind 12 = .ok (.bipush (-4), 2) := by decide +kernel
theorem dX5_wind_14 : decode cX5_wind 14 = .ok (.istore 4, 2) := by decide +kernel
theorem dX5_wind_16 : decode cX5_wind 16 = .ok (.goto 29, 3) := by decide +kernel
theorem dX5_wind_19 : decode cX5_wind 19 = .ok (.iload_n 1, 1) := by decide +kernel
theorem dX5_wind_20 : decode cX5_wind 20 = .ok (.bipush 7, 2) := by decide +kernel
theorem dX5_wind_22 : decode cX5_wind 22 = .ok (.if_icmp .gt 9, 3) := by decide +kernel
theorem dX5_wind_25 : decode cX5_wind 25 = .ok (.iload_n 2, 1) := by decide +kernel
theorem dX5_wind_26 : decode cX5_wind 26 = .ok (.bipush 20, 2) := by decide +kernel
theorem dX5_wind_28 : decode cX5_wind 28 = .ok (.if_icmp .le 10, 3) := by decide +kernel
theorem dX5_wind_31 : decode cX5_wind 31 = .ok (.bipush (-6), 2) := by decide +kernel
theorem dX5_wind_33 : decode cX5_wind 33 = .ok (.istore 4, 2) := by decide +kernel
theorem dX5_wind_35 : decode cX5_wind 35 = .ok (.goto 10, 3) := by decide +kernel
theorem dX5_wind_38 : decode cX5_wind 38 = .ok (.iload_n 3, 1) := by decide +kernel
theorem dX5_wind_39 : decode cX5_wind 39 = .ok (.iconst 2, 1) := by decide +kernel
theorem dX5_wind_40 : decode cX5_wind 40 = .ok (.invokestatic 93, 3) := by decide +kernel
theorem dX5_wind_43 : decode cX5_wind 43 = .ok (.istore 4, 2) := by decide +kernel
theorem dX5_wind_45 : decode cX5_wind 45 = .ok (.iload 4, 2) := by decide +kernel
theorem dX5_wind_47 : decode cX5_wind 47 = .ok (.ifCond .eq 15, 3) := by decide +kernel
theorem dX5_wind_50 : decode cX5_wind 50 = .ok (.ldc2_w 195, 3) := by decide +kernel
theorem dX5_wind_53 : decode cX5_wind 53 = .ok (.aload_n 0, 1) := by decide +kernel
theorem dX5_wind_54 : decode cX5_wind 54 = .ok (.iload 4, 2) := by decide +kernel
theorem dX5_wind_56 : decode cX5_wind 56 = .ok (.invokevirtual 70, 3) := by decide +kernel
theorem dX5_wind_59 : decode cX5_wind 59 = .ok (.i2l, 1) := by decide +kernel
theorem dX5_wind_60 : decode cX5_wind 60 = .ok (.lsub, 1) := by decide +kernel
theorem dX5_wind_61 : decode cX5_wind 61 = .ok (.lreturn, 1) := by decide +kernel
theorem dX5_wind_62 : decode cX5_wind 62 = .ok (.aload_n 0, 1) := by decide +kernel
theorem dX5_wind_63 : decode cX5_wind 63 = .ok (.getfield 27, 3) := by decide +kernel
theorem dX5_wind_66 : decode cX5_wind 66 = .ok (.iload_n 1, 1) := by decide +kernel
theorem dX5_wind_67 : decode cX5_wind 67 = .ok (.iload_n 2, 1) := by decide +kernel
theorem dX5_wind_68 : decode cX5_wind 68 = .ok (.invokevirtual 197, 3) := by decide +kernel
theorem dX5_wind_71 : decode cX5_wind 71 = .ok (.iload_n 2, 1) := by decide +kernel
theorem dX5_wind_72 : decode cX5_wind 72 = .ok (.iload_n 1, 1) := by decide +kernel
theorem dX5_wind_73 : decode cX5_wind 73 = .ok (.invokestatic 201, 3) := by decide +kernel
theorem dX5_wind_76 : decode cX5_wind 76 = .ok (.iload_n 3, 1) := by decide +kernel
theorem dX5_wind_77 : decode cX5_wind 77 = .ok (.invokestatic 204, 3) := by decide +kernel
theorem dX5_wind_80 : decode cX5_wind 80 = .ok (.lreturn, 1) := by decide +kernel
set_option maxRecDepth 20000 in
theorem ggX5_mean_X5_other : GoodIn wsX5_mean wsX5_other := goodIn_r _ [7] (by decide +kernel) (by decide +kernel)
set_option maxRecDepth 20000 in
theorem gX5_mean_X5_other : GoodIn wsX5_mean (va_wsS RX5 93 yX5_other wsX5_other) := goodIn_app (goodIn_of _ (by decide +kernel)) ggX5_mean_X5_other
set_option maxRecDepth 20000 in
theorem ggX5_mean_X5_refuse : GoodIn wsX5_mean wsX5_refuse := goodIn_r _ [11, 12, 26, 27, 28, 29, 30, 31, 32, 33, 34] (by decide +kernel) (by decide +kernel)
set_option maxRecDepth 20000 in
theorem gX5_mean_X5_refuse : GoodIn wsX5_mean (wsV RX5 70 RX5 yX5_refuse wsX5_refuse) := goodIn_app (goodIn_of _ (by decide +kernel)) ggX5_mean_X5_refuse
set_option maxRecDepth 20000 in
theorem ggX5_mean_X3_allBelief : GoodIn wsX5_mean wsX3_allBelief := goodIn_r _ [17, 18, 19, 35, 36, 37, 38, 39, 40, 41, 42] (by decide +kernel) (by decide +kernel)
set_option maxRecDepth 20000 in
theorem gX5_mean_X3_allBelief : GoodIn wsX5_mean (wsV RX5 208 RX3 yX3_allBelief wsX3_allBelief) := goodIn_app (goodIn_of _ (by decide +kernel)) ggX5_mean_X3_allBelief
set_option maxRecDepth 20000 in
theorem ggX5_mean_X5_partOf : GoodIn wsX5_mean wsX5_partOf := goodIn_r _ [22, 23, 24, 6, 25] (by decide +kernel) (by decide +kernel)
set_option maxRecDepth 20000 in
theorem gX5_mean_X5_partOf : GoodIn wsX5_mean (va_wsS RX5 204 yX5_partOf wsX5_partOf) := goodIn_app (goodIn_of _ (by decide +kernel)) ggX5_mean_X5_partOf
theorem dX5_mean_0 : decode cX5_mean 0 = .ok (.iload_n 1, 1) := by decide +kernel
theorem dX5_mean_1 : decode cX5_mean 1 = .ok (.iconst 2, 1) := by decide +kernel
theorem dX5_mean_2 : decode cX5_mean 2 = .ok (.invokestatic 93, 3) := by decide +kernel
theorem dX5_mean_5 : decode cX5_mean 5 = .ok (.istore_n 2, 1) := by decide +kernel
theorem dX5_mean_6 : decode cX5_mean 6 = .ok (.iload_n 2, 1) := by decide +kernel
theorem dX5_mean_7 : decode cX5_mean 7 = .ok (.ifCond .eq 16, 3) := by decide +kernel
theorem dX5_mean_10 : decode cX5_mean 10 = .ok (.ldc2_w 195, 3) := by decide +kernel
theorem dX5_mean_13 : decode cX5_mean 13 = .ok (.aload_n 0, 1) := by decide +kernel
theorem dX5_mean_14 : decode cX5_mean 14 = .ok (.iload_n 2, 1) := by decide +kernel
theorem dX5_mean_15 : decode cX5_mean 15 = .ok (.invokevirtual 70, 3) := by decide +kernel
theorem dX5_mean_18 : decode cX5_mean 18 = .ok (.i2l, 1) := by decide +kernel
theorem dX5_mean_19 : decode cX5_mean 19 = .ok (.lsub, 1) := by decide +kernel
theorem dX5_mean_20 : decode cX5_mean 20 = .ok (.goto 23, 3) := by decide +kernel
theorem dX5_mean_23 : decode cX5_mean 23 = .ok (.aload_n 0, 1) := by decide +kernel
theorem dX5_mean_24 : decode cX5_mean 24 = .ok (.getfield 12, 3) := by decide +kernel
theorem dX5_mean_27 : decode cX5_mean 27 = .ok (.invokevirtual 208, 3) := by decide +kernel
theorem dX5_mean_30 : decode cX5_mean 30 = .ok (.i2l, 1) := by decide +kernel
theorem dX5_mean_31 : decode cX5_mean 31 = .ok (.aload_n 0, 1) := by decide +kernel
theorem dX5_mean_32 : decode cX5_mean 32 = .ok (.getfield 12, 3) := by decide +kernel
theorem dX5_mean_35 : decode cX5_mean 35 = .ok (.getfield 211, 3) := by decide +kernel
theorem dX5_mean_38 : decode cX5_mean 38 = .ok (.i2l, 1) := by decide +kernel
theorem dX5_mean_39 : decode cX5_mean 39 = .ok (.iload_n 1, 1) := by decide +kernel
theorem dX5_mean_40 : decode cX5_mean 40 = .ok (.invokestatic 204, 3) := by decide +kernel
theorem dX5_mean_43 : decode cX5_mean 43 = .ok (.lreturn, 1) := by decide +kernel
set_option maxRecDepth 20000 in
theorem ggX5_two_X5_noPerson : GoodIn wsX5_two wsX5_noPerson := goodIn_r _ [6, 7, 8, 115, 116, 117, 118, 119, 120, 121, 122, 123, 124, 125, 126, 127, 128, 129, 130, 131] (by decide +kernel) (by decide +kernel)
set_option maxRecDepth 20000 in
theorem gX5_two_X5_noPerson : GoodIn wsX5_two (wsV RX5 90 RX5 yX5_noPerson wsX5_noPerson) := goodIn_app (goodIn_of _ (by decide +kernel)) ggX5_two_X5_noPerson
set_option maxRecDepth 20000 in
theorem ggX5_two_X5_firstOf : GoodIn wsX5_two wsX5_firstOf := goodIn_r _ [11] (by decide +kernel) (by decide +kernel)
set_option maxRecDepth 20000 in
theorem gX5_two_X5_firstOf : GoodIn wsX5_two (va_wsS RX5 97 yX5_firstOf wsX5_firstOf) := goodIn_app (goodIn_of _ (by decide +kernel)) ggX5_two_X5_firstOf
set_option maxRecDepth 20000 in
theorem ggX5_two_X5_range : GoodIn wsX5_two wsX5_range := goodIn_r _ [14] (by decide +kernel) (by decide +kernel)
set_option maxRecDepth 20000 in
theorem gX5_two_X5_range : GoodIn wsX5_two (va_wsS RX5 62 yX5_range wsX5_range) := goodIn_app (goodIn_of _ (by decide +kernel)) ggX5_two_X5_range
set_option maxRecDepth 20000 in
theorem ggX5_two_X5_refuse : GoodIn wsX5_two wsX5_refuse := goodIn_r _ [18, 19, 115, 116, 117, 118, 119, 120, 121, 122, 123] (by decide +kernel) (by decide +kernel)
set_option maxRecDepth 20000 in
theorem gX5_two_X5_refuse : GoodIn wsX5_two (wsV RX5 70 RX5 yX5_refuse wsX5_refuse) := goodIn_app (goodIn_of _ (by decide +kernel)) ggX5_two_X5_refuse
set_option maxRecDepth 20000 in
theorem ggX5_two_X1_firstStillPair : GoodIn wsX5_two wsX1_firstStillPair := goodIn_r _ [24, 25, 26, 27, 23, 28, 29, 30, 31, 32, 33, 34, 35, 36, 37, 38, 39, 40, 41, 42, 43, 44, 45, 46, 47, 48, 49, 50, 51, 52, 53, 54, 55, 56, 57, 58, 59, 60, 61, 62, 63, 64, 65, 66, 67, 68, 69, 70, 71, 72, 73, 74, 75, 76, 5, 77, 78, 79, 80, 81, 82, 83, 84, 85, 86, 87, 88, 89, 90, 91, 92, 93, 94, 95, 96, 97, 98, 99, 100, 101, 102, 103, 104, 105, 106, 107, 108, 109, 110, 111, 112, 113, 114, 132, 133, 124, 125, 126, 127, 128, 129, 130, 131] (by decide +kernel) (by decide +kernel)
set_option maxRecDepth 20000 in
theorem gX5_two_X1_firstStillPair : GoodIn wsX5_two (wsV RX5 214 RX1 yX1_firstStillPair wsX1_firstStillPair) := goodIn_app (goodIn_of _ (by decide +kernel)) ggX5_two_X1_firstStillPair
theorem dX5_two_0 : decode cX5_two 0 = .ok (.aload_n 0, 1) := by decide +kernel
theorem dX5_two_1 : decode cX5_two 1 = .ok (.iload_n 1, 1) := by decide +kernel
theorem dX5_two_2 : decode cX5_two 2 = .ok (.invokevirtual 90, 3) := by decide +kernel
theorem dX5_two_5 : decode cX5_two 5 = .ok (.aload_n 0, 1) := by decide +kernel
theorem dX5_two_6 : decode cX5_two 6 = .ok (.iload_n 2, 1) := by decide +kernel
theorem dX5_two_7 : decode cX5_two 7 = .ok (.invokevirtual 90, 3) := by decide +kernel
theorem dX5_two_10 : decode cX5_two 10 = .ok (.iload_n 1, 1) := by decide +kernel
theorem dX5_two_11 : decode cX5_two 11 = .ok (.iload_n 2, 1) := by decide +kernel
theorem dX5_two_12 : decode cX5_two 12 = .ok (.if_icmp .ne 7, 3) := by decide +kernel
theorem dX5_two_15 : decode cX5_two 15 = .ok (.iconst (-1), 1) := by decide +kernel
theorem dX5_two_16 : decode cX5_two 16 = .ok (.goto 4, 3) := by decide +kernel
theorem dX5_two_19 : decode cX5_two 19 = .ok (.iconst 0, 1) := by decide +kernel
theorem dX5_two_20 : decode cX5_two 20 = .ok (.invokestatic 97, 3) := by decide +kernel
theorem dX5_two_23 : decode cX5_two 23 = .ok (.istore 4, 2) := by decide +kernel
theorem dX5_two_25 : decode cX5_two 25 = .ok (.iload 4, 2) := by decide +kernel
theorem dX5_two_27 : decode cX5_two 27 = .ok (.ifCond .ne 12, 3) := by decide +kernel
theorem dX5_two_30 : decode cX5_two 30 = .ok (.iload_n 3, 1) := by decide +kernel
theorem dX5_two_31 : decode cX5_two 31 = .ok (.iconst 0, 1) := by decide +kernel
theorem dX5_two_32 : decode cX5_two 32 = .ok (.bipush 60, 2) := by decide +kernel
theorem dX5_two_34 : decode cX5_two 34 = .ok (.invokestatic 62, 3) := by decide +kernel
theorem dX5_two_37 : decode cX5_two 37 = .ok (.istore 4, 2) := by decide +kernel
theorem dX5_two_39 : decode cX5_two 39 = .ok (.iload 4, 2) := by decide +kernel
theorem dX5_two_41 : decode cX5_two 41 = .ok (.ifCond .eq 12, 3) := by decide +kernel
theorem dX5_two_44 : decode cX5_two 44 = .ok (.aload_n 0, 1) := by decide +kernel
theorem dX5_two_45 : decode cX5_two 45 = .ok (.iload 4, 2) := by decide +kernel
theorem dX5_two_47 : decode cX5_two 47 = .ok (.invokevirtual 70, 3) := by decide +kernel
theorem dX5_two_50 : decode cX5_two 50 = .ok (.goto 13, 3) := by decide +kernel
theorem dX5_two_53 : decode cX5_two 53 = .ok (.aload_n 0, 1) := by decide +kernel
theorem dX5_two_54 : decode cX5_two 54 = .ok (.getfield 27, 3) := by decide +kernel
theorem dX5_two_57 : decode cX5_two 57 = .ok (.iload_n 1, 1) := by decide +kernel
theorem dX5_two_58 : decode cX5_two 58 = .ok (.iload_n 2, 1) := by decide +kernel
theorem dX5_two_59 : decode cX5_two 59 = .ok (.iload_n 3, 1) := by decide +kernel
theorem dX5_two_60 : decode cX5_two 60 = .ok (.invokevirtual 214, 3) := by decide +kernel
theorem dX5_two_63 : decode cX5_two 63 = .ok (.ireturn, 1) := by decide +kernel
set_option maxRecDepth 20000 in
theorem ggX5_whatIs_X5_noPerson : GoodIn wsX5_whatIs wsX5_noPerson := goodIn_r _ [7, 8, 9, 106, 107, 108, 109, 110, 111, 112, 113, 114, 115, 116, 117, 118, 119, 120, 121, 122] (by decide +kernel) (by decide +kernel)
set_option maxRecDepth 20000 in
theorem gX5_whatIs_X5_noPerson : GoodIn wsX5_whatIs (wsV RX5 90 RX5 yX5_noPerson wsX5_noPerson) := goodIn_app (goodIn_of _ (by decide +kernel)) ggX5_whatIs_X5_noPerson
set_option maxRecDepth 20000 in
theorem ggX5_whatIs_X5_other : GoodIn wsX5_whatIs wsX5_other := goodIn_r _ [12] (by decide +kernel) (by decide +kernel)
set_option maxRecDepth 20000 in
theorem gX5_whatIs_X5_other : GoodIn wsX5_whatIs (va_wsS RX5 93 yX5_other wsX5_other) := goodIn_app (goodIn_of _ (by decide +kernel)) ggX5_whatIs_X5_other
set_option maxRecDepth 20000 in
theorem ggX5_whatIs_X5_firstOf : GoodIn wsX5_whatIs wsX5_firstOf := goodIn_r _ [15] (by decide +kernel) (by decide +kernel)
set_option maxRecDepth 20000 in
theorem gX5_whatIs_X5_firstOf : GoodIn wsX5_whatIs (va_wsS RX5 97 yX5_firstOf wsX5_firstOf) := goodIn_app (goodIn_of _ (by decide +kernel)) ggX5_whatIs_X5_firstOf
set_option maxRecDepth 20000 in
theorem ggX5_whatIs_X5_refuse : GoodIn wsX5_whatIs wsX5_refuse := goodIn_r _ [19, 20, 106, 107, 108, 109, 110, 111, 112, 113, 114] (by decide +kernel) (by decide +kernel)
set_option maxRecDepth 20000 in
theorem gX5_whatIs_X5_refuse : GoodIn wsX5_whatIs (wsV RX5 70 RX5 yX5_refuse wsX5_refuse) := goodIn_app (goodIn_of _ (by decide +kernel)) ggX5_whatIs_X5_refuse
set_option maxRecDepth 20000 in
theorem ggX5_whatIs_X1_kindsBy : GoodIn wsX5_whatIs wsX1_kindsBy := goodIn_r _ [25, 26, 27, 28, 29, 24, 30, 31, 32, 33, 34, 35, 36, 37, 38, 39, 40, 41, 42, 43, 44, 45, 46, 47, 48, 49, 50, 51, 52, 53, 54, 55, 56, 57, 58, 59, 60, 61, 62, 63, 64, 65, 66, 67, 68, 69, 70, 71, 72, 73, 74, 75, 76, 6, 77, 78, 79, 80, 81, 82, 83, 84, 85, 86, 87, 88, 89, 90, 91, 92, 93, 94, 95, 96, 97, 98, 99, 100, 115, 116, 117, 118, 119, 120, 121, 122, 123, 124, 125, 126] (by decide +kernel) (by decide +kernel)
set_option maxRecDepth 20000 in
theorem gX5_whatIs_X1_kindsBy : GoodIn wsX5_whatIs (wsV RX5 217 RX1 yX1_kindsBy wsX1_kindsBy) := goodIn_app (goodIn_of _ (by decide +kernel)) ggX5_whatIs_X1_kindsBy
set_option maxRecDepth 20000 in
theorem ggX5_whatIs_X1_figuresBy : GoodIn wsX5_whatIs wsX1_figuresBy := goodIn_r _ [104, 105, 27, 28, 29, 24, 30, 31, 32, 33, 34, 35, 36, 37, 38, 39, 40, 41, 42, 43, 44, 45, 46, 47, 48, 49, 50, 51, 52, 53, 54, 55, 56, 57, 58, 59, 60, 61, 62, 63, 64, 65, 66, 67, 68, 69, 70, 71, 72, 73, 74, 75, 76, 6, 77, 78, 79, 80, 81, 82, 83, 84, 85, 86, 87, 88, 89, 90, 91, 92, 93, 94, 95, 96, 97, 98, 99, 100, 115, 116, 117, 118, 119, 120, 121, 122, 123, 124, 125, 126] (by decide +kernel) (by decide +kernel)
set_option maxRecDepth 20000 in
theorem gX5_whatIs_X1_figuresBy : GoodIn wsX5_whatIs (wsV RX5 221 RX1 yX1_figuresBy wsX1_figuresBy) := goodIn_app (goodIn_of _ (by decide +kernel)) ggX5_whatIs_X1_figuresBy
theorem dX5_whatIs_0 : decode cX5_whatIs 0 = .ok (.aload_n 0, 1) := by decide +kernel
theorem dX5_whatIs_1 : decode cX5_whatIs 1 = .ok (.iload_n 1, 1) := by decide +kernel
theorem dX5_whatIs_2 : decode cX5_whatIs 2 = .ok (.invokevirtual 90, 3) := by decide +kernel
theorem dX5_whatIs_5 : decode cX5_whatIs 5 = .ok (.iload_n 2, 1) := by decide +kernel
theorem dX5_whatIs_6 : decode cX5_whatIs 6 = .ok (.iconst 2, 1) := by decide +kernel
theorem dX5_whatIs_7 : decode cX5_whatIs 7 = .ok (.invokestatic 93, 3) := by decide +kernel
theorem dX5_whatIs_10 : decode cX5_whatIs 10 = .ok (.iconst 0, 1) := by decide +kernel
theorem dX5_whatIs_11 : decode cX5_whatIs 11 = .ok (.invokestatic 97, 3) := by decide +kernel
theorem dX5_whatIs_14 : decode cX5_whatIs 14 = .ok (.istore_n 3, 1) := by decide +kernel
theorem dX5_whatIs_15 : decode cX5_whatIs 15 = .ok (.iload_n 3, 1) := by decide +kernel
theorem dX5_whatIs_16 : decode cX5_whatIs 16 = .ok (.ifCond .eq 9, 3) := by decide +kernel
theorem dX5_whatIs_19 : decode cX5_whatIs 19 = .ok (.aload_n 0, 1) := by decide +kernel
theorem dX5_whatIs_20 : decode cX5_whatIs 20 = .ok (.iload_n 3, 1) := by decide +kernel
theorem dX5_whatIs_21 : decode cX5_whatIs 21 = .ok (.invokevirtual 70, 3) := by decide +kernel
theorem dX5_whatIs_24 : decode cX5_whatIs 24 = .ok (.ireturn, 1) := by decide +kernel
theorem dX5_whatIs_25 : decode cX5_whatIs 25 = .ok (.iload_n 2, 1) := by decide +kernel
theorem dX5_whatIs_26 : decode cX5_whatIs 26 = .ok (.ifCond .ne 18, 3) := by decide +kernel
theorem dX5_whatIs_29 : decode cX5_whatIs 29 = .ok (.aload_n 0, 1) := by decide +kernel
theorem dX5_whatIs_30 : decode cX5_whatIs 30 = .ok (.getfield 27, 3) := by decide +kernel
theorem dX5_whatIs_33 : decode cX5_whatIs 33 = .ok (.aload_n 0, 1) := by decide +kernel
theorem dX5_whatIs_34 : decode cX5_whatIs 34 = .ok (.getfield 50, 3) := by decide +kernel
theorem dX5_whatIs_37 : decode cX5_whatIs 37 = .ok (.iload_n 1, 1) := by decide +kernel
theorem dX5_whatIs_38 : decode cX5_whatIs 38 = .ok (.invokevirtual 217, 3) := by decide +kernel
theorem dX5_whatIs_41 : decode cX5_whatIs 41 = .ok (.goto 15, 3) := by decide +kernel
theorem dX5_whatIs_44 : decode cX5_whatIs 44 = .ok (.aload_n 0, 1) := by decide +kernel
theorem dX5_whatIs_45 : decode cX5_whatIs 45 = .ok (.getfield 27, 3) := by decide +kernel
theorem dX5_whatIs_48 : decode cX5_whatIs 48 = .ok (.aload_n 0, 1) := by decide +kernel
theorem dX5_whatIs_49 : decode cX5_whatIs 49 = .ok (.getfield 50, 3) := by decide +kernel
theorem dX5_whatIs_52 : decode cX5_whatIs 52 = .ok (.iload_n 1, 1) := by decide +kernel
theorem dX5_whatIs_53 : decode cX5_whatIs 53 = .ok (.invokevirtual 221, 3) := by decide +kernel
theorem dX5_whatIs_56 : decode cX5_whatIs 56 = .ok (.ireturn, 1) := by decide +kernel
set_option maxRecDepth 20000 in
theorem ggX5_who_X1_missingBy : GoodIn wsX5_who wsX1_missingBy := goodIn_r _ [7, 8, 9, 10, 11, 12, 6, 13, 14, 15, 16, 17, 18, 19, 20, 21, 22, 23, 24, 25, 26, 27, 28, 29, 30, 31, 32, 33, 34, 35, 36, 37, 38, 39, 40, 41, 42, 43, 44, 45, 46, 47, 48, 49, 50, 51, 52, 53, 54, 55, 56, 57, 58, 59, 60, 61, 62, 63, 64, 65, 66, 67, 68, 69, 70, 71, 72, 73, 74, 75, 76, 77, 78, 79, 80, 81, 82, 83, 84, 85, 86, 87, 88, 89, 90, 91, 92, 93, 94, 95, 96, 97, 98, 99, 100, 101, 102, 112, 113, 114, 115, 116, 117, 118, 119, 120, 121, 122, 123] (by decide +kernel) (by decide +kernel)
set_option maxRecDepth 20000 in
theorem gX5_who_X1_missingBy : GoodIn wsX5_who (wsV RX5 224 RX1 yX1_missingBy wsX1_missingBy) := goodIn_app (goodIn_of _ (by decide +kernel)) ggX5_who_X1_missingBy
theorem dX5_who_0 : decode cX5_who 0 = .ok (.aload_n 0, 1) := by decide +kernel
theorem dX5_who_1 : decode cX5_who 1 = .ok (.getfield 27, 3) := by decide +kernel
theorem dX5_who_4 : decode cX5_who 4 = .ok (.aload_n 0, 1) := by decide +kernel
theorem dX5_who_5 : decode cX5_who 5 = .ok (.getfield 50, 3) := by decide +kernel
theorem dX5_who_8 : decode cX5_who 8 = .ok (.invokevirtual 224, 3) := by decide +kernel
theorem dX5_who_11 : decode cX5_who 11 = .ok (.ireturn, 1) := by decide +kernel
set_option maxRecDepth 20000 in
theorem ggX5_row_X5_range : GoodIn wsX5_row wsX5_range := goodIn_r _ [5] (by decide +kernel) (by decide +kernel)
set_option maxRecDepth 20000 in
theorem gX5_row_X5_range : GoodIn wsX5_row (va_wsS RX5 62 yX5_range wsX5_range) := goodIn_app (goodIn_of _ (by decide +kernel)) ggX5_row_X5_range
set_option maxRecDepth 20000 in
theorem ggX5_row_X2_isFull : GoodIn wsX5_row wsX2_isFull := goodIn_r _ [10, 11, 32, 33] (by decide +kernel) (by decide +kernel)
set_option maxRecDepth 20000 in
theorem gX5_row_X2_isFull : GoodIn wsX5_row (wsV RX5 228 RX2 yX2_isFull wsX2_isFull) := goodIn_app (goodIn_of _ (by decide +kernel)) ggX5_row_X2_isFull
set_option maxRecDepth 20000 in
theorem ggX5_row_X5_refuse : GoodIn wsX5_row wsX5_refuse := goodIn_r _ [15, 16, 23, 24, 25, 26, 27, 28, 29, 30, 31] (by decide +kernel) (by decide +kernel)
set_option maxRecDepth 20000 in
theorem gX5_row_X5_refuse : GoodIn wsX5_row (wsV RX5 70 RX5 yX5_refuse wsX5_refuse) := goodIn_app (goodIn_of _ (by decide +kernel)) ggX5_row_X5_refuse
set_option maxRecDepth 20000 in
theorem ggX5_row_X2_append : GoodIn wsX5_row wsX2_append := goodIn_r _ [20, 21, 11, 22, 7, 8, 9, 10, 32, 33] (by decide +kernel) (by decide +kernel)
set_option maxRecDepth 20000 in
theorem gX5_row_X2_append : GoodIn wsX5_row (wsV RX5 229 RX2 yX2_append wsX2_append) := goodIn_app (goodIn_of _ (by decide +kernel)) ggX5_row_X2_append
theorem dX5_row_0 : decode cX5_row 0 = .ok (.iload_n 1, 1) := by decide +kernel
theorem dX5_row_1 : decode cX5_row 1 = .ok (.iconst 0, 1) := by decide +kernel
theorem dX5_row_2 : decode cX5_row 2 = .ok (.bipush 99, 2) := by decide +kernel
theorem dX5_row_4 : decode cX5_row 4 = .ok (.invokestatic 62, 3) := by decide +kernel
theorem dX5_row_7 : decode cX5_row 7 = .ok (.istore_n 2, 1) := by decide +kernel
theorem dX5_row_8 : decode cX5_row 8 = .ok (.iload_n 2, 1) := by decide +kernel
theorem dX5_row_9 : decode cX5_row 9 = .ok (.ifCond .ne 16, 3) := by decide +kernel
theorem dX5_row_12 : decode cX5_row 12 = .ok (.aload_n 0, 1) := by decide +kernel
theorem dX5_row_13 : decode cX5_row 13 = .ok (.getfield 50, 3) := by decide +kernel
theorem dX5_row_16 : decode cX5_row 16 = .ok (.invokevirtual 228, 3) := by decide +kernel
theorem dX5_row_19 : decode cX5_row 19 = .ok (.ifCond .eq 6, 3) := by decide +kernel
theorem dX5_row_22 : decode cX5_row 22 = .ok (.bipush (-6), 2) := by decide +kernel
theorem dX5_row_24 : decode cX5_row 24 = .ok (.istore_n 2, 1) := by decide +kernel
theorem dX5_row_25 : decode cX5_row 25 = .ok (.iload_n 2, 1) := by decide +kernel
theorem dX5_row_26 : decode cX5_row 26 = .ok (.ifCond .eq 11, 3) := by decide +kernel
theorem dX5_row_29 : decode cX5_row 29 = .ok (.aload_n 0, 1) := by decide +kernel
theorem dX5_row_30 : decode cX5_row 30 = .ok (.iload_n 2, 1) := by decide +kernel
theorem dX5_row_31 : decode cX5_row 31 = .ok (.invokevirtual 70, 3) := by decide +kernel
theorem dX5_row_34 : decode cX5_row 34 = .ok (.goto 11, 3) := by decide +kernel
theorem dX5_row_37 : decode cX5_row 37 = .ok (.aload_n 0, 1) := by decide +kernel
theorem dX5_row_38 : decode cX5_row 38 = .ok (.getfield 50, 3) := by decide +kernel
theorem dX5_row_41 : decode cX5_row 41 = .ok (.iload_n 1, 1) := by decide +kernel
theorem dX5_row_42 : decode cX5_row 42 = .ok (.invokevirtual 229, 3) := by decide +kernel
theorem dX5_row_45 : decode cX5_row 45 = .ok (.ireturn, 1) := by decide +kernel
set_option maxRecDepth 20000 in
theorem ggX5_judge_X1_firstWrongPlace : GoodIn wsX5_judge wsX1_firstWrongPlace := goodIn_r _ [7, 8, 9, 10, 11, 12, 13, 6, 14, 15, 16, 17, 18, 19, 20, 21, 22, 23, 24, 25, 26, 27, 28, 29, 30, 31, 32, 33, 34, 35, 36, 37, 38, 39, 40, 41, 42, 43, 44, 45, 46, 47, 48, 49, 50, 51, 52, 53, 54, 55, 56, 57, 58, 59, 60, 61, 62, 63, 64, 65, 66, 67, 68, 69, 70, 71, 72, 73, 74, 75, 76, 77, 78, 94, 95, 96, 97, 98, 99, 100, 101, 102, 103, 104, 105] (by decide +kernel) (by decide +kernel)
set_option maxRecDepth 20000 in
theorem gX5_judge_X1_firstWrongPlace : GoodIn wsX5_judge (wsV RX5 230 RX1 yX1_firstWrongPlace wsX1_firstWrongPlace) := goodIn_app (goodIn_of _ (by decide +kernel)) ggX5_judge_X1_firstWrongPlace
set_option maxRecDepth 20000 in
theorem ggX5_judge_X2_empty : GoodIn wsX5_judge wsX2_empty := goodIn_r _ [83, 84, 94, 95] (by decide +kernel) (by decide +kernel)
set_option maxRecDepth 20000 in
theorem gX5_judge_X2_empty : GoodIn wsX5_judge (wsV RX5 233 RX2 yX2_empty wsX2_empty) := goodIn_app (goodIn_of _ (by decide +kernel)) ggX5_judge_X2_empty
theorem dX5_judge_0 : decode cX5_judge 0 = .ok (.aload_n 0, 1) := by decide +kernel
theorem dX5_judge_1 : decode cX5_judge 1 = .ok (.getfield 27, 3) := by decide +kernel
theorem dX5_judge_4 : decode cX5_judge 4 = .ok (.aload_n 0, 1) := by decide +kernel
theorem dX5_judge_5 : decode cX5_judge 5 = .ok (.getfield 50, 3) := by decide +kernel
theorem dX5_judge_8 : decode cX5_judge 8 = .ok (.invokevirtual 230, 3) := by decide +kernel
theorem dX5_judge_11 : decode cX5_judge 11 = .ok (.istore_n 1, 1) := by decide +kernel
theorem dX5_judge_12 : decode cX5_judge 12 = .ok (.aload_n 0, 1) := by decide +kernel
theorem dX5_judge_13 : decode cX5_judge 13 = .ok (.getfield 50, 3) := by decide +kernel
theorem dX5_judge_16 : decode cX5_judge 16 = .ok (.invokevirtual 233, 3) := by decide +kernel
theorem dX5_judge_19 : decode cX5_judge 19 = .ok (.pop, 1) := by decide +kernel
theorem dX5_judge_20 : decode cX5_judge 20 = .ok (.iload_n 1, 1) := by decide +kernel
theorem dX5_judge_21 : decode cX5_judge 21 = .ok (.ireturn, 1) := by decide +kernel
set_option maxRecDepth 20000 in
theorem ggX5_clear_X2_empty : GoodIn wsX5_clear wsX2_empty := goodIn_r _ [6, 7, 17, 18] (by decide +kernel) (by decide +kernel)
set_option maxRecDepth 20000 in
theorem gX5_clear_X2_empty : GoodIn wsX5_clear (wsV RX5 233 RX2 yX2_empty wsX2_empty) := goodIn_app (goodIn_of _ (by decide +kernel)) ggX5_clear_X2_empty
theorem dX5_clear_0 : decode cX5_clear 0 = .ok (.aload_n 0, 1) := by decide +kernel
theorem dX5_clear_1 : decode cX5_clear 1 = .ok (.getfield 50, 3) := by decide +kernel
theorem dX5_clear_4 : decode cX5_clear 4 = .ok (.invokevirtual 233, 3) := by decide +kernel
theorem dX5_clear_7 : decode cX5_clear 7 = .ok (.ireturn, 1) := by decide +kernel
set_option maxRecDepth 20000 in
theorem ggX5_lots_X5_range : GoodIn wsX5_lots wsX5_range := goodIn_r _ [5] (by decide +kernel) (by decide +kernel)
set_option maxRecDepth 20000 in
theorem gX5_lots_X5_range : GoodIn wsX5_lots (va_wsS RX5 62 yX5_range wsX5_range) := goodIn_app (goodIn_of _ (by decide +kernel)) ggX5_lots_X5_range
set_option maxRecDepth 20000 in
theorem ggX5_lots_X5_other : GoodIn wsX5_lots wsX5_other := goodIn_r _ [8] (by decide +kernel) (by decide +kernel)
set_option maxRecDepth 20000 in
theorem gX5_lots_X5_other : GoodIn wsX5_lots (va_wsS RX5 93 yX5_other wsX5_other) := goodIn_app (goodIn_of _ (by decide +kernel)) ggX5_lots_X5_other
set_option maxRecDepth 20000 in
theorem ggX5_lots_X5_firstOf : GoodIn wsX5_lots wsX5_firstOf := goodIn_r _ [11] (by decide +kernel) (by decide +kernel)
set_option maxRecDepth 20000 in
theorem gX5_lots_X5_firstOf : GoodIn wsX5_lots (va_wsS RX5 97 yX5_firstOf wsX5_firstOf) := goodIn_app (goodIn_of _ (by decide +kernel)) ggX5_lots_X5_firstOf
set_option maxRecDepth 20000 in
theorem ggX5_lots_X5_refuse : GoodIn wsX5_lots wsX5_refuse := goodIn_r _ [15, 16, 123, 124, 125, 126, 127, 128, 129, 130, 131] (by decide +kernel) (by decide +kernel)
set_option maxRecDepth 20000 in
theorem gX5_lots_X5_refuse : GoodIn wsX5_lots (wsV RX5 70 RX5 yX5_refuse wsX5_refuse) := goodIn_app (goodIn_of _ (by decide +kernel)) ggX5_lots_X5_refuse
set_option maxRecDepth 20000 in
theorem ggX5_lots_X1_allByLot : GoodIn wsX5_lots wsX1_allByLot := goodIn_r _ [21, 22, 23, 24, 25, 26, 27, 28, 20, 29, 30, 31, 32, 33, 34, 35, 36, 37, 38, 39, 40, 41, 42, 43, 44, 45, 46, 47, 48, 49, 50, 51, 52, 53, 54, 55, 56, 57, 58, 59, 60, 61, 62, 63, 64, 65, 66, 67, 68, 69, 70, 71, 72, 73, 74, 75, 76, 77, 78, 79, 80, 4, 81, 82, 83, 84, 85, 86, 87, 88, 89, 90, 91, 92, 93, 94, 95, 96, 97, 98, 99, 100, 101, 102, 103, 104, 105, 106, 107, 108, 109, 110, 111, 112, 113, 114, 115, 116, 117, 118, 119, 120, 121, 122, 132, 133, 134, 135, 136, 137, 138, 139, 140, 141] (by decide +kernel) (by decide +kernel)
set_option maxRecDepth 20000 in
theorem gX5_lots_X1_allByLot : GoodIn wsX5_lots (wsV RX5 235 RX1 yX1_allByLot wsX1_allByLot) := goodIn_app (goodIn_of _ (by decide +kernel)) ggX5_lots_X1_allByLot
theorem dX5_lots_0 : decode cX5_lots 0 = .ok (.iload_n 1, 1) := by decide +kernel
theorem dX5_lots_1 : decode cX5_lots 1 = .ok (.iconst 1, 1) := by decide +kernel
theorem dX5_lots_2 : decode cX5_lots 2 = .ok (.bipush 20, 2) := by decide +kernel
theorem dX5_lots_4 : decode cX5_lots 4 = .ok (.invokestatic 62, 3) := by decide +kernel
theorem dX5_lots_7 : decode cX5_lots 7 = .ok (.iload_n 3, 1) := by decide +kernel
theorem dX5_lots_8 : decode cX5_lots 8 = .ok (.iconst 2, 1) := by decide +kernel
theorem dX5_lots_9 : decode cX5_lots 9 = .ok (.invokestatic 93, 3) := by decide +kernel
theorem dX5_lots_12 : decode cX5_lots 12 = .ok (.iconst 0, 1) := by decide +kernel
theorem dX5_lots_13 : decode cX5_lots 13 = .ok (.invokestatic 97, 3) := by decide +kernel
theorem dX5_lots_16 : decode cX5_lots 16 = .ok (.istore 4, 2) := by decide +kernel
theorem dX5_lots_18 : decode cX5_lots 18 = .ok (.iload 4, 2) := by decide +kernel
theorem dX5_lots_20 : decode cX5_lots 20 = .ok (.ifCond .eq 12, 3) := by decide +kernel
theorem dX5_lots_23 : decode cX5_lots 23 = .ok (.aload_n 0, 1) := by decide +kernel
theorem dX5_lots_24 : decode cX5_lots 24 = .ok (.iload 4, 2) := by decide +kernel
theorem dX5_lots_26 : decode cX5_lots 26 = .ok (.invokevirtual 70, 3) := by decide +kernel
theorem dX5_lots_29 : decode cX5_lots 29 = .ok (.goto 13, 3) := by decide +kernel
theorem dX5_lots_32 : decode cX5_lots 32 = .ok (.aload_n 0, 1) := by decide +kernel
theorem dX5_lots_33 : decode cX5_lots 33 = .ok (.getfield 27, 3) := by decide +kernel
theorem dX5_lots_36 : decode cX5_lots 36 = .ok (.iload_n 1, 1) := by decide +kernel
theorem dX5_lots_37 : decode cX5_lots 37 = .ok (.iload_n 2, 1) := by decide +kernel
theorem dX5_lots_38 : decode cX5_lots 38 = .ok (.iload_n 3, 1) := by decide +kernel
theorem dX5_lots_39 : decode cX5_lots 39 = .ok (.invokevirtual 235, 3) := by decide +kernel
theorem dX5_lots_42 : decode cX5_lots 42 = .ok (.ireturn, 1) := by decide +kernel
set_option maxRecDepth 20000 in
theorem ggX5_image_X3_take : GoodIn wsX5_image wsX3_take := goodIn_r _ [9, 10, 11, 12, 13, 14, 15, 16, 17, 18, 19, 20, 30, 31, 32, 33, 34, 35, 36, 37] (by decide +kernel) (by decide +kernel)
set_option maxRecDepth 20000 in
theorem gX5_image_X3_take : GoodIn wsX5_image (wsV RX5 238 RX3 yX3_take wsX3_take) := goodIn_app (goodIn_of _ (by decide +kernel)) ggX5_image_X3_take
theorem dX5_image_0 : decode cX5_image 0 = .ok (.aload_n 0, 1) := by decide +kernel
theorem dX5_image_1 : decode cX5_image 1 = .ok (.getfield 16, 3) := by decide +kernel
theorem dX5_image_4 : decode cX5_image 4 = .ok (.aload_n 0, 1) := by decide +kernel
theorem dX5_image_5 : decode cX5_image 5 = .ok (.getfield 12, 3) := by decide +kernel
theorem dX5_image_8 : decode cX5_image 8 = .ok (.invokevirtual 238, 3) := by decide +kernel
theorem dX5_image_11 : decode cX5_image 11 = .ok (.aload_n 0, 1) := by decide +kernel
theorem dX5_image_12 : decode cX5_image 12 = .ok (.iconst 1, 1) := by decide +kernel
theorem dX5_image_13 : decode cX5_image 13 = .ok (.putfield 58, 3) := by decide +kernel
theorem dX5_image_16 : decode cX5_image 16 = .ok (.aload_n 0, 1) := by decide +kernel
theorem dX5_image_17 : decode cX5_image 17 = .ok (.getfield 12, 3) := by decide +kernel
theorem dX5_image_20 : decode cX5_image 20 = .ok (.getfield 129, 3) := by decide +kernel
theorem dX5_image_23 : decode cX5_image 23 = .ok (.ireturn, 1) := by decide +kernel
set_option maxRecDepth 20000 in
theorem ggX5_on_X5_refuse : GoodIn wsX5_on wsX5_refuse := goodIn_r _ [9, 10, 27, 28, 29, 30, 31, 32, 33, 34, 35] (by decide +kernel) (by decide +kernel)
set_option maxRecDepth 20000 in
theorem gX5_on_X5_refuse : GoodIn wsX5_on (wsV RX5 70 RX5 yX5_refuse wsX5_refuse) := goodIn_app (goodIn_of _ (by decide +kernel)) ggX5_on_X5_refuse
set_option maxRecDepth 20000 in
theorem ggX5_on_X3_take : GoodIn wsX5_on wsX3_take := goodIn_r _ [15, 16, 17, 18, 19, 20, 21, 22, 23, 24, 25, 26, 36, 37, 38, 39, 40, 41, 42, 43] (by decide +kernel) (by decide +kernel)
set_option maxRecDepth 20000 in
theorem gX5_on_X3_take : GoodIn wsX5_on (wsV RX5 238 RX3 yX3_take wsX3_take) := goodIn_app (goodIn_of _ (by decide +kernel)) ggX5_on_X3_take
theorem dX5_on_0 : decode cX5_on 0 = .ok (.aload_n 0, 1) := by decide +kernel
theorem dX5_on_1 : decode cX5_on 1 = .ok (.getfield 58, 3) := by decide +kernel
theorem dX5_on_4 : decode cX5_on 4 = .ok (.ifCond .ne 10, 3) := by decide +kernel
theorem dX5_on_7 : decode cX5_on 7 = .ok (.aload_n 0, 1) := by decide +kernel
theorem dX5_on_8 : decode cX5_on 8 = .ok (.bipush (-3), 2) := by decide +kernel
theorem dX5_on_10 : decode cX5_on 10 = .ok (.invokevirtual 70, 3) := by decide +kernel
theorem dX5_on_13 : decode cX5_on 13 = .ok (.ireturn, 1) := by decide +kernel
theorem dX5_on_14 : decode cX5_on 14 = .ok (.aload_n 0, 1) := by decide +kernel
theorem dX5_on_15 : decode cX5_on 15 = .ok (.getfield 12, 3) := by decide +kernel
theorem dX5_on_18 : decode cX5_on 18 = .ok (.aload_n 0, 1) := by decide +kernel
theorem dX5_on_19 : decode cX5_on 19 = .ok (.getfield 16, 3) := by decide +kernel
theorem dX5_on_22 : decode cX5_on 22 = .ok (.invokevirtual 238, 3) := by decide +kernel
theorem dX5_on_25 : decode cX5_on 25 = .ok (.aload_n 0, 1) := by decide +kernel
theorem dX5_on_26 : decode cX5_on 26 = .ok (.getfield 12, 3) := by decide +kernel
theorem dX5_on_29 : decode cX5_on 29 = .ok (.getfield 129, 3) := by decide +kernel
theorem dX5_on_32 : decode cX5_on 32 = .ok (.ireturn, 1) := by decide +kernel
set_option maxRecDepth 20000 in
theorem ggX5_count_X3_believerBits : GoodIn wsX5_count wsX3_believerBits := goodIn_r _ [13, 14, 15, 16, 17, 12, 18, 19, 42, 43, 44, 45, 46, 47, 48, 49] (by decide +kernel) (by decide +kernel)
set_option maxRecDepth 20000 in
theorem gX5_count_X3_believerBits : GoodIn wsX5_count (wsV RX5 120 RX3 yX3_believerBits wsX3_believerBits) := goodIn_app (goodIn_of _ (by decide +kernel)) ggX5_count_X3_believerBits
set_option maxRecDepth 20000 in
theorem ggX5_count_X3_allBelief : GoodIn wsX5_count wsX3_allBelief := goodIn_r _ [23, 14, 19, 42, 43, 44, 45, 46, 47, 48, 49] (by decide +kernel) (by decide +kernel)
set_option maxRecDepth 20000 in
theorem gX5_count_X3_allBelief : GoodIn wsX5_count (wsV RX5 208 RX3 yX3_allBelief wsX3_allBelief) := goodIn_app (goodIn_of _ (by decide +kernel)) ggX5_count_X3_allBelief
set_option maxRecDepth 20000 in
theorem ggX5_count_X3_allDepth : GoodIn wsX5_count wsX3_allDepth := goodIn_r _ [27, 28, 42, 43, 44, 45, 46, 47, 48, 49] (by decide +kernel) (by decide +kernel)
set_option maxRecDepth 20000 in
theorem gX5_count_X3_allDepth : GoodIn wsX5_count (wsV RX5 241 RX3 yX3_allDepth wsX3_allDepth) := goodIn_app (goodIn_of _ (by decide +kernel)) ggX5_count_X3_allDepth
set_option maxRecDepth 20000 in
theorem ggX5_count_X3_hollow : GoodIn wsX5_count wsX3_hollow := goodIn_r _ [32, 28, 42, 43, 44, 45, 46, 47, 48, 49] (by decide +kernel) (by decide +kernel)
set_option maxRecDepth 20000 in
theorem gX5_count_X3_hollow : GoodIn wsX5_count (wsV RX5 123 RX3 yX3_hollow wsX3_hollow) := goodIn_app (goodIn_of _ (by decide +kernel)) ggX5_count_X3_hollow
theorem dX5_count_0 : decode cX5_count 0 = .ok (.iload_n 1, 1) := by decide +kernel
theorem dX5_count_1 : decode cX5_count 1 = .ok (.bipush 11, 2) := by decide +kernel
theorem dX5_count_3 : decode cX5_count 3 = .ok (.if_icmp .lt 19, 3) := by decide +kernel
theorem dX5_count_6 : decode cX5_count 6 = .ok (.iload_n 1, 1) := by decide +kernel
theorem dX5_count_7 : decode cX5_count 7 = .ok (.bipush 16, 2) := by decide +kernel
theorem dX5_count_9 : decode cX5_count 9 = .ok (.if_icmp .gt 13, 3) := by decide +kernel
theorem dX5_count_12 : decode cX5_count 12 = .ok (.aload_n 0, 1) := by decide +kernel
theorem dX5_count_13 : decode cX5_count 13 = .ok (.getfield 54, 3) := by decide +kernel
theorem dX5_count_16 : decode cX5_count 16 = .ok (.iload_n 1, 1) := by decide +kernel
theorem dX5_count_17 : decode cX5_count 17 = .ok (.bipush 10, 2) := by decide +kernel
theorem dX5_count_19 : decode cX5_count 19 = .ok (.isub, 1) := by decide +kernel
theorem dX5_count_20 : decode cX5_count 20 = .ok (.iaload, 1) := by decide +kernel
theorem dX5_count_21 : decode cX5_count 21 = .ok (.ireturn, 1) := by decide +kernel
theorem dX5_count_22 : decode cX5_count 22 = .ok (.iload_n 1, 1) := by decide +kernel
theorem dX5_count_23 : decode cX5_count 23 = .ok (.tableswitch 109 0 7 #[45, 53, 61, 69, 77, 85, 93, 101], 45) := by decide +kernel
theorem dX5_count_68 : decode cX5_count 68 = .ok (.aload_n 0, 1) := by decide +kernel
theorem dX5_count_69 : decode cX5_count 69 = .ok (.getfield 12, 3) := by decide +kernel
theorem dX5_count_72 : decode cX5_count 72 = .ok (.getfield 211, 3) := by decide +kernel
theorem dX5_count_75 : decode cX5_count 75 = .ok (.ireturn, 1) := by decide +kernel
theorem dX5_count_76 : decode cX5_count 76 = .ok (.aload_n 0, 1) := by decide +kernel
theorem dX5_count_77 : decode cX5_count 77 = .ok (.getfield 12, 3) := by decide +kernel
theorem dX5_count_80 : decode cX5_count 80 = .ok (.getfield 129, 3) := by decide +kernel
theorem dX5_count_83 : decode cX5_count 83 = .ok (.ireturn, 1) := by decide +kernel
theorem dX5_count_84 : decode cX5_count 84 = .ok (.aload_n 0, 1) := by decide +kernel
theorem dX5_count_85 : decode cX5_count 85 = .ok (.getfield 12, 3) := by decide +kernel
theorem dX5_count_88 : decode cX5_count 88 = .ok (.invokevirtual 120, 3) := by decide +kernel
theorem dX5_count_91 : decode cX5_count 91 = .ok (.ireturn, 1) := by decide +kernel
theorem dX5_count_92 : decode cX5_count 92 = .ok (.aload_n 0, 1) := by decide +kernel
theorem dX5_count_93 : decode cX5_count 93 = .ok (.getfield 12, 3) := by decide +kernel
theorem dX5_count_96 : decode cX5_count 96 = .ok (.invokevirtual 208, 3) := by decide +kernel
theorem dX5_count_99 : decode cX5_count 99 = .ok (.ireturn, 1) := by decide +kernel
theorem dX5_count_100 : decode cX5_count 100 = .ok (.aload_n 0, 1) := by decide +kernel
theorem dX5_count_101 : decode cX5_count 101 = .ok (.getfield 12, 3) := by decide +kernel
theorem dX5_count_104 : decode cX5_count 104 = .ok (.invokevirtual 241, 3) := by decide +kernel
theorem dX5_count_107 : decode cX5_count 107 = .ok (.ireturn, 1) := by decide +kernel
theorem dX5_count_108 : decode cX5_count 108 = .ok (.aload_n 0, 1) := by decide +kernel
theorem dX5_count_109 : decode cX5_count 109 = .ok (.getfield 12, 3) := by decide +kernel
theorem dX5_count_112 : decode cX5_count 112 = .ok (.invokevirtual 123, 3) := by decide +kernel
theorem dX5_count_115 : decode cX5_count 115 = .ok (.ireturn, 1) := by decide +kernel
theorem dX5_count_116 : decode cX5_count 116 = .ok (.aload_n 0, 1) := by decide +kernel
theorem dX5_count_117 : decode cX5_count 117 = .ok (.getfield 50, 3) := by decide +kernel
theorem dX5_count_120 : decode cX5_count 120 = .ok (.getfield 244, 3) := by decide +kernel
theorem dX5_count_123 : decode cX5_count 123 = .ok (.ireturn, 1) := by decide +kernel
theorem dX5_count_124 : decode cX5_count 124 = .ok (.aload_n 0, 1) := by decide +kernel
theorem dX5_count_125 : decode cX5_count 125 = .ok (.getfield 43, 3) := by decide +kernel
theorem dX5_count_128 : decode cX5_count 128 = .ok (.getfield 247, 3) := by decide +kernel
theorem dX5_count_131 : decode cX5_count 131 = .ok (.ireturn, 1) := by decide +kernel
theorem dX5_count_132 : decode cX5_count 132 = .ok (.bipush (-9), 2) := by decide +kernel
theorem dX5_count_134 : decode cX5_count 134 = .ok (.ireturn, 1) := by decide +kernel
theorem dX5_refuse_0 : decode cX5_refuse 0 = .ok (.iload_n 1, 1) := by decide +kernel
theorem dX5_refuse_1 : decode cX5_refuse 1 = .ok (.ineg, 1) := by decide +kernel
theorem dX5_refuse_2 : decode cX5_refuse 2 = .ok (.istore_n 2, 1) := by decide +kernel
theorem dX5_refuse_3 : decode cX5_refuse 3 = .ok (.iload_n 2, 1) := by decide +kernel
theorem dX5_refuse_4 : decode cX5_refuse 4 = .ok (.ifCond .le 19, 3) := by decide +kernel
theorem dX5_refuse_7 : decode cX5_refuse 7 = .ok (.iload_n 2, 1) := by decide +kernel
theorem dX5_refuse_8 : decode cX5_refuse 8 = .ok (.bipush 7, 2) := by decide +kernel
theorem dX5_refuse_10 : decode cX5_refuse 10 = .ok (.if_icmp .ge 13, 3) := by decide +kernel
theorem dX5_refuse_13 : decode cX5_refuse 13 = .ok (.aload_n 0, 1) := by decide +kernel
theorem dX5_refuse_14 : decode cX5_refuse 14 = .ok (.getfield 54, 3) := by decide +kernel
theorem dX5_refuse_17 : decode cX5_refuse 17 = .ok (.iload_n 2, 1) := by decide +kernel
theorem dX5_refuse_18 : decode cX5_refuse 18 = .ok (.dup2, 1) := by decide +kernel
theorem dX5_refuse_19 : decode cX5_refuse 19 = .ok (.iaload, 1) := by decide +kernel
theorem dX5_refuse_20 : decode cX5_refuse 20 = .ok (.iconst 1, 1) := by decide +kernel
theorem dX5_refuse_21 : decode cX5_refuse 21 = .ok (.iadd, 1) := by decide +kernel
theorem dX5_refuse_22 : decode cX5_refuse 22 = .ok (.iastore, 1) := by decide +kernel
theorem dX5_refuse_23 : decode cX5_refuse 23 = .ok (.iload_n 1, 1) := by decide +kernel
theorem dX5_refuse_24 : decode cX5_refuse 24 = .ok (.ireturn, 1) := by decide +kernel
theorem dX5_noPerson_0 : decode cX5_noPerson 0 = .ok (.iload_n 1, 1) := by decide +kernel
theorem dX5_noPerson_1 : decode cX5_noPerson 1 = .ok (.ifCond .lt 14, 3) := by decide +kernel
theorem dX5_noPerson_4 : decode cX5_noPerson 4 = .ok (.iload_n 1, 1) := by decide +kernel
theorem dX5_noPerson_5 : decode cX5_noPerson 5 = .ok (.aload_n 0, 1) := by decide +kernel
theorem dX5_noPerson_6 : decode cX5_noPerson 6 = .ok (.getfield 12, 3) := by decide +kernel
theorem dX5_noPerson_9 : decode cX5_noPerson 9 = .ok (.getfield 211, 3) := by decide +kernel
theorem dX5_noPerson_12 : decode cX5_noPerson 12 = .ok (.if_icmp .lt 7, 3) := by decide +kernel
theorem dX5_noPerson_15 : decode cX5_noPerson 15 = .ok (.iconst (-1), 1) := by decide +kernel
theorem dX5_noPerson_16 : decode cX5_noPerson 16 = .ok (.goto 4, 3) := by decide +kernel
theorem dX5_noPerson_19 : decode cX5_noPerson 19 = .ok (.iconst 0, 1) := by decide +kernel
theorem dX5_noPerson_20 : decode cX5_noPerson 20 = .ok (.ireturn, 1) := by decide +kernel
theorem dX5_noCell_0 : decode cX5_noCell 0 = .ok (.iload_n 0, 1) := by decide +kernel
theorem dX5_noCell_1 : decode cX5_noCell 1 = .ok (.ifCond .lt 9, 3) := by decide +kernel
theorem dX5_noCell_4 : decode cX5_noCell 4 = .ok (.iload_n 0, 1) := by decide +kernel
theorem dX5_noCell_5 : decode cX5_noCell 5 = .ok (.bipush 25, 2) := by decide +kernel
theorem dX5_noCell_7 : decode cX5_noCell 7 = .ok (.if_icmp .lt 7, 3) := by decide +kernel
theorem dX5_noCell_10 : decode cX5_noCell 10 = .ok (.iconst (-1), 1) := by decide +kernel
theorem dX5_noCell_11 : decode cX5_noCell 11 = .ok (.goto 4, 3) := by decide +kernel
theorem dX5_noCell_14 : decode cX5_noCell 14 = .ok (.iconst 0, 1) := by decide +kernel
theorem dX5_noCell_15 : decode cX5_noCell 15 = .ok (.ireturn, 1) := by decide +kernel
theorem dX5_other_0 : decode cX5_other 0 = .ok (.iload_n 0, 1) := by decide +kernel
theorem dX5_other_1 : decode cX5_other 1 = .ok (.ifCond .lt 8, 3) := by decide +kernel
theorem dX5_other_4 : decode cX5_other 4 = .ok (.iload_n 0, 1) := by decide +kernel
theorem dX5_other_5 : decode cX5_other 5 = .ok (.iload_n 1, 1) := by decide +kernel
theorem dX5_other_6 : decode cX5_other 6 = .ok (.if_icmp .lt 8, 3) := by decide +kernel
theorem dX5_other_9 : decode cX5_other 9 = .ok (.bipush (-2), 2) := by decide +kernel
theorem dX5_other_11 : decode cX5_other 11 = .ok (.goto 4, 3) := by decide +kernel
theorem dX5_other_14 : decode cX5_other 14 = .ok (.iconst 0, 1) := by decide +kernel
theorem dX5_other_15 : decode cX5_other 15 = .ok (.ireturn, 1) := by decide +kernel
theorem dX5_range_0 : decode cX5_range 0 = .ok (.iload_n 0, 1) := by decide +kernel
theorem dX5_range_1 : decode cX5_range 1 = .ok (.iload_n 1, 1) := by decide +kernel
theorem dX5_range_2 : decode cX5_range 2 = .ok (.if_icmp .ge 6, 3) := by decide +kernel
theorem dX5_range_5 : decode cX5_range 5 = .ok (.bipush (-4), 2) := by decide +kernel
theorem dX5_range_7 : decode cX5_range 7 = .ok (.ireturn, 1) := by decide +kernel
theorem dX5_range_8 : decode cX5_range 8 = .ok (.iload_n 0, 1) := by decide +kernel
theorem dX5_range_9 : decode cX5_range 9 = .ok (.iload_n 2, 1) := by decide +kernel
theorem dX5_range_10 : decode cX5_range 10 = .ok (.if_icmp .le 8, 3) := by decide +kernel
theorem dX5_range_13 : decode cX5_range 13 = .ok (.bipush (-6), 2) := by decide +kernel
theorem dX5_range_15 : decode cX5_range 15 = .ok (.goto 4, 3) := by decide +kernel
theorem dX5_range_18 : decode cX5_range 18 = .ok (.iconst 0, 1) := by decide +kernel
theorem dX5_range_19 : decode cX5_range 19 = .ok (.ireturn, 1) := by decide +kernel
theorem dX5_firstOf_0 : decode cX5_firstOf 0 = .ok (.iload_n 0, 1) := by decide +kernel
theorem dX5_firstOf_1 : decode cX5_firstOf 1 = .ok (.ifCond .eq 5, 3) := by decide +kernel
theorem dX5_firstOf_4 : decode cX5_firstOf 4 = .ok (.iload_n 0, 1) := by decide +kernel
theorem dX5_firstOf_5 : decode cX5_firstOf 5 = .ok (.ireturn, 1) := by decide +kernel
theorem dX5_firstOf_6 : decode cX5_firstOf 6 = .ok (.iload_n 1, 1) := by decide +kernel
theorem dX5_firstOf_7 : decode cX5_firstOf 7 = .ok (.ifCond .eq 7, 3) := by decide +kernel
theorem dX5_firstOf_10 : decode cX5_firstOf 10 = .ok (.iload_n 1, 1) := by decide +kernel
theorem dX5_firstOf_11 : decode cX5_firstOf 11 = .ok (.goto 4, 3) := by decide +kernel
theorem dX5_firstOf_14 : decode cX5_firstOf 14 = .ok (.iload_n 2, 1) := by decide +kernel
theorem dX5_firstOf_15 : decode cX5_firstOf 15 = .ok (.ireturn, 1) := by decide +kernel
set_option maxRecDepth 20000 in
theorem ggX5_partOf_X5_sharedDivisor : GoodIn wsX5_partOf wsX5_sharedDivisor := goodIn_r _ [4] (by decide +kernel) (by decide +kernel)
set_option maxRecDepth 20000 in
theorem gX5_partOf_X5_sharedDivisor : GoodIn wsX5_partOf (va_wsS RX5 248 yX5_sharedDivisor wsX5_sharedDivisor) := goodIn_app (goodIn_of _ (by decide +kernel)) ggX5_partOf_X5_sharedDivisor
theorem dX5_partOf_0 : decode cX5_partOf 0 = .ok (.lload_n 0, 1) := by decide +kernel
theorem dX5_partOf_1 : decode cX5_partOf 1 = .ok (.lconst 0, 1) := by decide +kernel
theorem dX5_partOf_2 : decode cX5_partOf 2 = .ok (.lcmp, 1) := by decide +kernel
theorem dX5_partOf_3 : decode cX5_partOf 3 = .ok (.ifCond .ne 7, 3) := by decide +kernel
theorem dX5_partOf_6 : decode cX5_partOf 6 = .ok (.iload 4, 2) := by decide +kernel
theorem dX5_partOf_8 : decode cX5_partOf 8 = .ok (.i2l, 1) := by decide +kernel
theorem dX5_partOf_9 : decode cX5_partOf 9 = .ok (.lreturn, 1) := by decide +kernel
theorem dX5_partOf_10 : decode cX5_partOf 10 = .ok (.lload_n 0, 1) := by decide +kernel
theorem dX5_partOf_11 : decode cX5_partOf 11 = .ok (.lload_n 2, 1) := by decide +kernel
theorem dX5_partOf_12 : decode cX5_partOf 12 = .ok (.invokestatic 248, 3) := by decide +kernel
theorem dX5_partOf_15 : decode cX5_partOf 15 = .ok (.lstore 5, 2) := by decide +kernel
theorem dX5_partOf_17 : decode cX5_partOf 17 = .ok (.lload 5, 2) := by decide +kernel
theorem dX5_partOf_19 : decode cX5_partOf 19 = .ok (.lconst 0, 1) := by decide +kernel
theorem dX5_partOf_20 : decode cX5_partOf 20 = .ok (.lcmp, 1) := by decide +kernel
theorem dX5_partOf_21 : decode cX5_partOf 21 = .ok (.ifCond .ne 5, 3) := by decide +kernel
theorem dX5_partOf_24 : decode cX5_partOf 24 = .ok (.lconst 0, 1) := by decide +kernel
theorem dX5_partOf_25 : decode cX5_partOf 25 = .ok (.lreturn, 1) := by decide +kernel
theorem dX5_partOf_26 : decode cX5_partOf 26 = .ok (.iload 4, 2) := by decide +kernel
theorem dX5_partOf_28 : decode cX5_partOf 28 = .ok (.ifCond .ne 10, 3) := by decide +kernel
theorem dX5_partOf_31 : decode cX5_partOf 31 = .ok (.lload_n 0, 1) := by decide +kernel
theorem dX5_partOf_32 : decode cX5_partOf 32 = .ok (.lload 5, 2) := by decide +kernel
theorem dX5_partOf_34 : decode cX5_partOf 34 = .ok (.ldiv, 1) := by decide +kernel
theorem dX5_partOf_35 : decode cX5_partOf 35 = .ok (.goto 7, 3) := by decide +kernel
theorem dX5_partOf_38 : decode cX5_partOf 38 = .ok (.lload_n 2, 1) := by decide +kernel
theorem dX5_partOf_39 : decode cX5_partOf 39 = .ok (.lload 5, 2) := by decide +kernel
theorem dX5_partOf_41 : decode cX5_partOf 41 = .ok (.ldiv, 1) := by decide +kernel
theorem dX5_partOf_42 : decode cX5_partOf 42 = .ok (.lreturn, 1) := by decide +kernel
theorem dX5_sharedDivisor_0 : decode cX5_sharedDivisor 0 = .ok (.lload_n 0, 1) := by decide +kernel
theorem dX5_sharedDivisor_1 : decode cX5_sharedDivisor 1 = .ok (.lstore 4, 2) := by decide +kernel
theorem dX5_sharedDivisor_3 : decode cX5_sharedDivisor 3 = .ok (.lload_n 2, 1) := by decide +kernel
theorem dX5_sharedDivisor_4 : decode cX5_sharedDivisor 4 = .ok (.lstore 6, 2) := by decide +kernel
theorem dX5_sharedDivisor_6 : decode cX5_sharedDivisor 6 = .ok (.iconst 0, 1) := by decide +kernel
theorem dX5_sharedDivisor_7 : decode cX5_sharedDivisor 7 = .ok (.istore 8, 2) := by decide +kernel
theorem dX5_sharedDivisor_9 : decode cX5_sharedDivisor 9 = .ok (.iload 8, 2) := by decide +kernel
theorem dX5_sharedDivisor_11 : decode cX5_sharedDivisor 11 = .ok (.sipush 200, 3) := by decide +kernel
theorem dX5_sharedDivisor_14 : decode cX5_sharedDivisor 14 = .ok (.if_icmp .ge 31, 3) := by decide +kernel
theorem dX5_sharedDivisor_17 : decode cX5_sharedDivisor 17 = .ok (.lload 6, 2) := by decide +kernel
theorem dX5_sharedDivisor_19 : decode cX5_sharedDivisor 19 = .ok (.lconst 0, 1) := by decide +kernel
theorem dX5_sharedDivisor_20 : decode cX5_sharedDivisor 20 = .ok (.lcmp, 1) := by decide +kernel
theorem dX5_sharedDivisor_21 : decode cX5_sharedDivisor 21 = .ok (.ifCond .eq 24, 3) := by decide +kernel
theorem dX5_sharedDivisor_24 : decode cX5_sharedDivisor 24 = .ok (.lload 4, 2) := by decide +kernel
theorem dX5_sharedDivisor_26 : decode cX5_sharedDivisor 26 = .ok (.lload 6, 2) := by decide +kernel
theorem dX5_sharedDivisor_28 : decode cX5_sharedDivisor 28 = .ok (.lrem, 1) := by decide +kernel
theorem dX5_sharedDivisor_29 : decode cX5_sharedDivisor 29 = .ok (.lstore 9, 2) := by decide +kernel
theorem dX5_sharedDivisor_31 : decode cX5_sharedDivisor 31 = .ok (.lload 6, 2) := by decide +kernel
theorem dX5_sharedDivisor_33 : decode cX5_sharedDivisor 33 = .ok (.lstore 4, 2) := by decide +kernel
theorem dX5_sharedDivisor_35 : decode cX5_sharedDivisor 35 = .ok (.lload 9, 2) := by decide +kernel
theorem dX5_sharedDivisor_37 : decode cX5_sharedDivisor 37 = .ok (.lstore 6, 2) := by decide +kernel
theorem dX5_sharedDivisor_39 : decode cX5_sharedDivisor 39 = .ok (.iinc 8 1, 3) := by decide +kernel
theorem dX5_sharedDivisor_42 : decode cX5_sharedDivisor 42 = .ok (.goto (-33), 3) := by decide +kernel
theorem dX5_sharedDivisor_45 : decode cX5_sharedDivisor 45 = .ok (.lload 4, 2) := by decide +kernel
theorem dX5_sharedDivisor_47 : decode cX5_sharedDivisor 47 = .ok (.lreturn, 1) := by decide +kernel
theorem dX5_apart_0 : decode cX5_apart 0 = .ok (.iload_n 0, 1) := by decide +kernel
theorem dX5_apart_1 : decode cX5_apart 1 = .ok (.iconst 5, 1) := by decide +kernel
theorem dX5_apart_2 : decode cX5_apart 2 = .ok (.idiv, 1) := by decide +kernel
theorem dX5_apart_3 : decode cX5_apart 3 = .ok (.iload_n 1, 1) := by decide +kernel
theorem dX5_apart_4 : decode cX5_apart 4 = .ok (.iconst 5, 1) := by decide +kernel
theorem dX5_apart_5 : decode cX5_apart 5 = .ok (.idiv, 1) := by decide +kernel
theorem dX5_apart_6 : decode cX5_apart 6 = .ok (.isub, 1) := by decide +kernel
theorem dX5_apart_7 : decode cX5_apart 7 = .ok (.istore_n 2, 1) := by decide +kernel
theorem dX5_apart_8 : decode cX5_apart 8 = .ok (.iload_n 0, 1) := by decide +kernel
theorem dX5_apart_9 : decode cX5_apart 9 = .ok (.iconst 5, 1) := by decide +kernel
theorem dX5_apart_10 : decode cX5_apart 10 = .ok (.irem, 1) := by decide +kernel
theorem dX5_apart_11 : decode cX5_apart 11 = .ok (.iload_n 1, 1) := by decide +kernel
theorem dX5_apart_12 : decode cX5_apart 12 = .ok (.iconst 5, 1) := by decide +kernel
theorem dX5_apart_13 : decode cX5_apart 13 = .ok (.irem, 1) := by decide +kernel
theorem dX5_apart_14 : decode cX5_apart 14 = .ok (.isub, 1) := by decide +kernel
theorem dX5_apart_15 : decode cX5_apart 15 = .ok (.istore_n 3, 1) := by decide +kernel
theorem dX5_apart_16 : decode cX5_apart 16 = .ok (.iload_n 2, 1) := by decide +kernel
theorem dX5_apart_17 : decode cX5_apart 17 = .ok (.ifCond .ge 8, 3) := by decide +kernel
theorem dX5_apart_20 : decode cX5_apart 20 = .ok (.iload_n 2, 1) := by decide +kernel
theorem dX5_apart_21 : decode cX5_apart 21 = .ok (.ineg, 1) := by decide +kernel
theorem dX5_apart_22 : decode cX5_apart 22 = .ok (.goto 4, 3) := by decide +kernel
theorem dX5_apart_25 : decode cX5_apart 25 = .ok (.iload_n 2, 1) := by decide +kernel
theorem dX5_apart_26 : decode cX5_apart 26 = .ok (.iload_n 3, 1) := by decide +kernel
theorem dX5_apart_27 : decode cX5_apart 27 = .ok (.ifCond .ge 8, 3) := by decide +kernel
theorem dX5_apart_30 : decode cX5_apart 30 = .ok (.iload_n 3, 1) := by decide +kernel
theorem dX5_apart_31 : decode cX5_apart 31 = .ok (.ineg, 1) := by decide +kernel
theorem dX5_apart_32 : decode cX5_apart 32 = .ok (.goto 4, 3) := by decide +kernel
theorem dX5_apart_35 : decode cX5_apart 35 = .ok (.iload_n 3, 1) := by decide +kernel
theorem dX5_apart_36 : decode cX5_apart 36 = .ok (.iadd, 1) := by decide +kernel
theorem dX5_apart_37 : decode cX5_apart 37 = .ok (.ireturn, 1) := by decide +kernel
theorem dX5_isIn_0 : decode cX5_isIn 0 = .ok (.iload_n 0, 1) := by decide +kernel
theorem dX5_isIn_1 : decode cX5_isIn 1 = .ok (.iload_n 1, 1) := by decide +kernel
theorem dX5_isIn_2 : decode cX5_isIn 2 = .ok (.ishr, 1) := by decide +kernel
theorem dX5_isIn_3 : decode cX5_isIn 3 = .ok (.iconst 1, 1) := by decide +kernel
theorem dX5_isIn_4 : decode cX5_isIn 4 = .ok (.iand, 1) := by decide +kernel
theorem dX5_isIn_5 : decode cX5_isIn 5 = .ok (.ifCond .eq 7, 3) := by decide +kernel
theorem dX5_isIn_8 : decode cX5_isIn 8 = .ok (.iconst 1, 1) := by decide +kernel
theorem dX5_isIn_9 : decode cX5_isIn 9 = .ok (.goto 4, 3) := by decide +kernel
theorem dX5_isIn_12 : decode cX5_isIn 12 = .ok (.iconst 0, 1) := by decide +kernel
theorem dX5_isIn_13 : decode cX5_isIn 13 = .ok (.ireturn, 1) := by decide +kernel
theorem dJ6_compare_7cf53_0 : decode cJ6_compare_7cf53 0 = .ok (.iload_n 0, 1) := by decide +kernel
theorem dJ6_compare_7cf53_1 : decode cJ6_compare_7cf53 1 = .ok (.iload_n 1, 1) := by decide +kernel
theorem dJ6_compare_7cf53_2 : decode cJ6_compare_7cf53 2 = .ok (.if_icmp .ge 7, 3) := by decide +kernel
theorem dJ6_compare_7cf53_5 : decode cJ6_compare_7cf53 5 = .ok (.iconst (-1), 1) := by decide +kernel
theorem dJ6_compare_7cf53_6 : decode cJ6_compare_7cf53 6 = .ok (.goto 13, 3) := by decide +kernel
theorem dJ6_compare_7cf53_9 : decode cJ6_compare_7cf53 9 = .ok (.iload_n 0, 1) := by decide +kernel
theorem dJ6_compare_7cf53_10 : decode cJ6_compare_7cf53 10 = .ok (.iload_n 1, 1) := by decide +kernel
theorem dJ6_compare_7cf53_11 : decode cJ6_compare_7cf53 11 = .ok (.if_icmp .ne 7, 3) := by decide +kernel
theorem dJ6_compare_7cf53_14 : decode cJ6_compare_7cf53 14 = .ok (.iconst 0, 1) := by decide +kernel
theorem dJ6_compare_7cf53_15 : decode cJ6_compare_7cf53 15 = .ok (.goto 4, 3) := by decide +kernel
theorem dJ6_compare_7cf53_18 : decode cJ6_compare_7cf53 18 = .ok (.iconst 1, 1) := by decide +kernel
theorem dJ6_compare_7cf53_19 : decode cJ6_compare_7cf53 19 = .ok (.ireturn, 1) := by decide +kernel
theorem dJ6_bitCount_0f7a4_0 : decode cJ6_bitCount_0f7a4 0 = .ok (.iload_n 0, 1) := by decide +kernel
theorem dJ6_bitCount_0f7a4_1 : decode cJ6_bitCount_0f7a4 1 = .ok (.iload_n 0, 1) := by decide +kernel
theorem dJ6_bitCount_0f7a4_2 : decode cJ6_bitCount_0f7a4 2 = .ok (.iconst 1, 1) := by decide +kernel
theorem dJ6_bitCount_0f7a4_3 : decode cJ6_bitCount_0f7a4 3 = .ok (.iushr, 1) := by decide +kernel
theorem dJ6_bitCount_0f7a4_4 : decode cJ6_bitCount_0f7a4 4 = .ok (.ldc_w 265, 3) := by decide +kernel
theorem dJ6_bitCount_0f7a4_7 : decode cJ6_bitCount_0f7a4 7 = .ok (.iand, 1) := by decide +kernel
theorem dJ6_bitCount_0f7a4_8 : decode cJ6_bitCount_0f7a4 8 = .ok (.isub, 1) := by decide +kernel
theorem dJ6_bitCount_0f7a4_9 : decode cJ6_bitCount_0f7a4 9 = .ok (.istore_n 0, 1) := by decide +kernel
theorem dJ6_bitCount_0f7a4_10 : decode cJ6_bitCount_0f7a4 10 = .ok (.iload_n 0, 1) := by decide +kernel
theorem dJ6_bitCount_0f7a4_11 : decode cJ6_bitCount_0f7a4 11 = .ok (.ldc_w 266, 3) := by decide +kernel
theorem dJ6_bitCount_0f7a4_14 : decode cJ6_bitCount_0f7a4 14 = .ok (.iand, 1) := by decide +kernel
theorem dJ6_bitCount_0f7a4_15 : decode cJ6_bitCount_0f7a4 15 = .ok (.iload_n 0, 1) := by decide +kernel
theorem dJ6_bitCount_0f7a4_16 : decode cJ6_bitCount_0f7a4 16 = .ok (.iconst 2, 1) := by decide +kernel
theorem dJ6_bitCount_0f7a4_17 : decode cJ6_bitCount_0f7a4 17 = .ok (.iushr, 1) := by decide +kernel
theorem dJ6_bitCount_0f7a4_18 : decode cJ6_bitCount_0f7a4 18 = .ok (.ldc_w 266, 3) := by decide +kernel
theorem dJ6_bitCount_0f7a4_21 : decode cJ6_bitCount_0f7a4 21 = .ok (.iand, 1) := by decide +kernel
theorem dJ6_bitCount_0f7a4_22 : decode cJ6_bitCount_0f7a4 22 = .ok (.iadd, 1) := by decide +kernel
theorem dJ6_bitCount_0f7a4_23 : decode cJ6_bitCount_0f7a4 23 = .ok (.istore_n 0, 1) := by decide +kernel
theorem dJ6_bitCount_0f7a4_24 : decode cJ6_bitCount_0f7a4 24 = .ok (.iload_n 0, 1) := by decide +kernel
theorem dJ6_bitCount_0f7a4_25 : decode cJ6_bitCount_0f7a4 25 = .ok (.iload_n 0, 1) := by decide +kernel
theorem dJ6_bitCount_0f7a4_26 : decode cJ6_bitCount_0f7a4 26 = .ok (.iconst 4, 1) := by decide +kernel
theorem dJ6_bitCount_0f7a4_27 : decode cJ6_bitCount_0f7a4 27 = .ok (.iushr, 1) := by decide +kernel
theorem dJ6_bitCount_0f7a4_28 : decode cJ6_bitCount_0f7a4 28 = .ok (.iadd, 1) := by decide +kernel
theorem dJ6_bitCount_0f7a4_29 : decode cJ6_bitCount_0f7a4 29 = .ok (.ldc_w 267, 3) := by decide +kernel
theorem dJ6_bitCount_0f7a4_32 : decode cJ6_bitCount_0f7a4 32 = .ok (.iand, 1) := by decide +kernel
theorem dJ6_bitCount_0f7a4_33 : decode cJ6_bitCount_0f7a4 33 = .ok (.istore_n 0, 1) := by decide +kernel
theorem dJ6_bitCount_0f7a4_34 : decode cJ6_bitCount_0f7a4 34 = .ok (.iload_n 0, 1) := by decide +kernel
theorem dJ6_bitCount_0f7a4_35 : decode cJ6_bitCount_0f7a4 35 = .ok (.iload_n 0, 1) := by decide +kernel
theorem dJ6_bitCount_0f7a4_36 : decode cJ6_bitCount_0f7a4 36 = .ok (.bipush 8, 2) := by decide +kernel
theorem dJ6_bitCount_0f7a4_38 : decode cJ6_bitCount_0f7a4 38 = .ok (.iushr, 1) := by decide +kernel
theorem dJ6_bitCount_0f7a4_39 : decode cJ6_bitCount_0f7a4 39 = .ok (.iadd, 1) := by decide +kernel
theorem dJ6_bitCount_0f7a4_40 : decode cJ6_bitCount_0f7a4 40 = .ok (.istore_n 0, 1) := by decide +kernel
theorem dJ6_bitCount_0f7a4_41 : decode cJ6_bitCount_0f7a4 41 = .ok (.iload_n 0, 1) := by decide +kernel
theorem dJ6_bitCount_0f7a4_42 : decode cJ6_bitCount_0f7a4 42 = .ok (.iload_n 0, 1) := by decide +kernel
theorem dJ6_bitCount_0f7a4_43 : decode cJ6_bitCount_0f7a4 43 = .ok (.bipush 16, 2) := by decide +kernel
theorem dJ6_bitCount_0f7a4_45 : decode cJ6_bitCount_0f7a4 45 = .ok (.iushr, 1) := by decide +kernel
theorem dJ6_bitCount_0f7a4_46 : decode cJ6_bitCount_0f7a4 46 = .ok (.iadd, 1) := by decide +kernel
theorem dJ6_bitCount_0f7a4_47 : decode cJ6_bitCount_0f7a4 47 = .ok (.istore_n 0, 1) := by decide +kernel
theorem dJ6_bitCount_0f7a4_48 : decode cJ6_bitCount_0f7a4 48 = .ok (.iload_n 0, 1) := by decide +kernel
theorem dJ6_bitCount_0f7a4_49 : decode cJ6_bitCount_0f7a4 49 = .ok (.bipush 63, 2) := by decide +kernel
theorem dJ6_bitCount_0f7a4_51 : decode cJ6_bitCount_0f7a4 51 = .ok (.iand, 1) := by decide +kernel
theorem dJ6_bitCount_0f7a4_52 : decode cJ6_bitCount_0f7a4 52 = .ok (.ireturn, 1) := by decide +kernel
theorem dJ9_max_7cf53_0 : decode cJ9_max_7cf53 0 = .ok (.iload_n 0, 1) := by decide +kernel
theorem dJ9_max_7cf53_1 : decode cJ9_max_7cf53 1 = .ok (.iload_n 1, 1) := by decide +kernel
theorem dJ9_max_7cf53_2 : decode cJ9_max_7cf53 2 = .ok (.if_icmp .lt 7, 3) := by decide +kernel
theorem dJ9_max_7cf53_5 : decode cJ9_max_7cf53 5 = .ok (.iload_n 0, 1) := by decide +kernel
theorem dJ9_max_7cf53_6 : decode cJ9_max_7cf53 6 = .ok (.goto 4, 3) := by decide +kernel
theorem dJ9_max_7cf53_9 : decode cJ9_max_7cf53 9 = .ok (.iload_n 1, 1) := by decide +kernel
theorem dJ9_max_7cf53_10 : decode cJ9_max_7cf53 10 = .ok (.ireturn, 1) := by decide +kernel
theorem dJ9_min_7cf53_0 : decode cJ9_min_7cf53 0 = .ok (.iload_n 0, 1) := by decide +kernel
theorem dJ9_min_7cf53_1 : decode cJ9_min_7cf53 1 = .ok (.iload_n 1, 1) := by decide +kernel
theorem dJ9_min_7cf53_2 : decode cJ9_min_7cf53 2 = .ok (.if_icmp .gt 7, 3) := by decide +kernel
theorem dJ9_min_7cf53_5 : decode cJ9_min_7cf53 5 = .ok (.iload_n 0, 1) := by decide +kernel
theorem dJ9_min_7cf53_6 : decode cJ9_min_7cf53 6 = .ok (.goto 4, 3) := by decide +kernel
theorem dJ9_min_7cf53_9 : decode cJ9_min_7cf53 9 = .ok (.iload_n 1, 1) := by decide +kernel
theorem dJ9_min_7cf53_10 : decode cJ9_min_7cf53 10 = .ok (.ireturn, 1) := by decide +kernel
