theorem dX3_init_0 : decode cX3_init 0 = .ok (.aload_n 0, 1) := by decide +kernel
theorem dX3_init_1 : decode cX3_init 1 = .ok (.invokespecial 3, 3) := by decide +kernel
theorem dX3_init_4 : decode cX3_init 4 = .ok (.aload_n 0, 1) := by decide +kernel
theorem dX3_init_5 : decode cX3_init 5 = .ok (.bipush 25, 2) := by decide +kernel
theorem dX3_init_7 : decode cX3_init 7 = .ok (.newarray .int, 2) := by decide +kernel
theorem dX3_init_9 : decode cX3_init 9 = .ok (.putfield 9, 3) := by decide +kernel
theorem dX3_init_12 : decode cX3_init 12 = .ok (.aload_n 0, 1) := by decide +kernel
theorem dX3_init_13 : decode cX3_init 13 = .ok (.bipush 8, 2) := by decide +kernel
theorem dX3_init_15 : decode cX3_init 15 = .ok (.newarray .int, 2) := by decide +kernel
theorem dX3_init_17 : decode cX3_init 17 = .ok (.putfield 15, 3) := by decide +kernel
theorem dX3_init_20 : decode cX3_init 20 = .ok (.aload_n 0, 1) := by decide +kernel
theorem dX3_init_21 : decode cX3_init 21 = .ok (.bipush 8, 2) := by decide +kernel
theorem dX3_init_23 : decode cX3_init 23 = .ok (.newarray .int, 2) := by decide +kernel
theorem dX3_init_25 : decode cX3_init 25 = .ok (.putfield 18, 3) := by decide +kernel
theorem dX3_init_28 : decode cX3_init 28 = .ok (.aload_n 0, 1) := by decide +kernel
theorem dX3_init_29 : decode cX3_init 29 = .ok (.bipush 8, 2) := by decide +kernel
theorem dX3_init_31 : decode cX3_init 31 = .ok (.newarray .int, 2) := by decide +kernel
theorem dX3_init_33 : decode cX3_init 33 = .ok (.putfield 21, 3) := by decide +kernel
theorem dX3_init_36 : decode cX3_init 36 = .ok (.aload_n 0, 1) := by decide +kernel
theorem dX3_init_37 : decode cX3_init 37 = .ok (.bipush 8, 2) := by decide +kernel
theorem dX3_init_39 : decode cX3_init 39 = .ok (.newarray .int, 2) := by decide +kernel
theorem dX3_init_41 : decode cX3_init 41 = .ok (.putfield 24, 3) := by decide +kernel
theorem dX3_init_44 : decode cX3_init 44 = .ok (.aload_n 0, 1) := by decide +kernel
theorem dX3_init_45 : decode cX3_init 45 = .ok (.bipush 8, 2) := by decide +kernel
theorem dX3_init_47 : decode cX3_init 47 = .ok (.newarray .int, 2) := by decide +kernel
theorem dX3_init_49 : decode cX3_init 49 = .ok (.putfield 27, 3) := by decide +kernel
theorem dX3_init_52 : decode cX3_init 52 = .ok (.aload_n 0, 1) := by decide +kernel
theorem dX3_init_53 : decode cX3_init 53 = .ok (.iconst 0, 1) := by decide +kernel
theorem dX3_init_54 : decode cX3_init 54 = .ok (.putfield 30, 3) := by decide +kernel
theorem dX3_init_57 : decode cX3_init 57 = .ok (.aload_n 0, 1) := by decide +kernel
theorem dX3_init_58 : decode cX3_init 58 = .ok (.iconst 0, 1) := by decide +kernel
theorem dX3_init_59 : decode cX3_init 59 = .ok (.putfield 34, 3) := by decide +kernel
theorem dX3_init_62 : decode cX3_init 62 = .ok (.return_, 1) := by decide +kernel
theorem dX3_take_0 : decode cX3_take 0 = .ok (.aload_n 1, 1) := by decide +kernel
theorem dX3_take_1 : decode cX3_take 1 = .ok (.getfield 9, 3) := by decide +kernel
theorem dX3_take_4 : decode cX3_take 4 = .ok (.iconst 0, 1) := by decide +kernel
theorem dX3_take_5 : decode cX3_take 5 = .ok (.aload_n 0, 1) := by decide +kernel
theorem dX3_take_6 : decode cX3_take 6 = .ok (.getfield 9, 3) := by decide +kernel
theorem dX3_take_9 : decode cX3_take 9 = .ok (.iconst 0, 1) := by decide +kernel
theorem dX3_take_10 : decode cX3_take 10 = .ok (.bipush 25, 2) := by decide +kernel
theorem dX3_take_12 : decode cX3_take 12 = .ok (.invokestatic 37, 3) := by decide +kernel
theorem dX3_take_15 : decode cX3_take 15 = .ok (.aload_n 1, 1) := by decide +kernel
theorem dX3_take_16 : decode cX3_take 16 = .ok (.getfield 15, 3) := by decide +kernel
theorem dX3_take_19 : decode cX3_take 19 = .ok (.iconst 0, 1) := by decide +kernel
theorem dX3_take_20 : decode cX3_take 20 = .ok (.aload_n 0, 1) := by decide +kernel
theorem dX3_take_21 : decode cX3_take 21 = .ok (.getfield 15, 3) := by decide +kernel
theorem dX3_take_24 : decode cX3_take 24 = .ok (.iconst 0, 1) := by decide +kernel
theorem dX3_take_25 : decode cX3_take 25 = .ok (.bipush 8, 2) := by decide +kernel
theorem dX3_take_27 : decode cX3_take 27 = .ok (.invokestatic 37, 3) := by decide +kernel
theorem dX3_take_30 : decode cX3_take 30 = .ok (.aload_n 1, 1) := by decide +kernel
theorem dX3_take_31 : decode cX3_take 31 = .ok (.getfield 18, 3) := by decide +kernel
theorem dX3_take_34 : decode cX3_take 34 = .ok (.iconst 0, 1) := by decide +kernel
theorem dX3_take_35 : decode cX3_take 35 = .ok (.aload_n 0, 1) := by decide +kernel
theorem dX3_take_36 : decode cX3_take 36 = .ok (.getfield 18, 3) := by decide +kernel
theorem dX3_take_39 : decode cX3_take 39 = .ok (.iconst 0, 1) := by decide +kernel
theorem dX3_take_40 : decode cX3_take 40 = .ok (.bipush 8, 2) := by decide +kernel
theorem dX3_take_42 : decode cX3_take 42 = .ok (.invokestatic 37, 3) := by decide +kernel
theorem dX3_take_45 : decode cX3_take 45 = .ok (.aload_n 1, 1) := by decide +kernel
theorem dX3_take_46 : decode cX3_take 46 = .ok (.getfield 21, 3) := by decide +kernel
theorem dX3_take_49 : decode cX3_take 49 = .ok (.iconst 0, 1) := by decide +kernel
theorem dX3_take_50 : decode cX3_take 50 = .ok (.aload_n 0, 1) := by decide +kernel
theorem dX3_take_51 : decode cX3_take 51 = .ok (.getfield 21, 3) := by decide +kernel
theorem dX3_take_54 : decode cX3_take 54 = .ok (.iconst 0, 1) := by decide +kernel
theorem dX3_take_55 : decode cX3_take 55 = .ok (.bipush 8, 2) := by decide +kernel
theorem dX3_take_57 : decode cX3_take 57 = .ok (.invokestatic 37, 3) := by decide +kernel
theorem dX3_take_60 : decode cX3_take 60 = .ok (.aload_n 1, 1) := by decide +kernel
theorem dX3_take_61 : decode cX3_take 61 = .ok (.getfield 24, 3) := by decide +kernel
theorem dX3_take_64 : decode cX3_take 64 = .ok (.iconst 0, 1) := by decide +kernel
theorem dX3_take_65 : decode cX3_take 65 = .ok (.aload_n 0, 1) := by decide +kernel
theorem dX3_take_66 : decode cX3_take 66 = .ok (.getfield 24, 3) := by decide +kernel
theorem dX3_take_69 : decode cX3_take 69 = .ok (.iconst 0, 1) := by decide +kernel
theorem dX3_take_70 : decode cX3_take 70 = .ok (.bipush 8, 2) := by decide +kernel
theorem dX3_take_72 : decode cX3_take 72 = .ok (.invokestatic 37, 3) := by decide +kernel
theorem dX3_take_75 : decode cX3_take 75 = .ok (.aload_n 0, 1) := by decide +kernel
theorem dX3_take_76 : decode cX3_take 76 = .ok (.aload_n 1, 1) := by decide +kernel
theorem dX3_take_77 : decode cX3_take 77 = .ok (.getfield 30, 3) := by decide +kernel
theorem dX3_take_80 : decode cX3_take 80 = .ok (.putfield 30, 3) := by decide +kernel
theorem dX3_take_83 : decode cX3_take 83 = .ok (.aload_n 0, 1) := by decide +kernel
theorem dX3_take_84 : decode cX3_take 84 = .ok (.aload_n 1, 1) := by decide +kernel
theorem dX3_take_85 : decode cX3_take 85 = .ok (.getfield 34, 3) := by decide +kernel
theorem dX3_take_88 : decode cX3_take 88 = .ok (.putfield 34, 3) := by decide +kernel
theorem dX3_take_91 : decode cX3_take 91 = .ok (.return_, 1) := by decide +kernel
theorem dX3_isFull_0 : decode cX3_isFull 0 = .ok (.aload_n 0, 1) := by decide +kernel
theorem dX3_isFull_1 : decode cX3_isFull 1 = .ok (.getfield 30, 3) := by decide +kernel
theorem dX3_isFull_4 : decode cX3_isFull 4 = .ok (.bipush 8, 2) := by decide +kernel
theorem dX3_isFull_6 : decode cX3_isFull 6 = .ok (.if_icmp .lt 7, 3) := by decide +kernel
theorem dX3_isFull_9 : decode cX3_isFull 9 = .ok (.iconst 1, 1) := by decide +kernel
theorem dX3_isFull_10 : decode cX3_isFull 10 = .ok (.goto 4, 3) := by decide +kernel
theorem dX3_isFull_13 : decode cX3_isFull 13 = .ok (.iconst 0, 1) := by decide +kernel
theorem dX3_isFull_14 : decode cX3_isFull 14 = .ok (.ireturn, 1) := by decide +kernel
set_option maxRecDepth 20000 in
theorem ggX3_join_X3_isFull : GoodIn wsX3_join wsX3_isFull := goodIn_r _ [10, 2, 11, 12, 13, 14, 15, 16, 17, 18] (by decide +kernel) (by decide +kernel)
set_option maxRecDepth 20000 in
theorem gX3_join_X3_isFull : GoodIn wsX3_join (wsV RX3 43 RX3 yX3_isFull wsX3_isFull) := goodIn_app (goodIn_of _ (by decide +kernel)) ggX3_join_X3_isFull
theorem dX3_join_0 : decode cX3_join 0 = .ok (.aload_n 0, 1) := by decide +kernel
theorem dX3_join_1 : decode cX3_join 1 = .ok (.invokevirtual 43, 3) := by decide +kernel
theorem dX3_join_4 : decode cX3_join 4 = .ok (.ifCond .ne 54, 3) := by decide +kernel
theorem dX3_join_7 : decode cX3_join 7 = .ok (.aload_n 0, 1) := by decide +kernel
theorem dX3_join_8 : decode cX3_join 8 = .ok (.getfield 15, 3) := by decide +kernel
theorem dX3_join_11 : decode cX3_join 11 = .ok (.aload_n 0, 1) := by decide +kernel
theorem dX3_join_12 : decode cX3_join 12 = .ok (.getfield 30, 3) := by decide +kernel
theorem dX3_join_15 : decode cX3_join 15 = .ok (.iload_n 1, 1) := by decide +kernel
theorem dX3_join_16 : decode cX3_join 16 = .ok (.iastore, 1) := by decide +kernel
theorem dX3_join_17 : decode cX3_join 17 = .ok (.aload_n 0, 1) := by decide +kernel
theorem dX3_join_18 : decode cX3_join 18 = .ok (.getfield 18, 3) := by decide +kernel
theorem dX3_join_21 : decode cX3_join 21 = .ok (.aload_n 0, 1) := by decide +kernel
theorem dX3_join_22 : decode cX3_join 22 = .ok (.getfield 30, 3) := by decide +kernel
theorem dX3_join_25 : decode cX3_join 25 = .ok (.iload_n 2, 1) := by decide +kernel
theorem dX3_join_26 : decode cX3_join 26 = .ok (.iastore, 1) := by decide +kernel
theorem dX3_join_27 : decode cX3_join 27 = .ok (.aload_n 0, 1) := by decide +kernel
theorem dX3_join_28 : decode cX3_join 28 = .ok (.getfield 21, 3) := by decide +kernel
theorem dX3_join_31 : decode cX3_join 31 = .ok (.aload_n 0, 1) := by decide +kernel
theorem dX3_join_32 : decode cX3_join 32 = .ok (.getfield 30, 3) := by decide +kernel
theorem dX3_join_35 : decode cX3_join 35 = .ok (.iload_n 3, 1) := by decide +kernel
theorem dX3_join_36 : decode cX3_join 36 = .ok (.iastore, 1) := by decide +kernel
theorem dX3_join_37 : decode cX3_join 37 = .ok (.aload_n 0, 1) := by decide +kernel
theorem dX3_join_38 : decode cX3_join 38 = .ok (.getfield 24, 3) := by decide +kernel
theorem dX3_join_41 : decode cX3_join 41 = .ok (.aload_n 0, 1) := by decide +kernel
theorem dX3_join_42 : decode cX3_join 42 = .ok (.getfield 30, 3) := by decide +kernel
theorem dX3_join_45 : decode cX3_join 45 = .ok (.iload 4, 2) := by decide +kernel
theorem dX3_join_47 : decode cX3_join 47 = .ok (.iastore, 1) := by decide +kernel
theorem dX3_join_48 : decode cX3_join 48 = .ok (.aload_n 0, 1) := by decide +kernel
theorem dX3_join_49 : decode cX3_join 49 = .ok (.dup, 1) := by decide +kernel
theorem dX3_join_50 : decode cX3_join 50 = .ok (.getfield 30, 3) := by decide +kernel
theorem dX3_join_53 : decode cX3_join 53 = .ok (.iconst 1, 1) := by decide +kernel
theorem dX3_join_54 : decode cX3_join 54 = .ok (.iadd, 1) := by decide +kernel
theorem dX3_join_55 : decode cX3_join 55 = .ok (.putfield 30, 3) := by decide +kernel
theorem dX3_join_58 : decode cX3_join 58 = .ok (.return_, 1) := by decide +kernel
set_option maxRecDepth 20000 in
theorem ggX3_dropAll_X5_isIn : GoodIn wsX3_dropAll wsX5_isIn := goodIn_r _ [8] (by decide +kernel) (by decide +kernel)
set_option maxRecDepth 20000 in
theorem gX3_dropAll_X5_isIn_n47 : GoodIn wsX3_dropAll (wsX5_isIn) := ggX3_dropAll_X5_isIn
theorem dX3_dropAll_0 : decode cX3_dropAll 0 = .ok (.iconst 0, 1) := by decide +kernel
theorem dX3_dropAll_1 : decode cX3_dropAll 1 = .ok (.istore_n 2, 1) := by decide +kernel
theorem dX3_dropAll_2 : decode cX3_dropAll 2 = .ok (.iconst 0, 1) := by decide +kernel
theorem dX3_dropAll_3 : decode cX3_dropAll 3 = .ok (.istore_n 3, 1) := by decide +kernel
theorem dX3_dropAll_4 : decode cX3_dropAll 4 = .ok (.iload_n 3, 1) := by decide +kernel
theorem dX3_dropAll_5 : decode cX3_dropAll 5 = .ok (.aload_n 0, 1) := by decide +kernel
theorem dX3_dropAll_6 : decode cX3_dropAll 6 = .ok (.getfield 30, 3) := by decide +kernel
theorem dX3_dropAll_9 : decode cX3_dropAll 9 = .ok (.if_icmp .ge 68, 3) := by decide +kernel
theorem dX3_dropAll_12 : decode cX3_dropAll 12 = .ok (.iload_n 1, 1) := by decide +kernel
theorem dX3_dropAll_13 : decode cX3_dropAll 13 = .ok (.iload_n 3, 1) := by decide +kernel
theorem dX3_dropAll_14 : decode cX3_dropAll 14 = .ok (.invokestatic 47, 3) := by decide +kernel
theorem dX3_dropAll_17 : decode cX3_dropAll 17 = .ok (.ifCond .ne 54, 3) := by decide +kernel
theorem dX3_dropAll_20 : decode cX3_dropAll 20 = .ok (.aload_n 0, 1) := by decide +kernel
theorem dX3_dropAll_21 : decode cX3_dropAll 21 = .ok (.getfield 15, 3) := by decide +kernel
theorem dX3_dropAll_24 : decode cX3_dropAll 24 = .ok (.iload_n 2, 1) := by decide +kernel
theorem dX3_dropAll_25 : decode cX3_dropAll 25 = .ok (.aload_n 0, 1) := by decide +kernel
theorem dX3_dropAll_26 : decode cX3_dropAll 26 = .ok (.getfield 15, 3) := by decide +kernel
theorem dX3_dropAll_29 : decode cX3_dropAll 29 = .ok (.iload_n 3, 1) := by decide +kernel
theorem dX3_dropAll_30 : decode cX3_dropAll 30 = .ok (.iaload, 1) := by decide +kernel
theorem dX3_dropAll_31 : decode cX3_dropAll 31 = .ok (.iastore, 1) := by decide +kernel
theorem dX3_dropAll_32 : decode cX3_dropAll 32 = .ok (.aload_n 0, 1) := by decide +kernel
theorem dX3_dropAll_33 : decode cX3_dropAll 33 = .ok (.getfield 18, 3) := by decide +kernel
theorem dX3_dropAll_36 : decode cX3_dropAll 36 = .ok (.iload_n 2, 1) := by decide +kernel
theorem dX3_dropAll_37 : decode cX3_dropAll 37 = .ok (.aload_n 0, 1) := by decide +kernel
theorem dX3_dropAll_38 : decode cX3_dropAll 38 = .ok (.getfield 18, 3) := by decide +kernel
theorem dX3_dropAll_41 : decode cX3_dropAll 41 = .ok (.iload_n 3, 1) := by decide +kernel
theorem dX3_dropAll_42 : decode cX3_dropAll 42 = .ok (.iaload, 1) := by decide +kernel
theorem dX3_dropAll_43 : decode cX3_dropAll 43 = .ok (.iastore, 1) := by decide +kernel
theorem dX3_dropAll_44 : decode cX3_dropAll 44 = .ok (.aload_n 0, 1) := by decide +kernel
theorem dX3_dropAll_45 : decode cX3_dropAll 45 = .ok (.getfield 21, 3) := by decide +kernel
theorem dX3_dropAll_48 : decode cX3_dropAll 48 = .ok (.iload_n 2, 1) := by decide +kernel
theorem dX3_dropAll_49 : decode cX3_dropAll 49 = .ok (.aload_n 0, 1) := by decide +kernel
theorem dX3_dropAll_50 : decode cX3_dropAll 50 = .ok (.getfield 21, 3) := by decide +kernel
theorem dX3_dropAll_53 : decode cX3_dropAll 53 = .ok (.iload_n 3, 1) := by decide +kernel
theorem dX3_dropAll_54 : decode cX3_dropAll 54 = .ok (.iaload, 1) := by decide +kernel
theorem dX3_dropAll_55 : decode cX3_dropAll 55 = .ok (.iastore, 1) := by decide +kernel
theorem dX3_dropAll_56 : decode cX3_dropAll 56 = .ok (.aload_n 0, 1) := by decide +kernel
theorem dX3_dropAll_57 : decode cX3_dropAll 57 = .ok (.getfield 24, 3) := by decide +kernel
theorem dX3_dropAll_60 : decode cX3_dropAll 60 = .ok (.iload_n 2, 1) := by decide +kernel
theorem dX3_dropAll_61 : decode cX3_dropAll 61 = .ok (.aload_n 0, 1) := by decide +kernel
theorem dX3_dropAll_62 : decode cX3_dropAll 62 = .ok (.getfield 24, 3) := by decide +kernel
theorem dX3_dropAll_65 : decode cX3_dropAll 65 = .ok (.iload_n 3, 1) := by decide +kernel
theorem dX3_dropAll_66 : decode cX3_dropAll 66 = .ok (.iaload, 1) := by decide +kernel
theorem dX3_dropAll_67 : decode cX3_dropAll 67 = .ok (.iastore, 1) := by decide +kernel
theorem dX3_dropAll_68 : decode cX3_dropAll 68 = .ok (.iinc 2 1, 3) := by decide +kernel
theorem dX3_dropAll_71 : decode cX3_dropAll 71 = .ok (.iinc 3 1, 3) := by decide +kernel
theorem dX3_dropAll_74 : decode cX3_dropAll 74 = .ok (.goto (-70), 3) := by decide +kernel
theorem dX3_dropAll_77 : decode cX3_dropAll 77 = .ok (.aload_n 0, 1) := by decide +kernel
theorem dX3_dropAll_78 : decode cX3_dropAll 78 = .ok (.iload_n 2, 1) := by decide +kernel
theorem dX3_dropAll_79 : decode cX3_dropAll 79 = .ok (.putfield 30, 3) := by decide +kernel
theorem dX3_dropAll_82 : decode cX3_dropAll 82 = .ok (.return_, 1) := by decide +kernel
theorem dX3_hollow_0 : decode cX3_hollow 0 = .ok (.iconst 0, 1) := by decide +kernel
theorem dX3_hollow_1 : decode cX3_hollow 1 = .ok (.istore_n 1, 1) := by decide +kernel
theorem dX3_hollow_2 : decode cX3_hollow 2 = .ok (.iconst 1, 1) := by decide +kernel
theorem dX3_hollow_3 : decode cX3_hollow 3 = .ok (.istore_n 2, 1) := by decide +kernel
theorem dX3_hollow_4 : decode cX3_hollow 4 = .ok (.iload_n 2, 1) := by decide +kernel
theorem dX3_hollow_5 : decode cX3_hollow 5 = .ok (.bipush 25, 2) := by decide +kernel
theorem dX3_hollow_7 : decode cX3_hollow 7 = .ok (.if_icmp .ge 26, 3) := by decide +kernel
theorem dX3_hollow_10 : decode cX3_hollow 10 = .ok (.aload_n 0, 1) := by decide +kernel
theorem dX3_hollow_11 : decode cX3_hollow 11 = .ok (.getfield 9, 3) := by decide +kernel
theorem dX3_hollow_14 : decode cX3_hollow 14 = .ok (.iload_n 2, 1) := by decide +kernel
theorem dX3_hollow_15 : decode cX3_hollow 15 = .ok (.iaload, 1) := by decide +kernel
theorem dX3_hollow_16 : decode cX3_hollow 16 = .ok (.aload_n 0, 1) := by decide +kernel
theorem dX3_hollow_17 : decode cX3_hollow 17 = .ok (.getfield 9, 3) := by decide +kernel
theorem dX3_hollow_20 : decode cX3_hollow 20 = .ok (.iload_n 1, 1) := by decide +kernel
theorem dX3_hollow_21 : decode cX3_hollow 21 = .ok (.iaload, 1) := by decide +kernel
theorem dX3_hollow_22 : decode cX3_hollow 22 = .ok (.if_icmp .le 5, 3) := by decide +kernel
theorem dX3_hollow_25 : decode cX3_hollow 25 = .ok (.iload_n 2, 1) := by decide +kernel
theorem dX3_hollow_26 : decode cX3_hollow 26 = .ok (.istore_n 1, 1) := by decide +kernel
theorem dX3_hollow_27 : decode cX3_hollow 27 = .ok (.iinc 2 1, 3) := by decide +kernel
theorem dX3_hollow_30 : decode cX3_hollow 30 = .ok (.goto (-26), 3) := by decide +kernel
theorem dX3_hollow_33 : decode cX3_hollow 33 = .ok (.iload_n 1, 1) := by decide +kernel
theorem dX3_hollow_34 : decode cX3_hollow 34 = .ok (.ireturn, 1) := by decide +kernel
set_option maxRecDepth 20000 in
theorem ggX3_besideBits_X5_apart : GoodIn wsX3_besideBits wsX5_apart := goodIn_r _ [5] (by decide +kernel) (by decide +kernel)
set_option maxRecDepth 20000 in
theorem gX3_besideBits_X5_apart_n51 : GoodIn wsX3_besideBits (wsX5_apart) := ggX3_besideBits_X5_apart
theorem dX3_besideBits_0 : decode cX3_besideBits 0 = .ok (.iconst 0, 1) := by decide +kernel
theorem dX3_besideBits_1 : decode cX3_besideBits 1 = .ok (.istore_n 2, 1) := by decide +kernel
theorem dX3_besideBits_2 : decode cX3_besideBits 2 = .ok (.iconst 0, 1) := by decide +kernel
theorem dX3_besideBits_3 : decode cX3_besideBits 3 = .ok (.istore_n 3, 1) := by decide +kernel
theorem dX3_besideBits_4 : decode cX3_besideBits 4 = .ok (.iload_n 3, 1) := by decide +kernel
theorem dX3_besideBits_5 : decode cX3_besideBits 5 = .ok (.aload_n 0, 1) := by decide +kernel
theorem dX3_besideBits_6 : decode cX3_besideBits 6 = .ok (.getfield 30, 3) := by decide +kernel
theorem dX3_besideBits_9 : decode cX3_besideBits 9 = .ok (.if_icmp .ge 39, 3) := by decide +kernel
theorem dX3_besideBits_12 : decode cX3_besideBits 12 = .ok (.iload_n 3, 1) := by decide +kernel
theorem dX3_besideBits_13 : decode cX3_besideBits 13 = .ok (.iload_n 1, 1) := by decide +kernel
theorem dX3_besideBits_14 : decode cX3_besideBits 14 = .ok (.if_icmp .eq 28, 3) := by decide +kernel
theorem dX3_besideBits_17 : decode cX3_besideBits 17 = .ok (.aload_n 0, 1) := by decide +kernel
theorem dX3_besideBits_18 : decode cX3_besideBits 18 = .ok (.getfield 21, 3) := by decide +kernel
theorem dX3_besideBits_21 : decode cX3_besideBits 21 = .ok (.iload_n 3, 1) := by decide +kernel
theorem dX3_besideBits_22 : decode cX3_besideBits 22 = .ok (.iaload, 1) := by decide +kernel
theorem dX3_besideBits_23 : decode cX3_besideBits 23 = .ok (.aload_n 0, 1) := by decide +kernel
theorem dX3_besideBits_24 : decode cX3_besideBits 24 = .ok (.getfield 21, 3) := by decide +kernel
theorem dX3_besideBits_27 : decode cX3_besideBits 27 = .ok (.iload_n 1, 1) := by decide +kernel
theorem dX3_besideBits_28 : decode cX3_besideBits 28 = .ok (.iaload, 1) := by decide +kernel
theorem dX3_besideBits_29 : decode cX3_besideBits 29 = .ok (.invokestatic 51, 3) := by decide +kernel
theorem dX3_besideBits_32 : decode cX3_besideBits 32 = .ok (.iconst 2, 1) := by decide +kernel
theorem dX3_besideBits_33 : decode cX3_besideBits 33 = .ok (.if_icmp .gt 9, 3) := by decide +kernel
theorem dX3_besideBits_36 : decode cX3_besideBits 36 = .ok (.iload_n 2, 1) := by decide +kernel
theorem dX3_besideBits_37 : decode cX3_besideBits 37 = .ok (.iconst 1, 1) := by decide +kernel
theorem dX3_besideBits_38 : decode cX3_besideBits 38 = .ok (.iload_n 3, 1) := by decide +kernel
theorem dX3_besideBits_39 : decode cX3_besideBits 39 = .ok (.ishl, 1) := by decide +kernel
theorem dX3_besideBits_40 : decode cX3_besideBits 40 = .ok (.ior, 1) := by decide +kernel
theorem dX3_besideBits_41 : decode cX3_besideBits 41 = .ok (.istore_n 2, 1) := by decide +kernel
theorem dX3_besideBits_42 : decode cX3_besideBits 42 = .ok (.iinc 3 1, 3) := by decide +kernel
theorem dX3_besideBits_45 : decode cX3_besideBits 45 = .ok (.goto (-41), 3) := by decide +kernel
theorem dX3_besideBits_48 : decode cX3_besideBits 48 = .ok (.iload_n 2, 1) := by decide +kernel
theorem dX3_besideBits_49 : decode cX3_besideBits 49 = .ok (.ireturn, 1) := by decide +kernel
theorem dX3_isBeliever_0 : decode cX3_isBeliever 0 = .ok (.aload_n 0, 1) := by decide +kernel
theorem dX3_isBeliever_1 : decode cX3_isBeliever 1 = .ok (.getfield 24, 3) := by decide +kernel
theorem dX3_isBeliever_4 : decode cX3_isBeliever 4 = .ok (.iload_n 1, 1) := by decide +kernel
theorem dX3_isBeliever_5 : decode cX3_isBeliever 5 = .ok (.iaload, 1) := by decide +kernel
theorem dX3_isBeliever_6 : decode cX3_isBeliever 6 = .ok (.iconst 5, 1) := by decide +kernel
theorem dX3_isBeliever_7 : decode cX3_isBeliever 7 = .ok (.if_icmp .lt 7, 3) := by decide +kernel
theorem dX3_isBeliever_10 : decode cX3_isBeliever 10 = .ok (.iconst 1, 1) := by decide +kernel
theorem dX3_isBeliever_11 : decode cX3_isBeliever 11 = .ok (.goto 4, 3) := by decide +kernel
theorem dX3_isBeliever_14 : decode cX3_isBeliever 14 = .ok (.iconst 0, 1) := by decide +kernel
theorem dX3_isBeliever_15 : decode cX3_isBeliever 15 = .ok (.ireturn, 1) := by decide +kernel
set_option maxRecDepth 20000 in
theorem ggX3_believerBits_X3_isBeliever : GoodIn wsX3_believerBits wsX3_isBeliever := goodIn_r _ [6, 7, 8, 9, 10, 11, 12, 13, 14, 15] (by decide +kernel) (by decide +kernel)
set_option maxRecDepth 20000 in
theorem gX3_believerBits_X3_isBeliever : GoodIn wsX3_believerBits (wsV RX3 55 RX3 yX3_isBeliever wsX3_isBeliever) := goodIn_app (goodIn_of _ (by decide +kernel)) ggX3_believerBits_X3_isBeliever
theorem dX3_believerBits_0 : decode cX3_believerBits 0 = .ok (.iconst 0, 1) := by decide +kernel
theorem dX3_believerBits_1 : decode cX3_believerBits 1 = .ok (.istore_n 1, 1) := by decide +kernel
theorem dX3_believerBits_2 : decode cX3_believerBits 2 = .ok (.iconst 0, 1) := by decide +kernel
theorem dX3_believerBits_3 : decode cX3_believerBits 3 = .ok (.istore_n 2, 1) := by decide +kernel
theorem dX3_believerBits_4 : decode cX3_believerBits 4 = .ok (.iload_n 2, 1) := by decide +kernel
theorem dX3_believerBits_5 : decode cX3_believerBits 5 = .ok (.aload_n 0, 1) := by decide +kernel
theorem dX3_believerBits_6 : decode cX3_believerBits 6 = .ok (.getfield 30, 3) := by decide +kernel
theorem dX3_believerBits_9 : decode cX3_believerBits 9 = .ok (.if_icmp .ge 23, 3) := by decide +kernel
theorem dX3_believerBits_12 : decode cX3_believerBits 12 = .ok (.aload_n 0, 1) := by decide +kernel
theorem dX3_believerBits_13 : decode cX3_believerBits 13 = .ok (.iload_n 2, 1) := by decide +kernel
theorem dX3_believerBits_14 : decode cX3_believerBits 14 = .ok (.invokevirtual 55, 3) := by decide +kernel
theorem dX3_believerBits_17 : decode cX3_believerBits 17 = .ok (.ifCond .eq 9, 3) := by decide +kernel
theorem dX3_believerBits_20 : decode cX3_believerBits 20 = .ok (.iload_n 1, 1) := by decide +kernel
theorem dX3_believerBits_21 : decode cX3_believerBits 21 = .ok (.iconst 1, 1) := by decide +kernel
theorem dX3_believerBits_22 : decode cX3_believerBits 22 = .ok (.iload_n 2, 1) := by decide +kernel
theorem dX3_believerBits_23 : decode cX3_believerBits 23 = .ok (.ishl, 1) := by decide +kernel
theorem dX3_believerBits_24 : decode cX3_believerBits 24 = .ok (.ior, 1) := by decide +kernel
theorem dX3_believerBits_25 : decode cX3_believerBits 25 = .ok (.istore_n 1, 1) := by decide +kernel
theorem dX3_believerBits_26 : decode cX3_believerBits 26 = .ok (.iinc 2 1, 3) := by decide +kernel
theorem dX3_believerBits_29 : decode cX3_believerBits 29 = .ok (.goto (-25), 3) := by decide +kernel
theorem dX3_believerBits_32 : decode cX3_believerBits 32 = .ok (.iload_n 1, 1) := by decide +kernel
theorem dX3_believerBits_33 : decode cX3_believerBits 33 = .ok (.ireturn, 1) := by decide +kernel
set_option maxRecDepth 20000 in
theorem ggX3_believers_X3_believerBits : GoodIn wsX3_believers wsX3_believerBits := goodIn_r _ [5, 6, 7, 8, 9, 4, 10, 11, 19, 20, 21, 22, 23, 24, 25, 26] (by decide +kernel) (by decide +kernel)
set_option maxRecDepth 20000 in
theorem gX3_believers_X3_believerBits : GoodIn wsX3_believers (wsV RX3 59 RX3 yX3_believerBits wsX3_believerBits) := goodIn_app (goodIn_of _ (by decide +kernel)) ggX3_believers_X3_believerBits
set_option maxRecDepth 20000 in
theorem ggX3_believers_J6_bitCount_0f7a4 : GoodIn wsX3_believers wsJ6_bitCount_0f7a4 := goodIn_r _ [15, 16, 17, 18] (by decide +kernel) (by decide +kernel)
set_option maxRecDepth 20000 in
theorem gX3_believers_J6_bitCount_0f7a4 : GoodIn wsX3_believers (va_wsS RX3 63 yJ6_bitCount_0f7a4 wsJ6_bitCount_0f7a4) := goodIn_app (goodIn_of _ (by decide +kernel)) ggX3_believers_J6_bitCount_0f7a4
theorem dX3_believers_0 : decode cX3_believers 0 = .ok (.aload_n 0, 1) := by decide +kernel
theorem dX3_believers_1 : decode cX3_believers 1 = .ok (.invokevirtual 59, 3) := by decide +kernel
theorem dX3_believers_4 : decode cX3_believers 4 = .ok (.invokestatic 63, 3) := by decide +kernel
theorem dX3_believers_7 : decode cX3_believers 7 = .ok (.ireturn, 1) := by decide +kernel
theorem dX3_allBelief_0 : decode cX3_allBelief 0 = .ok (.iconst 0, 1) := by decide +kernel
theorem dX3_allBelief_1 : decode cX3_allBelief 1 = .ok (.istore_n 1, 1) := by decide +kernel
theorem dX3_allBelief_2 : decode cX3_allBelief 2 = .ok (.iconst 0, 1) := by decide +kernel
theorem dX3_allBelief_3 : decode cX3_allBelief 3 = .ok (.istore_n 2, 1) := by decide +kernel
theorem dX3_allBelief_4 : decode cX3_allBelief 4 = .ok (.iload_n 2, 1) := by decide +kernel
theorem dX3_allBelief_5 : decode cX3_allBelief 5 = .ok (.aload_n 0, 1) := by decide +kernel
theorem dX3_allBelief_6 : decode cX3_allBelief 6 = .ok (.getfield 30, 3) := by decide +kernel
theorem dX3_allBelief_9 : decode cX3_allBelief 9 = .ok (.if_icmp .ge 18, 3) := by decide +kernel
theorem dX3_allBelief_12 : decode cX3_allBelief 12 = .ok (.iload_n 1, 1) := by decide +kernel
theorem dX3_allBelief_13 : decode cX3_allBelief 13 = .ok (.aload_n 0, 1) := by decide +kernel
theorem dX3_allBelief_14 : decode cX3_allBelief 14 = .ok (.getfield 24, 3) := by decide +kernel
theorem dX3_allBelief_17 : decode cX3_allBelief 17 = .ok (.iload_n 2, 1) := by decide +kernel
theorem dX3_allBelief_18 : decode cX3_allBelief 18 = .ok (.iaload, 1) := by decide +kernel
theorem dX3_allBelief_19 : decode cX3_allBelief 19 = .ok (.iadd, 1) := by decide +kernel
theorem dX3_allBelief_20 : decode cX3_allBelief 20 = .ok (.istore_n 1, 1) := by decide +kernel
theorem dX3_allBelief_21 : decode cX3_allBelief 21 = .ok (.iinc 2 1, 3) := by decide +kernel
theorem dX3_allBelief_24 : decode cX3_allBelief 24 = .ok (.goto (-20), 3) := by decide +kernel
theorem dX3_allBelief_27 : decode cX3_allBelief 27 = .ok (.iload_n 1, 1) := by decide +kernel
theorem dX3_allBelief_28 : decode cX3_allBelief 28 = .ok (.ireturn, 1) := by decide +kernel
theorem dX3_allDepth_0 : decode cX3_allDepth 0 = .ok (.iconst 0, 1) := by decide +kernel
theorem dX3_allDepth_1 : decode cX3_allDepth 1 = .ok (.istore_n 1, 1) := by decide +kernel
theorem dX3_allDepth_2 : decode cX3_allDepth 2 = .ok (.iconst 0, 1) := by decide +kernel
theorem dX3_allDepth_3 : decode cX3_allDepth 3 = .ok (.istore_n 2, 1) := by decide +kernel
theorem dX3_allDepth_4 : decode cX3_allDepth 4 = .ok (.iload_n 2, 1) := by decide +kernel
theorem dX3_allDepth_5 : decode cX3_allDepth 5 = .ok (.bipush 25, 2) := by decide +kernel
theorem dX3_allDepth_7 : decode cX3_allDepth 7 = .ok (.if_icmp .ge 18, 3) := by decide +kernel
theorem dX3_allDepth_10 : decode cX3_allDepth 10 = .ok (.iload_n 1, 1) := by decide +kernel
theorem dX3_allDepth_11 : decode cX3_allDepth 11 = .ok (.aload_n 0, 1) := by decide +kernel
theorem dX3_allDepth_12 : decode cX3_allDepth 12 = .ok (.getfield 9, 3) := by decide +kernel
theorem dX3_allDepth_15 : decode cX3_allDepth 15 = .ok (.iload_n 2, 1) := by decide +kernel
theorem dX3_allDepth_16 : decode cX3_allDepth 16 = .ok (.iaload, 1) := by decide +kernel
theorem dX3_allDepth_17 : decode cX3_allDepth 17 = .ok (.iadd, 1) := by decide +kernel
theorem dX3_allDepth_18 : decode cX3_allDepth 18 = .ok (.istore_n 1, 1) := by decide +kernel
theorem dX3_allDepth_19 : decode cX3_allDepth 19 = .ok (.iinc 2 1, 3) := by decide +kernel
theorem dX3_allDepth_22 : decode cX3_allDepth 22 = .ok (.goto (-18), 3) := by decide +kernel
theorem dX3_allDepth_25 : decode cX3_allDepth 25 = .ok (.iload_n 1, 1) := by decide +kernel
theorem dX3_allDepth_26 : decode cX3_allDepth 26 = .ok (.ireturn, 1) := by decide +kernel
set_option maxRecDepth 20000 in
theorem ggX3_nextBelief_X5_apart : GoodIn wsX3_nextBelief wsX5_apart := goodIn_r _ [14] (by decide +kernel) (by decide +kernel)
set_option maxRecDepth 20000 in
theorem gX3_nextBelief_X5_apart_n51 : GoodIn wsX3_nextBelief (wsX5_apart) := ggX3_nextBelief_X5_apart
set_option maxRecDepth 20000 in
theorem ggX3_nextBelief_X3_isBeliever : GoodIn wsX3_nextBelief wsX3_isBeliever := goodIn_r _ [19, 1, 29, 30, 31, 32, 33, 34, 35, 36] (by decide +kernel) (by decide +kernel)
set_option maxRecDepth 20000 in
theorem gX3_nextBelief_X3_isBeliever : GoodIn wsX3_nextBelief (wsV RX3 55 RX3 yX3_isBeliever wsX3_isBeliever) := goodIn_app (goodIn_of _ (by decide +kernel)) ggX3_nextBelief_X3_isBeliever
set_option maxRecDepth 20000 in
theorem ggX3_nextBelief_J6_compare_7cf53 : GoodIn wsX3_nextBelief wsJ6_compare_7cf53 := goodIn_r _ [23] (by decide +kernel) (by decide +kernel)
set_option maxRecDepth 20000 in
theorem gX3_nextBelief_J6_compare_7cf53 : GoodIn wsX3_nextBelief (va_wsS RX3 74 yJ6_compare_7cf53 wsJ6_compare_7cf53) := goodIn_app (goodIn_of _ (by decide +kernel)) ggX3_nextBelief_J6_compare_7cf53
set_option maxRecDepth 20000 in
theorem ggX3_nextBelief_X3_nextOfKind : GoodIn wsX3_nextBelief wsX3_nextOfKind := goodIn_r _ [27, 28, 1, 4, 5, 6, 7, 29, 30, 31, 32, 33, 34, 35, 36] (by decide +kernel) (by decide +kernel)
set_option maxRecDepth 20000 in
theorem gX3_nextBelief_X3_nextOfKind : GoodIn wsX3_nextBelief (wsV RX3 77 RX3 yX3_nextOfKind wsX3_nextOfKind) := goodIn_app (goodIn_of _ (by decide +kernel)) ggX3_nextBelief_X3_nextOfKind
theorem dX3_nextBelief_0 : decode cX3_nextBelief 0 = .ok (.aload_n 0, 1) := by decide +kernel
theorem dX3_nextBelief_1 : decode cX3_nextBelief 1 = .ok (.getfield 24, 3) := by decide +kernel
theorem dX3_nextBelief_4 : decode cX3_nextBelief 4 = .ok (.iload_n 1, 1) := by decide +kernel
theorem dX3_nextBelief_5 : decode cX3_nextBelief 5 = .ok (.iaload, 1) := by decide +kernel
theorem dX3_nextBelief_6 : decode cX3_nextBelief 6 = .ok (.istore_n 3, 1) := by decide +kernel
theorem dX3_nextBelief_7 : decode cX3_nextBelief 7 = .ok (.aload_n 0, 1) := by decide +kernel
theorem dX3_nextBelief_8 : decode cX3_nextBelief 8 = .ok (.getfield 21, 3) := by decide +kernel
theorem dX3_nextBelief_11 : decode cX3_nextBelief 11 = .ok (.iload_n 1, 1) := by decide +kernel
theorem dX3_nextBelief_12 : decode cX3_nextBelief 12 = .ok (.iaload, 1) := by decide +kernel
theorem dX3_nextBelief_13 : decode cX3_nextBelief 13 = .ok (.istore 4, 2) := by decide +kernel
theorem dX3_nextBelief_15 : decode cX3_nextBelief 15 = .ok (.iconst 0, 1) := by decide +kernel
theorem dX3_nextBelief_16 : decode cX3_nextBelief 16 = .ok (.istore 5, 2) := by decide +kernel
theorem dX3_nextBelief_18 : decode cX3_nextBelief 18 = .ok (.iconst (-1), 1) := by decide +kernel
theorem dX3_nextBelief_19 : decode cX3_nextBelief 19 = .ok (.istore 6, 2) := by decide +kernel
theorem dX3_nextBelief_21 : decode cX3_nextBelief 21 = .ok (.iconst 0, 1) := by decide +kernel
theorem dX3_nextBelief_22 : decode cX3_nextBelief 22 = .ok (.istore 7, 2) := by decide +kernel
theorem dX3_nextBelief_24 : decode cX3_nextBelief 24 = .ok (.iload 7, 2) := by decide +kernel
theorem dX3_nextBelief_26 : decode cX3_nextBelief 26 = .ok (.aload_n 0, 1) := by decide +kernel
theorem dX3_nextBelief_27 : decode cX3_nextBelief 27 = .ok (.getfield 30, 3) := by decide +kernel
theorem dX3_nextBelief_30 : decode cX3_nextBelief 30 = .ok (.if_icmp .ge 64, 3) := by decide +kernel
theorem dX3_nextBelief_33 : decode cX3_nextBelief 33 = .ok (.iload 7, 2) := by decide +kernel
theorem dX3_nextBelief_35 : decode cX3_nextBelief 35 = .ok (.iload_n 1, 1) := by decide +kernel
theorem dX3_nextBelief_36 : decode cX3_nextBelief 36 = .ok (.if_icmp .eq 52, 3) := by decide +kernel
theorem dX3_nextBelief_39 : decode cX3_nextBelief 39 = .ok (.aload_n 0, 1) := by decide +kernel
theorem dX3_nextBelief_40 : decode cX3_nextBelief 40 = .ok (.getfield 21, 3) := by decide +kernel
theorem dX3_nextBelief_43 : decode cX3_nextBelief 43 = .ok (.iload 7, 2) := by decide +kernel
theorem dX3_nextBelief_45 : decode cX3_nextBelief 45 = .ok (.iaload, 1) := by decide +kernel
theorem dX3_nextBelief_46 : decode cX3_nextBelief 46 = .ok (.iload 4, 2) := by decide +kernel
theorem dX3_nextBelief_48 : decode cX3_nextBelief 48 = .ok (.invokestatic 51, 3) := by decide +kernel
theorem dX3_nextBelief_51 : decode cX3_nextBelief 51 = .ok (.iconst 2, 1) := by decide +kernel
theorem dX3_nextBelief_52 : decode cX3_nextBelief 52 = .ok (.if_icmp .gt 36, 3) := by decide +kernel
theorem dX3_nextBelief_55 : decode cX3_nextBelief 55 = .ok (.iload 5, 2) := by decide +kernel
theorem dX3_nextBelief_57 : decode cX3_nextBelief 57 = .ok (.aload_n 0, 1) := by decide +kernel
theorem dX3_nextBelief_58 : decode cX3_nextBelief 58 = .ok (.iload 7, 2) := by decide +kernel
theorem dX3_nextBelief_60 : decode cX3_nextBelief 60 = .ok (.invokevirtual 55, 3) := by decide +kernel
theorem dX3_nextBelief_63 : decode cX3_nextBelief 63 = .ok (.ifCond .eq 7, 3) := by decide +kernel
theorem dX3_nextBelief_66 : decode cX3_nextBelief 66 = .ok (.iconst 1, 1) := by decide +kernel
theorem dX3_nextBelief_67 : decode cX3_nextBelief 67 = .ok (.goto 4, 3) := by decide +kernel
theorem dX3_nextBelief_70 : decode cX3_nextBelief 70 = .ok (.iconst (-1), 1) := by decide +kernel
theorem dX3_nextBelief_71 : decode cX3_nextBelief 71 = .ok (.iadd, 1) := by decide +kernel
theorem dX3_nextBelief_72 : decode cX3_nextBelief 72 = .ok (.istore 5, 2) := by decide +kernel
theorem dX3_nextBelief_74 : decode cX3_nextBelief 74 = .ok (.iload 6, 2) := by decide +kernel
theorem dX3_nextBelief_76 : decode cX3_nextBelief 76 = .ok (.aload_n 0, 1) := by decide +kernel
theorem dX3_nextBelief_77 : decode cX3_nextBelief 77 = .ok (.getfield 24, 3) := by decide +kernel
theorem dX3_nextBelief_80 : decode cX3_nextBelief 80 = .ok (.iload 7, 2) := by decide +kernel
theorem dX3_nextBelief_82 : decode cX3_nextBelief 82 = .ok (.iaload, 1) := by decide +kernel
theorem dX3_nextBelief_83 : decode cX3_nextBelief 83 = .ok (.invokestatic 69, 3) := by decide +kernel
theorem dX3_nextBelief_86 : decode cX3_nextBelief 86 = .ok (.istore 6, 2) := by decide +kernel
theorem dX3_nextBelief_88 : decode cX3_nextBelief 88 = .ok (.iinc 7 1, 3) := by decide +kernel
theorem dX3_nextBelief_91 : decode cX3_nextBelief 91 = .ok (.goto (-67), 3) := by decide +kernel
theorem dX3_nextBelief_94 : decode cX3_nextBelief 94 = .ok (.iload_n 3, 1) := by decide +kernel
theorem dX3_nextBelief_95 : decode cX3_nextBelief 95 = .ok (.iload 5, 2) := by decide +kernel
theorem dX3_nextBelief_97 : decode cX3_nextBelief 97 = .ok (.iconst 0, 1) := by decide +kernel
theorem dX3_nextBelief_98 : decode cX3_nextBelief 98 = .ok (.invokestatic 74, 3) := by decide +kernel
theorem dX3_nextBelief_101 : decode cX3_nextBelief 101 = .ok (.iadd, 1) := by decide +kernel
theorem dX3_nextBelief_102 : decode cX3_nextBelief 102 = .ok (.istore 7, 2) := by decide +kernel
theorem dX3_nextBelief_104 : decode cX3_nextBelief 104 = .ok (.iload 4, 2) := by decide +kernel
theorem dX3_nextBelief_106 : decode cX3_nextBelief 106 = .ok (.iload_n 2, 1) := by decide +kernel
theorem dX3_nextBelief_107 : decode cX3_nextBelief 107 = .ok (.invokestatic 51, 3) := by decide +kernel
theorem dX3_nextBelief_110 : decode cX3_nextBelief 110 = .ok (.aload_n 0, 1) := by decide +kernel
theorem dX3_nextBelief_111 : decode cX3_nextBelief 111 = .ok (.getfield 18, 3) := by decide +kernel
theorem dX3_nextBelief_114 : decode cX3_nextBelief 114 = .ok (.iload_n 1, 1) := by decide +kernel
theorem dX3_nextBelief_115 : decode cX3_nextBelief 115 = .ok (.iaload, 1) := by decide +kernel
theorem dX3_nextBelief_116 : decode cX3_nextBelief 116 = .ok (.if_icmp .gt 10, 3) := by decide +kernel
theorem dX3_nextBelief_119 : decode cX3_nextBelief 119 = .ok (.iload 7, 2) := by decide +kernel
theorem dX3_nextBelief_121 : decode cX3_nextBelief 121 = .ok (.iconst 1, 1) := by decide +kernel
theorem dX3_nextBelief_122 : decode cX3_nextBelief 122 = .ok (.iadd, 1) := by decide +kernel
theorem dX3_nextBelief_123 : decode cX3_nextBelief 123 = .ok (.goto 5, 3) := by decide +kernel
theorem dX3_nextBelief_126 : decode cX3_nextBelief 126 = .ok (.iload 7, 2) := by decide +kernel
theorem dX3_nextBelief_128 : decode cX3_nextBelief 128 = .ok (.istore 8, 2) := by decide +kernel
theorem dX3_nextBelief_130 : decode cX3_nextBelief 130 = .ok (.iload 6, 2) := by decide +kernel
theorem dX3_nextBelief_132 : decode cX3_nextBelief 132 = .ok (.ifCond .ge 7, 3) := by decide +kernel
theorem dX3_nextBelief_135 : decode cX3_nextBelief 135 = .ok (.iload_n 3, 1) := by decide +kernel
theorem dX3_nextBelief_136 : decode cX3_nextBelief 136 = .ok (.goto 5, 3) := by decide +kernel
theorem dX3_nextBelief_139 : decode cX3_nextBelief 139 = .ok (.iload 6, 2) := by decide +kernel
theorem dX3_nextBelief_141 : decode cX3_nextBelief 141 = .ok (.istore 9, 2) := by decide +kernel
theorem dX3_nextBelief_143 : decode cX3_nextBelief 143 = .ok (.iconst 0, 1) := by decide +kernel
theorem dX3_nextBelief_144 : decode cX3_nextBelief 144 = .ok (.bipush 9, 2) := by decide +kernel
theorem dX3_nextBelief_146 : decode cX3_nextBelief 146 = .ok (.aload_n 0, 1) := by decide +kernel
theorem dX3_nextBelief_147 : decode cX3_nextBelief 147 = .ok (.iload_n 1, 1) := by decide +kernel
theorem dX3_nextBelief_148 : decode cX3_nextBelief 148 = .ok (.iload 7, 2) := by decide +kernel
theorem dX3_nextBelief_150 : decode cX3_nextBelief 150 = .ok (.iload 8, 2) := by decide +kernel
theorem dX3_nextBelief_152 : decode cX3_nextBelief 152 = .ok (.iload 9, 2) := by decide +kernel
theorem dX3_nextBelief_154 : decode cX3_nextBelief 154 = .ok (.invokevirtual 77, 3) := by decide +kernel
theorem dX3_nextBelief_157 : decode cX3_nextBelief 157 = .ok (.invokestatic 81, 3) := by decide +kernel
theorem dX3_nextBelief_160 : decode cX3_nextBelief 160 = .ok (.invokestatic 69, 3) := by decide +kernel
theorem dX3_nextBelief_163 : decode cX3_nextBelief 163 = .ok (.ireturn, 1) := by decide +kernel
theorem dX3_nextOfKind_0 : decode cX3_nextOfKind 0 = .ok (.aload_n 0, 1) := by decide +kernel
theorem dX3_nextOfKind_1 : decode cX3_nextOfKind 1 = .ok (.getfield 15, 3) := by decide +kernel
theorem dX3_nextOfKind_4 : decode cX3_nextOfKind 4 = .ok (.iload_n 1, 1) := by decide +kernel
theorem dX3_nextOfKind_5 : decode cX3_nextOfKind 5 = .ok (.iaload, 1) := by decide +kernel
theorem dX3_nextOfKind_6 : decode cX3_nextOfKind 6 = .ok (.tableswitch 59 1 5 #[34, 36, 39, 43, 54], 34) := by decide +kernel
theorem dX3_nextOfKind_40 : decode cX3_nextOfKind 40 = .ok (.iload_n 3, 1) := by decide +kernel
theorem dX3_nextOfKind_41 : decode cX3_nextOfKind 41 = .ok (.ireturn, 1) := by decide +kernel
theorem dX3_nextOfKind_42 : decode cX3_nextOfKind 42 = .ok (.iload 4, 2) := by decide +kernel
theorem dX3_nextOfKind_44 : decode cX3_nextOfKind 44 = .ok (.ireturn, 1) := by decide +kernel
theorem dX3_nextOfKind_45 : decode cX3_nextOfKind 45 = .ok (.iload_n 2, 1) := by decide +kernel
theorem dX3_nextOfKind_46 : decode cX3_nextOfKind 46 = .ok (.iconst 1, 1) := by decide +kernel
theorem dX3_nextOfKind_47 : decode cX3_nextOfKind 47 = .ok (.isub, 1) := by decide +kernel
theorem dX3_nextOfKind_48 : decode cX3_nextOfKind 48 = .ok (.ireturn, 1) := by decide +kernel
theorem dX3_nextOfKind_49 : decode cX3_nextOfKind 49 = .ok (.iload_n 3, 1) := by decide +kernel
theorem dX3_nextOfKind_50 : decode cX3_nextOfKind 50 = .ok (.aload_n 0, 1) := by decide +kernel
theorem dX3_nextOfKind_51 : decode cX3_nextOfKind 51 = .ok (.getfield 24, 3) := by decide +kernel
theorem dX3_nextOfKind_54 : decode cX3_nextOfKind 54 = .ok (.iload_n 1, 1) := by decide +kernel
theorem dX3_nextOfKind_55 : decode cX3_nextOfKind 55 = .ok (.iaload, 1) := by decide +kernel
theorem dX3_nextOfKind_56 : decode cX3_nextOfKind 56 = .ok (.invokestatic 69, 3) := by decide +kernel
theorem dX3_nextOfKind_59 : decode cX3_nextOfKind 59 = .ok (.ireturn, 1) := by decide +kernel
theorem dX3_nextOfKind_60 : decode cX3_nextOfKind 60 = .ok (.iload 4, 2) := by decide +kernel
theorem dX3_nextOfKind_62 : decode cX3_nextOfKind 62 = .ok (.iconst 1, 1) := by decide +kernel
theorem dX3_nextOfKind_63 : decode cX3_nextOfKind 63 = .ok (.iadd, 1) := by decide +kernel
theorem dX3_nextOfKind_64 : decode cX3_nextOfKind 64 = .ok (.ireturn, 1) := by decide +kernel
theorem dX3_nextOfKind_65 : decode cX3_nextOfKind 65 = .ok (.iload_n 2, 1) := by decide +kernel
theorem dX3_nextOfKind_66 : decode cX3_nextOfKind 66 = .ok (.ireturn, 1) := by decide +kernel
set_option maxRecDepth 20000 in
theorem ggX3_passYears_X3_passYear : GoodIn wsX3_passYears wsX3_passYear := goodIn_r _ [5, 6, 7, 8, 9, 10, 11, 12, 13, 4, 14, 15, 16, 17, 18, 19, 20, 21, 22, 23, 24, 25, 26, 27, 28, 29, 30, 31, 32, 33, 34, 35, 36, 37, 38, 39, 40, 41, 42, 43, 44, 45, 46, 47, 48, 49, 50, 51, 52, 53, 54, 69, 70, 71, 72, 73, 74, 75, 76] (by decide +kernel) (by decide +kernel)
set_option maxRecDepth 20000 in
theorem gX3_passYears_X3_passYear : GoodIn wsX3_passYears (wsV RX3 84 RX3 yX3_passYear wsX3_passYear) := goodIn_app (goodIn_of _ (by decide +kernel)) ggX3_passYears_X3_passYear
set_option maxRecDepth 20000 in
theorem ggX3_passYears_X3_believers : GoodIn wsX3_passYears wsX3_believers := goodIn_r _ [58, 59, 60, 61, 4, 62, 6, 31, 32, 33, 34, 9, 63, 64, 37, 65, 66, 67, 68, 69, 70, 71, 72, 73, 74, 75, 76] (by decide +kernel) (by decide +kernel)
set_option maxRecDepth 20000 in
theorem gX3_passYears_X3_believers : GoodIn wsX3_passYears (wsV RX3 88 RX3 yX3_believers wsX3_believers) := goodIn_app (goodIn_of _ (by decide +kernel)) ggX3_passYears_X3_believers
theorem dX3_passYears_0 : decode cX3_passYears 0 = .ok (.iconst 0, 1) := by decide +kernel
theorem dX3_passYears_1 : decode cX3_passYears 1 = .ok (.istore_n 2, 1) := by decide +kernel
theorem dX3_passYears_2 : decode cX3_passYears 2 = .ok (.iload_n 2, 1) := by decide +kernel
theorem dX3_passYears_3 : decode cX3_passYears 3 = .ok (.iload_n 1, 1) := by decide +kernel
theorem dX3_passYears_4 : decode cX3_passYears 4 = .ok (.if_icmp .ge 15, 3) := by decide +kernel
theorem dX3_passYears_7 : decode cX3_passYears 7 = .ok (.aload_n 0, 1) := by decide +kernel
theorem dX3_passYears_8 : decode cX3_passYears 8 = .ok (.iconst 0, 1) := by decide +kernel
theorem dX3_passYears_9 : decode cX3_passYears 9 = .ok (.invokevirtual 84, 3) := by decide +kernel
theorem dX3_passYears_12 : decode cX3_passYears 12 = .ok (.pop, 1) := by decide +kernel
theorem dX3_passYears_13 : decode cX3_passYears 13 = .ok (.iinc 2 1, 3) := by decide +kernel
theorem dX3_passYears_16 : decode cX3_passYears 16 = .ok (.goto (-14), 3) := by decide +kernel
theorem dX3_passYears_19 : decode cX3_passYears 19 = .ok (.aload_n 0, 1) := by decide +kernel
theorem dX3_passYears_20 : decode cX3_passYears 20 = .ok (.invokevirtual 88, 3) := by decide +kernel
theorem dX3_passYears_23 : decode cX3_passYears 23 = .ok (.ireturn, 1) := by decide +kernel
set_option maxRecDepth 20000 in
theorem ggX3_passYear_X3_hollow : GoodIn wsX3_passYear wsX3_hollow := goodIn_r _ [10, 11, 51, 52, 53, 54, 55, 56, 57, 58] (by decide +kernel) (by decide +kernel)
set_option maxRecDepth 20000 in
theorem gX3_passYear_X3_hollow : GoodIn wsX3_passYear (wsV RX3 91 RX3 yX3_hollow wsX3_hollow) := goodIn_app (goodIn_of _ (by decide +kernel)) ggX3_passYear_X3_hollow
set_option maxRecDepth 20000 in
theorem ggX3_passYear_X3_nextBelief : GoodIn wsX3_passYear wsX3_nextBelief := goodIn_r _ [15, 4, 5, 1, 16, 17, 18, 19, 20, 21, 22, 23, 24, 25, 26, 27, 28, 29, 9, 30, 31, 32, 33, 34, 35, 36, 37, 38, 39, 51, 52, 53, 54, 55, 56, 57, 58] (by decide +kernel) (by decide +kernel)
set_option maxRecDepth 20000 in
theorem gX3_passYear_X3_nextBelief : GoodIn wsX3_passYear (wsV RX3 94 RX3 yX3_nextBelief wsX3_nextBelief) := goodIn_app (goodIn_of _ (by decide +kernel)) ggX3_passYear_X3_nextBelief
set_option maxRecDepth 20000 in
theorem ggX3_passYear_X3_believersAround : GoodIn wsX3_passYear wsX3_believersAround := goodIn_r _ [43, 1, 5, 27, 28, 29, 9, 30, 4, 24, 25, 26, 51, 52, 53, 54, 55, 56, 57, 58] (by decide +kernel) (by decide +kernel)
set_option maxRecDepth 20000 in
theorem gX3_passYear_X3_believersAround : GoodIn wsX3_passYear (wsV RX3 97 RX3 yX3_believersAround wsX3_believersAround) := goodIn_app (goodIn_of _ (by decide +kernel)) ggX3_passYear_X3_believersAround
set_option maxRecDepth 20000 in
theorem ggX3_passYear_X3_deepen : GoodIn wsX3_passYear wsX3_deepen := goodIn_r _ [47, 11, 21, 22, 18, 23, 16, 17, 19, 51, 52, 53, 54, 55, 56, 57, 58] (by decide +kernel) (by decide +kernel)
set_option maxRecDepth 20000 in
theorem gX3_passYear_X3_deepen : GoodIn wsX3_passYear (wsV RX3 100 RX3 yX3_deepen wsX3_deepen) := goodIn_app (goodIn_of _ (by decide +kernel)) ggX3_passYear_X3_deepen
set_option maxRecDepth 20000 in
theorem ggX3_passYear_X3_isBeliever : GoodIn wsX3_passYear wsX3_isBeliever := goodIn_r _ [30, 4, 51, 52, 53, 54, 55, 56, 57, 58] (by decide +kernel) (by decide +kernel)
set_option maxRecDepth 20000 in
theorem gX3_passYear_X3_isBeliever : GoodIn wsX3_passYear (wsV RX3 55 RX3 yX3_isBeliever wsX3_isBeliever) := goodIn_app (goodIn_of _ (by decide +kernel)) ggX3_passYear_X3_isBeliever
set_option maxRecDepth 20000 in
theorem ggX3_passYear_X3_nearer : GoodIn wsX3_passYear wsX3_nearer := goodIn_r _ [50, 31, 32, 33, 34] (by decide +kernel) (by decide +kernel)
set_option maxRecDepth 20000 in
theorem gX3_passYear_X3_nearer : GoodIn wsX3_passYear (va_wsS RX3 104 yX3_nearer wsX3_nearer) := goodIn_app (goodIn_of _ (by decide +kernel)) ggX3_passYear_X3_nearer
theorem dX3_passYear_0 : decode cX3_passYear 0 = .ok (.aload_n 0, 1) := by decide +kernel
theorem dX3_passYear_1 : decode cX3_passYear 1 = .ok (.invokevirtual 91, 3) := by decide +kernel
theorem dX3_passYear_4 : decode cX3_passYear 4 = .ok (.istore_n 2, 1) := by decide +kernel
theorem dX3_passYear_5 : decode cX3_passYear 5 = .ok (.iconst 0, 1) := by decide +kernel
theorem dX3_passYear_6 : decode cX3_passYear 6 = .ok (.istore_n 3, 1) := by decide +kernel
theorem dX3_passYear_7 : decode cX3_passYear 7 = .ok (.iload_n 3, 1) := by decide +kernel
theorem dX3_passYear_8 : decode cX3_passYear 8 = .ok (.aload_n 0, 1) := by decide +kernel
theorem dX3_passYear_9 : decode cX3_passYear 9 = .ok (.getfield 30, 3) := by decide +kernel
theorem dX3_passYear_12 : decode cX3_passYear 12 = .ok (.if_icmp .ge 21, 3) := by decide +kernel
theorem dX3_passYear_15 : decode cX3_passYear 15 = .ok (.aload_n 0, 1) := by decide +kernel
theorem dX3_passYear_16 : decode cX3_passYear 16 = .ok (.getfield 27, 3) := by decide +kernel
theorem dX3_passYear_19 : decode cX3_passYear 19 = .ok (.iload_n 3, 1) := by decide +kernel
theorem dX3_passYear_20 : decode cX3_passYear 20 = .ok (.aload_n 0, 1) := by decide +kernel
theorem dX3_passYear_21 : decode cX3_passYear 21 = .ok (.iload_n 3, 1) := by decide +kernel
theorem dX3_passYear_22 : decode cX3_passYear 22 = .ok (.iload_n 2, 1) := by decide +kernel
theorem dX3_passYear_23 : decode cX3_passYear 23 = .ok (.invokevirtual 94, 3) := by decide +kernel
theorem dX3_passYear_26 : decode cX3_passYear 26 = .ok (.iastore, 1) := by decide +kernel
theorem dX3_passYear_27 : decode cX3_passYear 27 = .ok (.iinc 3 1, 3) := by decide +kernel
theorem dX3_passYear_30 : decode cX3_passYear 30 = .ok (.goto (-23), 3) := by decide +kernel
theorem dX3_passYear_33 : decode cX3_passYear 33 = .ok (.aload_n 0, 1) := by decide +kernel
theorem dX3_passYear_34 : decode cX3_passYear 34 = .ok (.iload_n 2, 1) := by decide +kernel
theorem dX3_passYear_35 : decode cX3_passYear 35 = .ok (.iload_n 1, 1) := by decide +kernel
theorem dX3_passYear_36 : decode cX3_passYear 36 = .ok (.ifCond .eq 7, 3) := by decide +kernel
theorem dX3_passYear_39 : decode cX3_passYear 39 = .ok (.iconst 0, 1) := by decide +kernel
theorem dX3_passYear_40 : decode cX3_passYear 40 = .ok (.goto 8, 3) := by decide +kernel
theorem dX3_passYear_43 : decode cX3_passYear 43 = .ok (.aload_n 0, 1) := by decide +kernel
theorem dX3_passYear_44 : decode cX3_passYear 44 = .ok (.iload_n 2, 1) := by decide +kernel
theorem dX3_passYear_45 : decode cX3_passYear 45 = .ok (.invokevirtual 97, 3) := by decide +kernel
theorem dX3_passYear_48 : decode cX3_passYear 48 = .ok (.invokevirtual 100, 3) := by decide +kernel
theorem dX3_passYear_51 : decode cX3_passYear 51 = .ok (.aload_n 0, 1) := by decide +kernel
theorem dX3_passYear_52 : decode cX3_passYear 52 = .ok (.dup, 1) := by decide +kernel
theorem dX3_passYear_53 : decode cX3_passYear 53 = .ok (.getfield 34, 3) := by decide +kernel
theorem dX3_passYear_56 : decode cX3_passYear 56 = .ok (.iconst 1, 1) := by decide +kernel
theorem dX3_passYear_57 : decode cX3_passYear 57 = .ok (.iadd, 1) := by decide +kernel
theorem dX3_passYear_58 : decode cX3_passYear 58 = .ok (.putfield 34, 3) := by decide +kernel
theorem dX3_passYear_61 : decode cX3_passYear 61 = .ok (.iconst 0, 1) := by decide +kernel
theorem dX3_passYear_62 : decode cX3_passYear 62 = .ok (.istore_n 3, 1) := by decide +kernel
theorem dX3_passYear_63 : decode cX3_passYear 63 = .ok (.iconst 0, 1) := by decide +kernel
theorem dX3_passYear_64 : decode cX3_passYear 64 = .ok (.istore 4, 2) := by decide +kernel
theorem dX3_passYear_66 : decode cX3_passYear 66 = .ok (.iload 4, 2) := by decide +kernel
theorem dX3_passYear_68 : decode cX3_passYear 68 = .ok (.aload_n 0, 1) := by decide +kernel
theorem dX3_passYear_69 : decode cX3_passYear 69 = .ok (.getfield 30, 3) := by decide +kernel
theorem dX3_passYear_72 : decode cX3_passYear 72 = .ok (.if_icmp .ge 88, 3) := by decide +kernel
theorem dX3_passYear_75 : decode cX3_passYear 75 = .ok (.iload_n 3, 1) := by decide +kernel
theorem dX3_passYear_76 : decode cX3_passYear 76 = .ok (.aload_n 0, 1) := by decide +kernel
theorem dX3_passYear_77 : decode cX3_passYear 77 = .ok (.getfield 27, 3) := by decide +kernel
theorem dX3_passYear_80 : decode cX3_passYear 80 = .ok (.iload 4, 2) := by decide +kernel
theorem dX3_passYear_82 : decode cX3_passYear 82 = .ok (.iaload, 1) := by decide +kernel
theorem dX3_passYear_83 : decode cX3_passYear 83 = .ok (.aload_n 0, 1) := by decide +kernel
theorem dX3_passYear_84 : decode cX3_passYear 84 = .ok (.getfield 24, 3) := by decide +kernel
theorem dX3_passYear_87 : decode cX3_passYear 87 = .ok (.iload 4, 2) := by decide +kernel
theorem dX3_passYear_89 : decode cX3_passYear 89 = .ok (.iaload, 1) := by decide +kernel
theorem dX3_passYear_90 : decode cX3_passYear 90 = .ok (.if_icmp .eq 7, 3) := by decide +kernel
theorem dX3_passYear_93 : decode cX3_passYear 93 = .ok (.iconst 1, 1) := by decide +kernel
theorem dX3_passYear_94 : decode cX3_passYear 94 = .ok (.goto 4, 3) := by decide +kernel
theorem dX3_passYear_97 : decode cX3_passYear 97 = .ok (.iconst 0, 1) := by decide +kernel
theorem dX3_passYear_98 : decode cX3_passYear 98 = .ok (.ior, 1) := by decide +kernel
theorem dX3_passYear_99 : decode cX3_passYear 99 = .ok (.istore_n 3, 1) := by decide +kernel
theorem dX3_passYear_100 : decode cX3_passYear 100 = .ok (.aload_n 0, 1) := by decide +kernel
theorem dX3_passYear_101 : decode cX3_passYear 101 = .ok (.getfield 24, 3) := by decide +kernel
theorem dX3_passYear_104 : decode cX3_passYear 104 = .ok (.iload 4, 2) := by decide +kernel
theorem dX3_passYear_106 : decode cX3_passYear 106 = .ok (.aload_n 0, 1) := by decide +kernel
theorem dX3_passYear_107 : decode cX3_passYear 107 = .ok (.getfield 27, 3) := by decide +kernel
theorem dX3_passYear_110 : decode cX3_passYear 110 = .ok (.iload 4, 2) := by decide +kernel
theorem dX3_passYear_112 : decode cX3_passYear 112 = .ok (.iaload, 1) := by decide +kernel
theorem dX3_passYear_113 : decode cX3_passYear 113 = .ok (.iastore, 1) := by decide +kernel
theorem dX3_passYear_114 : decode cX3_passYear 114 = .ok (.aload_n 0, 1) := by decide +kernel
theorem dX3_passYear_115 : decode cX3_passYear 115 = .ok (.iload 4, 2) := by decide +kernel
theorem dX3_passYear_117 : decode cX3_passYear 117 = .ok (.invokevirtual 55, 3) := by decide +kernel
theorem dX3_passYear_120 : decode cX3_passYear 120 = .ok (.ifCond .eq 34, 3) := by decide +kernel
theorem dX3_passYear_123 : decode cX3_passYear 123 = .ok (.aload_n 0, 1) := by decide +kernel
theorem dX3_passYear_124 : decode cX3_passYear 124 = .ok (.getfield 21, 3) := by decide +kernel
theorem dX3_passYear_127 : decode cX3_passYear 127 = .ok (.iload 4, 2) := by decide +kernel
theorem dX3_passYear_129 : decode cX3_passYear 129 = .ok (.iaload, 1) := by decide +kernel
theorem dX3_passYear_130 : decode cX3_passYear 130 = .ok (.iload_n 2, 1) := by decide +kernel
theorem dX3_passYear_131 : decode cX3_passYear 131 = .ok (.if_icmp .eq 23, 3) := by decide +kernel
theorem dX3_passYear_134 : decode cX3_passYear 134 = .ok (.aload_n 0, 1) := by decide +kernel
theorem dX3_passYear_135 : decode cX3_passYear 135 = .ok (.getfield 21, 3) := by decide +kernel
theorem dX3_passYear_138 : decode cX3_passYear 138 = .ok (.iload 4, 2) := by decide +kernel
theorem dX3_passYear_140 : decode cX3_passYear 140 = .ok (.aload_n 0, 1) := by decide +kernel
theorem dX3_passYear_141 : decode cX3_passYear 141 = .ok (.getfield 21, 3) := by decide +kernel
theorem dX3_passYear_144 : decode cX3_passYear 144 = .ok (.iload 4, 2) := by decide +kernel
theorem dX3_passYear_146 : decode cX3_passYear 146 = .ok (.iaload, 1) := by decide +kernel
theorem dX3_passYear_147 : decode cX3_passYear 147 = .ok (.iload_n 2, 1) := by decide +kernel
theorem dX3_passYear_148 : decode cX3_passYear 148 = .ok (.invokestatic 104, 3) := by decide +kernel
theorem dX3_passYear_151 : decode cX3_passYear 151 = .ok (.iastore, 1) := by decide +kernel
theorem dX3_passYear_152 : decode cX3_passYear 152 = .ok (.iconst 1, 1) := by decide +kernel
theorem dX3_passYear_153 : decode cX3_passYear 153 = .ok (.istore_n 3, 1) := by decide +kernel
theorem dX3_passYear_154 : decode cX3_passYear 154 = .ok (.iinc 4 1, 3) := by decide +kernel
theorem dX3_passYear_157 : decode cX3_passYear 157 = .ok (.goto (-91), 3) := by decide +kernel
theorem dX3_passYear_160 : decode cX3_passYear 160 = .ok (.iload_n 3, 1) := by decide +kernel
theorem dX3_passYear_161 : decode cX3_passYear 161 = .ok (.ireturn, 1) := by decide +kernel
set_option maxRecDepth 20000 in
theorem ggX3_believersAround_X3_isBeliever : GoodIn wsX3_believersAround wsX3_isBeliever := goodIn_r _ [7, 8, 12, 13, 14, 15, 16, 17, 18, 19] (by decide +kernel) (by decide +kernel)
set_option maxRecDepth 20000 in
theorem gX3_believersAround_X3_isBeliever : GoodIn wsX3_believersAround (wsV RX3 55 RX3 yX3_isBeliever wsX3_isBeliever) := goodIn_app (goodIn_of _ (by decide +kernel)) ggX3_believersAround_X3_isBeliever
set_option maxRecDepth 20000 in
theorem ggX3_believersAround_X5_apart : GoodIn wsX3_believersAround wsX5_apart := goodIn_r _ [11] (by decide +kernel) (by decide +kernel)
set_option maxRecDepth 20000 in
theorem gX3_believersAround_X5_apart_n51 : GoodIn wsX3_believersAround (wsX5_apart) := ggX3_believersAround_X5_apart
theorem dX3_believersAround_0 : decode cX3_believersAround 0 = .ok (.iconst 0, 1) := by decide +kernel
theorem dX3_believersAround_1 : decode cX3_believersAround 1 = .ok (.istore_n 2, 1) := by decide +kernel
theorem dX3_believersAround_2 : decode cX3_believersAround 2 = .ok (.iconst 0, 1) := by decide +kernel
theorem dX3_believersAround_3 : decode cX3_believersAround 3 = .ok (.istore_n 3, 1) := by decide +kernel
theorem dX3_believersAround_4 : decode cX3_believersAround 4 = .ok (.iload_n 3, 1) := by decide +kernel
theorem dX3_believersAround_5 : decode cX3_believersAround 5 = .ok (.aload_n 0, 1) := by decide +kernel
theorem dX3_believersAround_6 : decode cX3_believersAround 6 = .ok (.getfield 30, 3) := by decide +kernel
theorem dX3_believersAround_9 : decode cX3_believersAround 9 = .ok (.if_icmp .ge 34, 3) := by decide +kernel
theorem dX3_believersAround_12 : decode cX3_believersAround 12 = .ok (.aload_n 0, 1) := by decide +kernel
theorem dX3_believersAround_13 : decode cX3_believersAround 13 = .ok (.iload_n 3, 1) := by decide +kernel
theorem dX3_believersAround_14 : decode cX3_believersAround 14 = .ok (.invokevirtual 55, 3) := by decide +kernel
theorem dX3_believersAround_17 : decode cX3_believersAround 17 = .ok (.ifCond .eq 20, 3) := by decide +kernel
theorem dX3_believersAround_20 : decode cX3_believersAround 20 = .ok (.aload_n 0, 1) := by decide +kernel
theorem dX3_believersAround_21 : decode cX3_believersAround 21 = .ok (.getfield 21, 3) := by decide +kernel
theorem dX3_believersAround_24 : decode cX3_believersAround 24 = .ok (.iload_n 3, 1) := by decide +kernel
theorem dX3_believersAround_25 : decode cX3_believersAround 25 = .ok (.iaload, 1) := by decide +kernel
theorem dX3_believersAround_26 : decode cX3_believersAround 26 = .ok (.iload_n 1, 1) := by decide +kernel
theorem dX3_believersAround_27 : decode cX3_believersAround 27 = .ok (.invokestatic 51, 3) := by decide +kernel
theorem dX3_believersAround_30 : decode cX3_believersAround 30 = .ok (.iconst 2, 1) := by decide +kernel
theorem dX3_believersAround_31 : decode cX3_believersAround 31 = .ok (.if_icmp .gt 6, 3) := by decide +kernel
theorem dX3_believersAround_34 : decode cX3_believersAround 34 = .ok (.iinc 2 1, 3) := by decide +kernel
theorem dX3_believersAround_37 : decode cX3_believersAround 37 = .ok (.iinc 3 1, 3) := by decide +kernel
theorem dX3_believersAround_40 : decode cX3_believersAround 40 = .ok (.goto (-36), 3) := by decide +kernel
theorem dX3_believersAround_43 : decode cX3_believersAround 43 = .ok (.iload_n 2, 1) := by decide +kernel
theorem dX3_believersAround_44 : decode cX3_believersAround 44 = .ok (.ireturn, 1) := by decide +kernel
theorem dX3_deepen_0 : decode cX3_deepen 0 = .ok (.iconst 0, 1) := by decide +kernel
theorem dX3_deepen_1 : decode cX3_deepen 1 = .ok (.istore_n 3, 1) := by decide +kernel
theorem dX3_deepen_2 : decode cX3_deepen 2 = .ok (.iload_n 3, 1) := by decide +kernel
theorem dX3_deepen_3 : decode cX3_deepen 3 = .ok (.bipush 25, 2) := by decide +kernel
theorem dX3_deepen_5 : decode cX3_deepen 5 = .ok (.if_icmp .ge 45, 3) := by decide +kernel
theorem dX3_deepen_8 : decode cX3_deepen 8 = .ok (.iload_n 3, 1) := by decide +kernel
theorem dX3_deepen_9 : decode cX3_deepen 9 = .ok (.iload_n 1, 1) := by decide +kernel
theorem dX3_deepen_10 : decode cX3_deepen 10 = .ok (.if_icmp .ne 7, 3) := by decide +kernel
theorem dX3_deepen_13 : decode cX3_deepen 13 = .ok (.iload_n 2, 1) := by decide +kernel
theorem dX3_deepen_14 : decode cX3_deepen 14 = .ok (.goto 4, 3) := by decide +kernel
theorem dX3_deepen_17 : decode cX3_deepen 17 = .ok (.iconst (-1), 1) := by decide +kernel
theorem dX3_deepen_18 : decode cX3_deepen 18 = .ok (.istore 4, 2) := by decide +kernel
theorem dX3_deepen_20 : decode cX3_deepen 20 = .ok (.aload_n 0, 1) := by decide +kernel
theorem dX3_deepen_21 : decode cX3_deepen 21 = .ok (.getfield 9, 3) := by decide +kernel
theorem dX3_deepen_24 : decode cX3_deepen 24 = .ok (.iload_n 3, 1) := by decide +kernel
theorem dX3_deepen_25 : decode cX3_deepen 25 = .ok (.iconst 0, 1) := by decide +kernel
theorem dX3_deepen_26 : decode cX3_deepen 26 = .ok (.bipush 99, 2) := by decide +kernel
theorem dX3_deepen_28 : decode cX3_deepen 28 = .ok (.aload_n 0, 1) := by decide +kernel
theorem dX3_deepen_29 : decode cX3_deepen 29 = .ok (.getfield 9, 3) := by decide +kernel
theorem dX3_deepen_32 : decode cX3_deepen 32 = .ok (.iload_n 3, 1) := by decide +kernel
theorem dX3_deepen_33 : decode cX3_deepen 33 = .ok (.iaload, 1) := by decide +kernel
theorem dX3_deepen_34 : decode cX3_deepen 34 = .ok (.iload 4, 2) := by decide +kernel
theorem dX3_deepen_36 : decode cX3_deepen 36 = .ok (.iadd, 1) := by decide +kernel
theorem dX3_deepen_37 : decode cX3_deepen 37 = .ok (.invokestatic 81, 3) := by decide +kernel
theorem dX3_deepen_40 : decode cX3_deepen 40 = .ok (.invokestatic 69, 3) := by decide +kernel
theorem dX3_deepen_43 : decode cX3_deepen 43 = .ok (.iastore, 1) := by decide +kernel
theorem dX3_deepen_44 : decode cX3_deepen 44 = .ok (.iinc 3 1, 3) := by decide +kernel
theorem dX3_deepen_47 : decode cX3_deepen 47 = .ok (.goto (-45), 3) := by decide +kernel
theorem dX3_deepen_50 : decode cX3_deepen 50 = .ok (.return_, 1) := by decide +kernel
set_option maxRecDepth 20000 in
theorem ggX3_nearer_J6_compare_7cf53 : GoodIn wsX3_nearer wsJ6_compare_7cf53 := goodIn_r _ [4] (by decide +kernel) (by decide +kernel)
set_option maxRecDepth 20000 in
theorem gX3_nearer_J6_compare_7cf53 : GoodIn wsX3_nearer (va_wsS RX3 74 yJ6_compare_7cf53 wsJ6_compare_7cf53) := goodIn_app (goodIn_of _ (by decide +kernel)) ggX3_nearer_J6_compare_7cf53
theorem dX3_nearer_0 : decode cX3_nearer 0 = .ok (.iload_n 1, 1) := by decide +kernel
theorem dX3_nearer_1 : decode cX3_nearer 1 = .ok (.iconst 5, 1) := by decide +kernel
theorem dX3_nearer_2 : decode cX3_nearer 2 = .ok (.idiv, 1) := by decide +kernel
theorem dX3_nearer_3 : decode cX3_nearer 3 = .ok (.iload_n 0, 1) := by decide +kernel
theorem dX3_nearer_4 : decode cX3_nearer 4 = .ok (.iconst 5, 1) := by decide +kernel
theorem dX3_nearer_5 : decode cX3_nearer 5 = .ok (.idiv, 1) := by decide +kernel
theorem dX3_nearer_6 : decode cX3_nearer 6 = .ok (.invokestatic 74, 3) := by decide +kernel
theorem dX3_nearer_9 : decode cX3_nearer 9 = .ok (.istore_n 2, 1) := by decide +kernel
theorem dX3_nearer_10 : decode cX3_nearer 10 = .ok (.iload_n 2, 1) := by decide +kernel
theorem dX3_nearer_11 : decode cX3_nearer 11 = .ok (.ifCond .eq 11, 3) := by decide +kernel
theorem dX3_nearer_14 : decode cX3_nearer 14 = .ok (.iload_n 0, 1) := by decide +kernel
theorem dX3_nearer_15 : decode cX3_nearer 15 = .ok (.iconst 5, 1) := by decide +kernel
theorem dX3_nearer_16 : decode cX3_nearer 16 = .ok (.iload_n 2, 1) := by decide +kernel
theorem dX3_nearer_17 : decode cX3_nearer 17 = .ok (.imul, 1) := by decide +kernel
theorem dX3_nearer_18 : decode cX3_nearer 18 = .ok (.iadd, 1) := by decide +kernel
theorem dX3_nearer_19 : decode cX3_nearer 19 = .ok (.goto 14, 3) := by decide +kernel
theorem dX3_nearer_22 : decode cX3_nearer 22 = .ok (.iload_n 0, 1) := by decide +kernel
theorem dX3_nearer_23 : decode cX3_nearer 23 = .ok (.iload_n 1, 1) := by decide +kernel
theorem dX3_nearer_24 : decode cX3_nearer 24 = .ok (.iconst 5, 1) := by decide +kernel
theorem dX3_nearer_25 : decode cX3_nearer 25 = .ok (.irem, 1) := by decide +kernel
theorem dX3_nearer_26 : decode cX3_nearer 26 = .ok (.iload_n 0, 1) := by decide +kernel
theorem dX3_nearer_27 : decode cX3_nearer 27 = .ok (.iconst 5, 1) := by decide +kernel
theorem dX3_nearer_28 : decode cX3_nearer 28 = .ok (.irem, 1) := by decide +kernel
theorem dX3_nearer_29 : decode cX3_nearer 29 = .ok (.invokestatic 74, 3) := by decide +kernel
theorem dX3_nearer_32 : decode cX3_nearer 32 = .ok (.iadd, 1) := by decide +kernel
theorem dX3_nearer_33 : decode cX3_nearer 33 = .ok (.ireturn, 1) := by decide +kernel
theorem dX4_init_0 : decode cX4_init 0 = .ok (.aload_n 0, 1) := by decide +kernel
theorem dX4_init_1 : decode cX4_init 1 = .ok (.invokespecial 3, 3) := by decide +kernel
theorem dX4_init_4 : decode cX4_init 4 = .ok (.aload_n 0, 1) := by decide +kernel
theorem dX4_init_5 : decode cX4_init 5 = .ok (.bipush 96, 2) := by decide +kernel
theorem dX4_init_7 : decode cX4_init 7 = .ok (.newarray .int, 2) := by decide +kernel
theorem dX4_init_9 : decode cX4_init 9 = .ok (.putfield 9, 3) := by decide +kernel
theorem dX4_init_12 : decode cX4_init 12 = .ok (.aload_n 0, 1) := by decide +kernel
theorem dX4_init_13 : decode cX4_init 13 = .ok (.iconst 0, 1) := by decide +kernel
theorem dX4_init_14 : decode cX4_init 14 = .ok (.putfield 15, 3) := by decide +kernel
theorem dX4_init_17 : decode cX4_init 17 = .ok (.aload_n 0, 1) := by decide +kernel
theorem dX4_init_18 : decode cX4_init 18 = .ok (.aload_n 1, 1) := by decide +kernel
theorem dX4_init_19 : decode cX4_init 19 = .ok (.putfield 19, 3) := by decide +kernel
theorem dX4_init_22 : decode cX4_init 22 = .ok (.aload_n 0, 1) := by decide +kernel
theorem dX4_init_23 : decode cX4_init 23 = .ok (.aload_n 2, 1) := by decide +kernel
theorem dX4_init_24 : decode cX4_init 24 = .ok (.putfield 23, 3) := by decide +kernel
theorem dX4_init_27 : decode cX4_init 27 = .ok (.return_, 1) := by decide +kernel
theorem dX4_isFull_0 : decode cX4_isFull 0 = .ok (.aload_n 0, 1) := by decide +kernel
theorem dX4_isFull_1 : decode cX4_isFull 1 = .ok (.getfield 15, 3) := by decide +kernel
theorem dX4_isFull_4 : decode cX4_isFull 4 = .ok (.bipush 96, 2) := by decide +kernel
theorem dX4_isFull_6 : decode cX4_isFull 6 = .ok (.if_icmp .lt 7, 3) := by decide +kernel
theorem dX4_isFull_9 : decode cX4_isFull 9 = .ok (.iconst 1, 1) := by decide +kernel
theorem dX4_isFull_10 : decode cX4_isFull 10 = .ok (.goto 4, 3) := by decide +kernel
theorem dX4_isFull_13 : decode cX4_isFull 13 = .ok (.iconst 0, 1) := by decide +kernel
theorem dX4_isFull_14 : decode cX4_isFull 14 = .ok (.ireturn, 1) := by decide +kernel
set_option maxRecDepth 20000 in
theorem ggX4_append_X4_isFull : GoodIn wsX4_append wsX4_isFull := goodIn_r _ [7, 2, 8, 9, 10, 11] (by decide +kernel) (by decide +kernel)
set_option maxRecDepth 20000 in
theorem gX4_append_X4_isFull : GoodIn wsX4_append (wsV RX4 26 RX4 yX4_isFull wsX4_isFull) := goodIn_app (goodIn_of _ (by decide +kernel)) ggX4_append_X4_isFull
theorem dX4_append_0 : decode cX4_append 0 = .ok (.aload_n 0, 1) := by decide +kernel
theorem dX4_append_1 : decode cX4_append 1 = .ok (.invokevirtual 26, 3) := by decide +kernel
theorem dX4_append_4 : decode cX4_append 4 = .ok (.ifCond .ne 23, 3) := by decide +kernel
theorem dX4_append_7 : decode cX4_append 7 = .ok (.aload_n 0, 1) := by decide +kernel
theorem dX4_append_8 : decode cX4_append 8 = .ok (.getfield 9, 3) := by decide +kernel
theorem dX4_append_11 : decode cX4_append 11 = .ok (.aload_n 0, 1) := by decide +kernel
theorem dX4_append_12 : decode cX4_append 12 = .ok (.getfield 15, 3) := by decide +kernel
theorem dX4_append_15 : decode cX4_append 15 = .ok (.iload_n 1, 1) := by decide +kernel
theorem dX4_append_16 : decode cX4_append 16 = .ok (.iastore, 1) := by decide +kernel
theorem dX4_append_17 : decode cX4_append 17 = .ok (.aload_n 0, 1) := by decide +kernel
theorem dX4_append_18 : decode cX4_append 18 = .ok (.dup, 1) := by decide +kernel
theorem dX4_append_19 : decode cX4_append 19 = .ok (.getfield 15, 3) := by decide +kernel
theorem dX4_append_22 : decode cX4_append 22 = .ok (.iconst 1, 1) := by decide +kernel
theorem dX4_append_23 : decode cX4_append 23 = .ok (.iadd, 1) := by decide +kernel
theorem dX4_append_24 : decode cX4_append 24 = .ok (.putfield 15, 3) := by decide +kernel
theorem dX4_append_27 : decode cX4_append 27 = .ok (.aload_n 0, 1) := by decide +kernel
theorem dX4_append_28 : decode cX4_append 28 = .ok (.getfield 15, 3) := by decide +kernel
theorem dX4_append_31 : decode cX4_append 31 = .ok (.ireturn, 1) := by decide +kernel
theorem dX4_empty_0 : decode cX4_empty 0 = .ok (.aload_n 0, 1) := by decide +kernel
theorem dX4_empty_1 : decode cX4_empty 1 = .ok (.iconst 0, 1) := by decide +kernel
theorem dX4_empty_2 : decode cX4_empty 2 = .ok (.putfield 15, 3) := by decide +kernel
theorem dX4_empty_5 : decode cX4_empty 5 = .ok (.return_, 1) := by decide +kernel
set_option maxRecDepth 20000 in
theorem ggX4_become_X4_placeOfWrongForm : GoodIn wsX4_become wsX4_placeOfWrongForm := goodIn_r _ [13, 3, 4, 14, 15, 12, 16, 17, 18, 19, 20, 21, 22, 146, 147, 148, 149] (by decide +kernel) (by decide +kernel)
set_option maxRecDepth 20000 in
theorem gX4_become_X4_placeOfWrongForm : GoodIn wsX4_become (wsV RX4 30 RX4 yX4_placeOfWrongForm wsX4_placeOfWrongForm) := goodIn_app (goodIn_of _ (by decide +kernel)) ggX4_become_X4_placeOfWrongForm
set_option maxRecDepth 20000 in
theorem ggX4_become_X3_take : GoodIn wsX4_become wsX3_take := goodIn_r _ [27, 28, 29, 30, 31, 32, 33, 34, 35, 36, 37, 38, 150, 151, 152, 153, 154, 155, 156, 157] (by decide +kernel) (by decide +kernel)
set_option maxRecDepth 20000 in
theorem gX4_become_X3_take : GoodIn wsX4_become (wsV RX4 34 RX3 yX3_take wsX3_take) := goodIn_app (goodIn_of _ (by decide +kernel)) ggX4_become_X3_take
set_option maxRecDepth 20000 in
theorem ggX4_become_X4_comes : GoodIn wsX4_become wsX4_comes := goodIn_r _ [42, 1, 43, 44, 45, 46, 12, 47, 3, 4, 20, 21, 22, 48, 49, 50, 51, 52, 53, 54, 55, 56, 57, 58, 59, 60, 61, 62, 26, 63, 37, 64, 65, 66, 67, 33, 34, 35, 36, 68, 69, 70, 71, 72, 73, 74, 75, 76, 77, 78, 79, 80, 81, 82, 83, 84, 85, 86, 87, 88, 89, 90, 91, 92, 93, 38, 94, 95, 96, 97, 28, 98, 99, 100, 101, 102, 6, 7, 8, 103, 104, 105, 106, 107, 108, 109, 110, 111, 112, 113, 114, 115, 116, 117, 118, 119, 120, 121, 122, 123, 124, 125, 126, 127, 128, 129, 130, 131, 132, 133, 134, 135, 136, 137, 138, 139, 140, 141, 142, 143, 144, 145, 146, 147, 148, 149, 150, 151, 152, 153, 154, 155, 156, 157] (by decide +kernel) (by decide +kernel)
set_option maxRecDepth 20000 in
theorem gX4_become_X4_comes : GoodIn wsX4_become (wsV RX4 40 RX4 yX4_comes wsX4_comes) := goodIn_app (goodIn_of _ (by decide +kernel)) ggX4_become_X4_comes
set_option maxRecDepth 20000 in
theorem ggX4_become_X4_lengthOf : GoodIn wsX4_become wsX4_lengthOf := goodIn_r _ [16] (by decide +kernel) (by decide +kernel)
set_option maxRecDepth 20000 in
theorem gX4_become_X4_lengthOf : GoodIn wsX4_become (va_wsS RX4 44 yX4_lengthOf wsX4_lengthOf) := goodIn_app (goodIn_of _ (by decide +kernel)) ggX4_become_X4_lengthOf
theorem dX4_become_0 : decode cX4_become 0 = .ok (.aload_n 0, 1) := by decide +kernel
theorem dX4_become_1 : decode cX4_become 1 = .ok (.invokevirtual 30, 3) := by decide +kernel
theorem dX4_become_4 : decode cX4_become 4 = .ok (.istore_n 1, 1) := by decide +kernel
theorem dX4_become_5 : decode cX4_become 5 = .ok (.iload_n 1, 1) := by decide +kernel
theorem dX4_become_6 : decode cX4_become 6 = .ok (.ifCond .lt 9, 3) := by decide +kernel
theorem dX4_become_9 : decode cX4_become 9 = .ok (.sipush (-1000), 3) := by decide +kernel
theorem dX4_become_12 : decode cX4_become 12 = .ok (.iload_n 1, 1) := by decide +kernel
theorem dX4_become_13 : decode cX4_become 13 = .ok (.isub, 1) := by decide +kernel
theorem dX4_become_14 : decode cX4_become 14 = .ok (.ireturn, 1) := by decide +kernel
theorem dX4_become_15 : decode cX4_become 15 = .ok (.aload_n 0, 1) := by decide +kernel
theorem dX4_become_16 : decode cX4_become 16 = .ok (.getfield 23, 3) := by decide +kernel
theorem dX4_become_19 : decode cX4_become 19 = .ok (.aload_n 0, 1) := by decide +kernel
theorem dX4_become_20 : decode cX4_become 20 = .ok (.getfield 19, 3) := by decide +kernel
theorem dX4_become_23 : decode cX4_become 23 = .ok (.invokevirtual 34, 3) := by decide +kernel
theorem dX4_become_26 : decode cX4_become 26 = .ok (.iconst 0, 1) := by decide +kernel
theorem dX4_become_27 : decode cX4_become 27 = .ok (.istore_n 2, 1) := by decide +kernel
theorem dX4_become_28 : decode cX4_become 28 = .ok (.iconst 0, 1) := by decide +kernel
theorem dX4_become_29 : decode cX4_become 29 = .ok (.istore_n 3, 1) := by decide +kernel
theorem dX4_become_30 : decode cX4_become 30 = .ok (.iload_n 3, 1) := by decide +kernel
theorem dX4_become_31 : decode cX4_become 31 = .ok (.aload_n 0, 1) := by decide +kernel
theorem dX4_become_32 : decode cX4_become 32 = .ok (.getfield 15, 3) := by decide +kernel
theorem dX4_become_35 : decode cX4_become 35 = .ok (.if_icmp .ge 39, 3) := by decide +kernel
theorem dX4_become_38 : decode cX4_become 38 = .ok (.aload_n 0, 1) := by decide +kernel
theorem dX4_become_39 : decode cX4_become 39 = .ok (.iload_n 3, 1) := by decide +kernel
theorem dX4_become_40 : decode cX4_become 40 = .ok (.invokevirtual 40, 3) := by decide +kernel
theorem dX4_become_43 : decode cX4_become 43 = .ok (.ifCond .ne 9, 3) := by decide +kernel
theorem dX4_become_46 : decode cX4_become 46 = .ok (.sipush (-2000), 3) := by decide +kernel
theorem dX4_become_49 : decode cX4_become 49 = .ok (.iload_n 3, 1) := by decide +kernel
theorem dX4_become_50 : decode cX4_become 50 = .ok (.isub, 1) := by decide +kernel
theorem dX4_become_51 : decode cX4_become 51 = .ok (.ireturn, 1) := by decide +kernel
theorem dX4_become_52 : decode cX4_become 52 = .ok (.iinc 2 1, 3) := by decide +kernel
theorem dX4_become_55 : decode cX4_become 55 = .ok (.iload_n 3, 1) := by decide +kernel
theorem dX4_become_56 : decode cX4_become 56 = .ok (.iconst 1, 1) := by decide +kernel
theorem dX4_become_57 : decode cX4_become 57 = .ok (.aload_n 0, 1) := by decide +kernel
theorem dX4_become_58 : decode cX4_become 58 = .ok (.getfield 9, 3) := by decide +kernel
theorem dX4_become_61 : decode cX4_become 61 = .ok (.iload_n 3, 1) := by decide +kernel
theorem dX4_become_62 : decode cX4_become 62 = .ok (.iaload, 1) := by decide +kernel
theorem dX4_become_63 : decode cX4_become 63 = .ok (.invokestatic 44, 3) := by decide +kernel
theorem dX4_become_66 : decode cX4_become 66 = .ok (.invokestatic 48, 3) := by decide +kernel
theorem dX4_become_69 : decode cX4_become 69 = .ok (.iadd, 1) := by decide +kernel
theorem dX4_become_70 : decode cX4_become 70 = .ok (.istore_n 3, 1) := by decide +kernel
theorem dX4_become_71 : decode cX4_become 71 = .ok (.goto (-41), 3) := by decide +kernel
theorem dX4_become_74 : decode cX4_become 74 = .ok (.aload_n 0, 1) := by decide +kernel
theorem dX4_become_75 : decode cX4_become 75 = .ok (.getfield 19, 3) := by decide +kernel
theorem dX4_become_78 : decode cX4_become 78 = .ok (.aload_n 0, 1) := by decide +kernel
theorem dX4_become_79 : decode cX4_become 79 = .ok (.getfield 23, 3) := by decide +kernel
theorem dX4_become_82 : decode cX4_become 82 = .ok (.invokevirtual 34, 3) := by decide +kernel
theorem dX4_become_85 : decode cX4_become 85 = .ok (.iload_n 2, 1) := by decide +kernel
theorem dX4_become_86 : decode cX4_become 86 = .ok (.ireturn, 1) := by decide +kernel
set_option maxRecDepth 20000 in
theorem ggX4_placeOfWrongForm_X4_lengthOf : GoodIn wsX4_placeOfWrongForm wsX4_lengthOf := goodIn_r _ [6] (by decide +kernel) (by decide +kernel)
set_option maxRecDepth 20000 in
theorem gX4_placeOfWrongForm_X4_lengthOf : GoodIn wsX4_placeOfWrongForm (va_wsS RX4 44 yX4_lengthOf wsX4_lengthOf) := goodIn_app (goodIn_of _ (by decide +kernel)) ggX4_placeOfWrongForm_X4_lengthOf
set_option maxRecDepth 20000 in
theorem ggX4_placeOfWrongForm_X4_fits : GoodIn wsX4_placeOfWrongForm wsX4_fits := goodIn_r _ [9, 3, 4, 5, 6, 10, 11, 12] (by decide +kernel) (by decide +kernel)
set_option maxRecDepth 20000 in
theorem gX4_placeOfWrongForm_X4_fits : GoodIn wsX4_placeOfWrongForm (va_wsS RX4 54 yX4_fits wsX4_fits) := goodIn_app (goodIn_of _ (by decide +kernel)) ggX4_placeOfWrongForm_X4_fits
theorem dX4_placeOfWrongForm_0 : decode cX4_placeOfWrongForm 0 = .ok (.iconst 0, 1) := by decide +kernel
theorem dX4_placeOfWrongForm_1 : decode cX4_placeOfWrongForm 1 = .ok (.istore_n 1, 1) := by decide +kernel
theorem dX4_placeOfWrongForm_2 : decode cX4_placeOfWrongForm 2 = .ok (.iload_n 1, 1) := by decide +kernel
theorem dX4_placeOfWrongForm_3 : decode cX4_placeOfWrongForm 3 = .ok (.aload_n 0, 1) := by decide +kernel
theorem dX4_placeOfWrongForm_4 : decode cX4_placeOfWrongForm 4 = .ok (.getfield 15, 3) := by decide +kernel
theorem dX4_placeOfWrongForm_7 : decode cX4_placeOfWrongForm 7 = .ok (.if_icmp .ge 15, 3) := by decide +kernel
theorem dX4_placeOfWrongForm_10 : decode cX4_placeOfWrongForm 10 = .ok (.aload_n 0, 1) := by decide +kernel
theorem dX4_placeOfWrongForm_11 : decode cX4_placeOfWrongForm 11 = .ok (.getfield 9, 3) := by decide +kernel
theorem dX4_placeOfWrongForm_14 : decode cX4_placeOfWrongForm 14 = .ok (.iload_n 1, 1) := by decide +kernel
theorem dX4_placeOfWrongForm_15 : decode cX4_placeOfWrongForm 15 = .ok (.iaload, 1) := by decide +kernel
theorem dX4_placeOfWrongForm_16 : decode cX4_placeOfWrongForm 16 = .ok (.invokestatic 44, 3) := by decide +kernel
theorem dX4_placeOfWrongForm_19 : decode cX4_placeOfWrongForm 19 = .ok (.goto 4, 3) := by decide +kernel
theorem dX4_placeOfWrongForm_22 : decode cX4_placeOfWrongForm 22 = .ok (.iconst 0, 1) := by decide +kernel
theorem dX4_placeOfWrongForm_23 : decode cX4_placeOfWrongForm 23 = .ok (.istore_n 2, 1) := by decide +kernel
theorem dX4_placeOfWrongForm_24 : decode cX4_placeOfWrongForm 24 = .ok (.iload_n 2, 1) := by decide +kernel
theorem dX4_placeOfWrongForm_25 : decode cX4_placeOfWrongForm 25 = .ok (.ifCond .ne 5, 3) := by decide +kernel
theorem dX4_placeOfWrongForm_28 : decode cX4_placeOfWrongForm 28 = .ok (.iload_n 1, 1) := by decide +kernel
theorem dX4_placeOfWrongForm_29 : decode cX4_placeOfWrongForm 29 = .ok (.ireturn, 1) := by decide +kernel
theorem dX4_placeOfWrongForm_30 : decode cX4_placeOfWrongForm 30 = .ok (.iconst 1, 1) := by decide +kernel
theorem dX4_placeOfWrongForm_31 : decode cX4_placeOfWrongForm 31 = .ok (.istore_n 3, 1) := by decide +kernel
theorem dX4_placeOfWrongForm_32 : decode cX4_placeOfWrongForm 32 = .ok (.iload_n 3, 1) := by decide +kernel
theorem dX4_placeOfWrongForm_33 : decode cX4_placeOfWrongForm 33 = .ok (.iload_n 2, 1) := by decide +kernel
theorem dX4_placeOfWrongForm_34 : decode cX4_placeOfWrongForm 34 = .ok (.if_icmp .ge 44, 3) := by decide +kernel
theorem dX4_placeOfWrongForm_37 : decode cX4_placeOfWrongForm 37 = .ok (.iload_n 1, 1) := by decide +kernel
theorem dX4_placeOfWrongForm_38 : decode cX4_placeOfWrongForm 38 = .ok (.iload_n 3, 1) := by decide +kernel
theorem dX4_placeOfWrongForm_39 : decode cX4_placeOfWrongForm 39 = .ok (.iadd, 1) := by decide +kernel
theorem dX4_placeOfWrongForm_40 : decode cX4_placeOfWrongForm 40 = .ok (.aload_n 0, 1) := by decide +kernel
theorem dX4_placeOfWrongForm_41 : decode cX4_placeOfWrongForm 41 = .ok (.getfield 15, 3) := by decide +kernel
theorem dX4_placeOfWrongForm_44 : decode cX4_placeOfWrongForm 44 = .ok (.if_icmp .ge 24, 3) := by decide +kernel
theorem dX4_placeOfWrongForm_47 : decode cX4_placeOfWrongForm 47 = .ok (.aload_n 0, 1) := by decide +kernel
theorem dX4_placeOfWrongForm_48 : decode cX4_placeOfWrongForm 48 = .ok (.getfield 9, 3) := by decide +kernel
theorem dX4_placeOfWrongForm_51 : decode cX4_placeOfWrongForm 51 = .ok (.iload_n 1, 1) := by decide +kernel
theorem dX4_placeOfWrongForm_52 : decode cX4_placeOfWrongForm 52 = .ok (.iaload, 1) := by decide +kernel
theorem dX4_placeOfWrongForm_53 : decode cX4_placeOfWrongForm 53 = .ok (.iload_n 3, 1) := by decide +kernel
theorem dX4_placeOfWrongForm_54 : decode cX4_placeOfWrongForm 54 = .ok (.aload_n 0, 1) := by decide +kernel
theorem dX4_placeOfWrongForm_55 : decode cX4_placeOfWrongForm 55 = .ok (.getfield 9, 3) := by decide +kernel
theorem dX4_placeOfWrongForm_58 : decode cX4_placeOfWrongForm 58 = .ok (.iload_n 1, 1) := by decide +kernel
theorem dX4_placeOfWrongForm_59 : decode cX4_placeOfWrongForm 59 = .ok (.iload_n 3, 1) := by decide +kernel
theorem dX4_placeOfWrongForm_60 : decode cX4_placeOfWrongForm 60 = .ok (.iadd, 1) := by decide +kernel
theorem dX4_placeOfWrongForm_61 : decode cX4_placeOfWrongForm 61 = .ok (.iaload, 1) := by decide +kernel
theorem dX4_placeOfWrongForm_62 : decode cX4_placeOfWrongForm 62 = .ok (.invokestatic 54, 3) := by decide +kernel
theorem dX4_placeOfWrongForm_65 : decode cX4_placeOfWrongForm 65 = .ok (.ifCond .ne 7, 3) := by decide +kernel
theorem dX4_placeOfWrongForm_68 : decode cX4_placeOfWrongForm 68 = .ok (.iload_n 1, 1) := by decide +kernel
theorem dX4_placeOfWrongForm_69 : decode cX4_placeOfWrongForm 69 = .ok (.iload_n 3, 1) := by decide +kernel
theorem dX4_placeOfWrongForm_70 : decode cX4_placeOfWrongForm 70 = .ok (.iadd, 1) := by decide +kernel
theorem dX4_placeOfWrongForm_71 : decode cX4_placeOfWrongForm 71 = .ok (.ireturn, 1) := by decide +kernel
theorem dX4_placeOfWrongForm_72 : decode cX4_placeOfWrongForm 72 = .ok (.iinc 3 1, 3) := by decide +kernel
theorem dX4_placeOfWrongForm_75 : decode cX4_placeOfWrongForm 75 = .ok (.goto (-43), 3) := by decide +kernel
theorem dX4_placeOfWrongForm_78 : decode cX4_placeOfWrongForm 78 = .ok (.iload_n 1, 1) := by decide +kernel
theorem dX4_placeOfWrongForm_79 : decode cX4_placeOfWrongForm 79 = .ok (.iload_n 2, 1) := by decide +kernel
theorem dX4_placeOfWrongForm_80 : decode cX4_placeOfWrongForm 80 = .ok (.iadd, 1) := by decide +kernel
theorem dX4_placeOfWrongForm_81 : decode cX4_placeOfWrongForm 81 = .ok (.istore_n 1, 1) := by decide +kernel
theorem dX4_placeOfWrongForm_82 : decode cX4_placeOfWrongForm 82 = .ok (.iload_n 1, 1) := by decide +kernel
theorem dX4_placeOfWrongForm_83 : decode cX4_placeOfWrongForm 83 = .ok (.aload_n 0, 1) := by decide +kernel
theorem dX4_placeOfWrongForm_84 : decode cX4_placeOfWrongForm 84 = .ok (.getfield 15, 3) := by decide +kernel
theorem dX4_placeOfWrongForm_87 : decode cX4_placeOfWrongForm 87 = .ok (.if_icmp .lt (-85), 3) := by decide +kernel
theorem dX4_placeOfWrongForm_90 : decode cX4_placeOfWrongForm 90 = .ok (.iconst (-1), 1) := by decide +kernel
theorem dX4_placeOfWrongForm_91 : decode cX4_placeOfWrongForm 91 = .ok (.ireturn, 1) := by decide +kernel
theorem dX4_lengthOf_0 : decode cX4_lengthOf 0 = .ok (.iload_n 0, 1) := by decide +kernel
theorem dX4_lengthOf_1 : decode cX4_lengthOf 1 = .ok (.lookupswitch 61 #[(97, 57), (98, 59), (104, 54), (112, 51), (121, 59)], 51) := by decide +kernel
theorem dX4_lengthOf_52 : decode cX4_lengthOf 52 = .ok (.bipush 7, 2) := by decide +kernel
theorem dX4_lengthOf_54 : decode cX4_lengthOf 54 = .ok (.ireturn, 1) := by decide +kernel
theorem dX4_lengthOf_55 : decode cX4_lengthOf 55 = .ok (.bipush 6, 2) := by decide +kernel
theorem dX4_lengthOf_57 : decode cX4_lengthOf 57 = .ok (.ireturn, 1) := by decide +kernel
theorem dX4_lengthOf_58 : decode cX4_lengthOf 58 = .ok (.iconst 5, 1) := by decide +kernel
theorem dX4_lengthOf_59 : decode cX4_lengthOf 59 = .ok (.ireturn, 1) := by decide +kernel
theorem dX4_lengthOf_60 : decode cX4_lengthOf 60 = .ok (.iconst 4, 1) := by decide +kernel
theorem dX4_lengthOf_61 : decode cX4_lengthOf 61 = .ok (.ireturn, 1) := by decide +kernel
theorem dX4_lengthOf_62 : decode cX4_lengthOf 62 = .ok (.iconst 0, 1) := by decide +kernel
theorem dX4_lengthOf_63 : decode cX4_lengthOf 63 = .ok (.ireturn, 1) := by decide +kernel
set_option maxRecDepth 20000 in
theorem ggX4_fits_X4_lengthOf : GoodIn wsX4_fits wsX4_lengthOf := goodIn_r _ [4] (by decide +kernel) (by decide +kernel)
set_option maxRecDepth 20000 in
theorem gX4_fits_X4_lengthOf : GoodIn wsX4_fits (va_wsS RX4 44 yX4_lengthOf wsX4_lengthOf) := goodIn_app (goodIn_of _ (by decide +kernel)) ggX4_fits_X4_lengthOf
set_option maxRecDepth 20000 in
theorem ggX4_fits_X4_kindOf : GoodIn wsX4_fits wsX4_kindOf := goodIn_r _ [7] (by decide +kernel) (by decide +kernel)
set_option maxRecDepth 20000 in
theorem gX4_fits_X4_kindOf : GoodIn wsX4_fits (va_wsS RX4 58 yX4_kindOf wsX4_kindOf) := goodIn_app (goodIn_of _ (by decide +kernel)) ggX4_fits_X4_kindOf
theorem dX4_fits_0 : decode cX4_fits 0 = .ok (.iload_n 1, 1) := by decide +kernel
theorem dX4_fits_1 : decode cX4_fits 1 = .ok (.iload_n 0, 1) := by decide +kernel
theorem dX4_fits_2 : decode cX4_fits 2 = .ok (.invokestatic 44, 3) := by decide +kernel
theorem dX4_fits_5 : decode cX4_fits 5 = .ok (.iconst 1, 1) := by decide +kernel
theorem dX4_fits_6 : decode cX4_fits 6 = .ok (.isub, 1) := by decide +kernel
theorem dX4_fits_7 : decode cX4_fits 7 = .ok (.if_icmp .ne 15, 3) := by decide +kernel
theorem dX4_fits_10 : decode cX4_fits 10 = .ok (.iload_n 2, 1) := by decide +kernel
theorem dX4_fits_11 : decode cX4_fits 11 = .ok (.bipush 59, 2) := by decide +kernel
theorem dX4_fits_13 : decode cX4_fits 13 = .ok (.if_icmp .ne 7, 3) := by decide +kernel
theorem dX4_fits_16 : decode cX4_fits 16 = .ok (.iconst 1, 1) := by decide +kernel
theorem dX4_fits_17 : decode cX4_fits 17 = .ok (.goto 4, 3) := by decide +kernel
theorem dX4_fits_20 : decode cX4_fits 20 = .ok (.iconst 0, 1) := by decide +kernel
theorem dX4_fits_21 : decode cX4_fits 21 = .ok (.ireturn, 1) := by decide +kernel
theorem dX4_fits_22 : decode cX4_fits 22 = .ok (.iload_n 0, 1) := by decide +kernel
theorem dX4_fits_23 : decode cX4_fits 23 = .ok (.bipush 112, 2) := by decide +kernel
theorem dX4_fits_25 : decode cX4_fits 25 = .ok (.if_icmp .ne 21, 3) := by decide +kernel
theorem dX4_fits_28 : decode cX4_fits 28 = .ok (.iload_n 1, 1) := by decide +kernel
theorem dX4_fits_29 : decode cX4_fits 29 = .ok (.iconst 1, 1) := by decide +kernel
theorem dX4_fits_30 : decode cX4_fits 30 = .ok (.if_icmp .ne 16, 3) := by decide +kernel
theorem dX4_fits_33 : decode cX4_fits 33 = .ok (.iload_n 2, 1) := by decide +kernel
theorem dX4_fits_34 : decode cX4_fits 34 = .ok (.invokestatic 58, 3) := by decide +kernel
theorem dX4_fits_37 : decode cX4_fits 37 = .ok (.ifCond .lt 7, 3) := by decide +kernel
theorem dX4_fits_40 : decode cX4_fits 40 = .ok (.iconst 1, 1) := by decide +kernel
theorem dX4_fits_41 : decode cX4_fits 41 = .ok (.goto 4, 3) := by decide +kernel
theorem dX4_fits_44 : decode cX4_fits 44 = .ok (.iconst 0, 1) := by decide +kernel
theorem dX4_fits_45 : decode cX4_fits 45 = .ok (.ireturn, 1) := by decide +kernel
theorem dX4_fits_46 : decode cX4_fits 46 = .ok (.iload_n 2, 1) := by decide +kernel
theorem dX4_fits_47 : decode cX4_fits 47 = .ok (.bipush 48, 2) := by decide +kernel
theorem dX4_fits_49 : decode cX4_fits 49 = .ok (.if_icmp .lt 13, 3) := by decide +kernel
theorem dX4_fits_52 : decode cX4_fits 52 = .ok (.iload_n 2, 1) := by decide +kernel
theorem dX4_fits_53 : decode cX4_fits 53 = .ok (.bipush 57, 2) := by decide +kernel
theorem dX4_fits_55 : decode cX4_fits 55 = .ok (.if_icmp .gt 7, 3) := by decide +kernel
theorem dX4_fits_58 : decode cX4_fits 58 = .ok (.iconst 1, 1) := by decide +kernel
theorem dX4_fits_59 : decode cX4_fits 59 = .ok (.goto 4, 3) := by decide +kernel
theorem dX4_fits_62 : decode cX4_fits 62 = .ok (.iconst 0, 1) := by decide +kernel
theorem dX4_fits_63 : decode cX4_fits 63 = .ok (.ireturn, 1) := by decide +kernel
theorem dX4_kindOf_0 : decode cX4_kindOf 0 = .ok (.iload_n 0, 1) := by decide +kernel
theorem dX4_kindOf_1 : decode cX4_kindOf 1 = .ok (.tableswitch 95 99 115 #[87, 93, 95, 85, 83, 95, 95, 95, 95, 95, 95, 95, 91, 95, 95, 95, 89], 83) := by decide +kernel
theorem dX4_kindOf_84 : decode cX4_kindOf 84 = .ok (.iconst 0, 1) := by decide +kernel
theorem dX4_kindOf_85 : decode cX4_kindOf 85 = .ok (.ireturn, 1) := by decide +kernel
theorem dX4_kindOf_86 : decode cX4_kindOf 86 = .ok (.iconst 1, 1) := by decide +kernel
theorem dX4_kindOf_87 : decode cX4_kindOf 87 = .ok (.ireturn, 1) := by decide +kernel
theorem dX4_kindOf_88 : decode cX4_kindOf 88 = .ok (.iconst 2, 1) := by decide +kernel
theorem dX4_kindOf_89 : decode cX4_kindOf 89 = .ok (.ireturn, 1) := by decide +kernel
theorem dX4_kindOf_90 : decode cX4_kindOf 90 = .ok (.iconst 3, 1) := by decide +kernel
theorem dX4_kindOf_91 : decode cX4_kindOf 91 = .ok (.ireturn, 1) := by decide +kernel
theorem dX4_kindOf_92 : decode cX4_kindOf 92 = .ok (.iconst 4, 1) := by decide +kernel
theorem dX4_kindOf_93 : decode cX4_kindOf 93 = .ok (.ireturn, 1) := by decide +kernel
theorem dX4_kindOf_94 : decode cX4_kindOf 94 = .ok (.iconst 5, 1) := by decide +kernel
theorem dX4_kindOf_95 : decode cX4_kindOf 95 = .ok (.ireturn, 1) := by decide +kernel
theorem dX4_kindOf_96 : decode cX4_kindOf 96 = .ok (.iconst (-1), 1) := by decide +kernel
theorem dX4_kindOf_97 : decode cX4_kindOf 97 = .ok (.ireturn, 1) := by decide +kernel
theorem dX4_letterAt_0 : decode cX4_letterAt 0 = .ok (.iload_n 1, 1) := by decide +kernel
theorem dX4_letterAt_1 : decode cX4_letterAt 1 = .ok (.ifCond .lt 20, 3) := by decide +kernel
theorem dX4_letterAt_4 : decode cX4_letterAt 4 = .ok (.iload_n 1, 1) := by decide +kernel
theorem dX4_letterAt_5 : decode cX4_letterAt 5 = .ok (.aload_n 0, 1) := by decide +kernel
theorem dX4_letterAt_6 : decode cX4_letterAt 6 = .ok (.getfield 15, 3) := by decide +kernel
theorem dX4_letterAt_9 : decode cX4_letterAt 9 = .ok (.if_icmp .ge 12, 3) := by decide +kernel
theorem dX4_letterAt_12 : decode cX4_letterAt 12 = .ok (.aload_n 0, 1) := by decide +kernel
theorem dX4_letterAt_13 : decode cX4_letterAt 13 = .ok (.getfield 9, 3) := by decide +kernel
theorem dX4_letterAt_16 : decode cX4_letterAt 16 = .ok (.iload_n 1, 1) := by decide +kernel
theorem dX4_letterAt_17 : decode cX4_letterAt 17 = .ok (.iaload, 1) := by decide +kernel
theorem dX4_letterAt_18 : decode cX4_letterAt 18 = .ok (.goto 5, 3) := by decide +kernel
theorem dX4_letterAt_21 : decode cX4_letterAt 21 = .ok (.bipush 48, 2) := by decide +kernel
theorem dX4_letterAt_23 : decode cX4_letterAt 23 = .ok (.ireturn, 1) := by decide +kernel
set_option maxRecDepth 20000 in
theorem ggX4_digit_X4_letterAt : GoodIn wsX4_digit wsX4_letterAt := goodIn_r _ [5, 6, 7, 8, 9, 10, 11] (by decide +kernel) (by decide +kernel)
set_option maxRecDepth 20000 in
theorem gX4_digit_X4_letterAt : GoodIn wsX4_digit (wsV RX4 61 RX4 yX4_letterAt wsX4_letterAt) := goodIn_app (goodIn_of _ (by decide +kernel)) ggX4_digit_X4_letterAt
theorem dX4_digit_0 : decode cX4_digit 0 = .ok (.aload_n 0, 1) := by decide +kernel
theorem dX4_digit_1 : decode cX4_digit 1 = .ok (.iload_n 1, 1) := by decide +kernel
theorem dX4_digit_2 : decode cX4_digit 2 = .ok (.invokevirtual 61, 3) := by decide +kernel
theorem dX4_digit_5 : decode cX4_digit 5 = .ok (.bipush 48, 2) := by decide +kernel
theorem dX4_digit_7 : decode cX4_digit 7 = .ok (.isub, 1) := by decide +kernel
theorem dX4_digit_8 : decode cX4_digit 8 = .ok (.ireturn, 1) := by decide +kernel
set_option maxRecDepth 20000 in
theorem ggX4_twoDigits_X4_digit : GoodIn wsX4_twoDigits wsX4_digit := goodIn_r _ [5, 6, 7, 8, 4, 9, 10, 11, 12, 13, 14, 15] (by decide +kernel) (by decide +kernel)
set_option maxRecDepth 20000 in
theorem gX4_twoDigits_X4_digit : GoodIn wsX4_twoDigits (wsV RX4 64 RX4 yX4_digit wsX4_digit) := goodIn_app (goodIn_of _ (by decide +kernel)) ggX4_twoDigits_X4_digit
theorem dX4_twoDigits_0 : decode cX4_twoDigits 0 = .ok (.bipush 10, 2) := by decide +kernel
theorem dX4_twoDigits_2 : decode cX4_twoDigits 2 = .ok (.aload_n 0, 1) := by decide +kernel
theorem dX4_twoDigits_3 : decode cX4_twoDigits 3 = .ok (.iload_n 1, 1) := by decide +kernel
theorem dX4_twoDigits_4 : decode cX4_twoDigits 4 = .ok (.invokevirtual 64, 3) := by decide +kernel
theorem dX4_twoDigits_7 : decode cX4_twoDigits 7 = .ok (.imul, 1) := by decide +kernel
theorem dX4_twoDigits_8 : decode cX4_twoDigits 8 = .ok (.aload_n 0, 1) := by decide +kernel
theorem dX4_twoDigits_9 : decode cX4_twoDigits 9 = .ok (.iload_n 1, 1) := by decide +kernel
theorem dX4_twoDigits_10 : decode cX4_twoDigits 10 = .ok (.iconst 1, 1) := by decide +kernel
theorem dX4_twoDigits_11 : decode cX4_twoDigits 11 = .ok (.iadd, 1) := by decide +kernel
theorem dX4_twoDigits_12 : decode cX4_twoDigits 12 = .ok (.invokevirtual 64, 3) := by decide +kernel
theorem dX4_twoDigits_15 : decode cX4_twoDigits 15 = .ok (.iadd, 1) := by decide +kernel
theorem dX4_twoDigits_16 : decode cX4_twoDigits 16 = .ok (.ireturn, 1) := by decide +kernel
set_option maxRecDepth 20000 in
theorem ggX4_comes_X4_letterAt : GoodIn wsX4_comes wsX4_letterAt := goodIn_r _ [7, 8, 9, 122, 123, 124, 125] (by decide +kernel) (by decide +kernel)
set_option maxRecDepth 20000 in
theorem gX4_comes_X4_letterAt : GoodIn wsX4_comes (wsV RX4 61 RX4 yX4_letterAt wsX4_letterAt) := goodIn_app (goodIn_of _ (by decide +kernel)) ggX4_comes_X4_letterAt
set_option maxRecDepth 20000 in
theorem ggX4_comes_X4_kindOf : GoodIn wsX4_comes wsX4_kindOf := goodIn_r _ [12] (by decide +kernel) (by decide +kernel)
set_option maxRecDepth 20000 in
theorem gX4_comes_X4_kindOf : GoodIn wsX4_comes (va_wsS RX4 58 yX4_kindOf wsX4_kindOf) := goodIn_app (goodIn_of _ (by decide +kernel)) ggX4_comes_X4_kindOf
set_option maxRecDepth 20000 in
theorem ggX4_comes_X4_digit : GoodIn wsX4_comes wsX4_digit := goodIn_r _ [16, 3, 4, 5, 6, 7, 8, 9, 122, 123, 124, 125] (by decide +kernel) (by decide +kernel)
set_option maxRecDepth 20000 in
theorem gX4_comes_X4_digit : GoodIn wsX4_comes (wsV RX4 64 RX4 yX4_digit wsX4_digit) := goodIn_app (goodIn_of _ (by decide +kernel)) ggX4_comes_X4_digit
set_option maxRecDepth 20000 in
theorem ggX4_comes_X4_twoDigits : GoodIn wsX4_comes wsX4_twoDigits := goodIn_r _ [20, 13, 14, 15, 6, 16, 3, 4, 5, 7, 8, 9, 122, 123, 124, 125] (by decide +kernel) (by decide +kernel)
set_option maxRecDepth 20000 in
theorem gX4_comes_X4_twoDigits : GoodIn wsX4_comes (wsV RX4 67 RX4 yX4_twoDigits wsX4_twoDigits) := goodIn_app (goodIn_of _ (by decide +kernel)) ggX4_comes_X4_twoDigits
set_option maxRecDepth 20000 in
theorem ggX4_comes_X4_personComes : GoodIn wsX4_comes wsX4_personComes := goodIn_r _ [24, 1, 25, 26, 27, 28, 29, 30, 31, 32, 33, 34, 35, 36, 37, 38, 39, 122, 123, 124, 125, 126, 127, 128, 129, 130, 131, 132, 133] (by decide +kernel) (by decide +kernel)
set_option maxRecDepth 20000 in
theorem gX4_comes_X4_personComes : GoodIn wsX4_comes (wsV RX4 70 RX4 yX4_personComes wsX4_personComes) := goodIn_app (goodIn_of _ (by decide +kernel)) ggX4_comes_X4_personComes
set_option maxRecDepth 20000 in
theorem ggX4_comes_X4_depthComes : GoodIn wsX4_comes wsX4_depthComes := goodIn_r _ [43, 1, 44, 122, 123, 124, 125, 126, 127, 128, 129, 130, 131, 132, 133] (by decide +kernel) (by decide +kernel)
set_option maxRecDepth 20000 in
theorem gX4_comes_X4_depthComes : GoodIn wsX4_comes (wsV RX4 74 RX4 yX4_depthComes wsX4_depthComes) := goodIn_app (goodIn_of _ (by decide +kernel)) ggX4_comes_X4_depthComes
set_option maxRecDepth 20000 in
theorem ggX4_comes_X4_beliefComes : GoodIn wsX4_comes wsX4_beliefComes := goodIn_r _ [48, 1, 49, 50, 122, 123, 124, 125, 126, 127, 128, 129, 130, 131, 132, 133] (by decide +kernel) (by decide +kernel)
set_option maxRecDepth 20000 in
theorem gX4_comes_X4_beliefComes : GoodIn wsX4_comes (wsV RX4 78 RX4 yX4_beliefComes wsX4_beliefComes) := goodIn_app (goodIn_of _ (by decide +kernel)) ggX4_comes_X4_beliefComes
set_option maxRecDepth 20000 in
theorem ggX4_comes_X4_seatComes : GoodIn wsX4_comes wsX4_seatComes := goodIn_r _ [54, 1, 49, 55, 122, 123, 124, 125, 126, 127, 128, 129, 130, 131, 132, 133] (by decide +kernel) (by decide +kernel)
set_option maxRecDepth 20000 in
theorem gX4_comes_X4_seatComes : GoodIn wsX4_comes (wsV RX4 81 RX4 yX4_seatComes wsX4_seatComes) := goodIn_app (goodIn_of _ (by decide +kernel)) ggX4_comes_X4_seatComes
set_option maxRecDepth 20000 in
theorem ggX4_comes_X3_passYears : GoodIn wsX4_comes wsX3_passYears := goodIn_r _ [59, 60, 61, 62, 28, 63, 30, 64, 65, 38, 37, 66, 67, 68, 69, 70, 71, 72, 73, 74, 75, 76, 77, 78, 36, 79, 80, 81, 82, 83, 84, 85, 86, 87, 88, 89, 90, 91, 92, 93, 94, 95, 96, 35, 97, 98, 99, 100, 101, 102, 103, 104, 105, 106, 107, 108, 109, 110, 111, 112, 113, 114, 115, 116, 117, 118, 119, 120, 121, 126, 127, 128, 129, 130, 131, 132, 133] (by decide +kernel) (by decide +kernel)
set_option maxRecDepth 20000 in
theorem gX4_comes_X3_passYears : GoodIn wsX4_comes (wsV RX4 87 RX3 yX3_passYears wsX3_passYears) := goodIn_app (goodIn_of _ (by decide +kernel)) ggX4_comes_X3_passYears
theorem dX4_comes_0 : decode cX4_comes 0 = .ok (.aload_n 0, 1) := by decide +kernel
theorem dX4_comes_1 : decode cX4_comes 1 = .ok (.iload_n 1, 1) := by decide +kernel
theorem dX4_comes_2 : decode cX4_comes 2 = .ok (.invokevirtual 61, 3) := by decide +kernel
theorem dX4_comes_5 : decode cX4_comes 5 = .ok (.lookupswitch 136 #[(97, 117), (98, 98), (104, 79), (112, 43)], 43) := by decide +kernel
theorem dX4_comes_48 : decode cX4_comes 48 = .ok (.aload_n 0, 1) := by decide +kernel
theorem dX4_comes_49 : decode cX4_comes 49 = .ok (.aload_n 0, 1) := by decide +kernel
theorem dX4_comes_50 : decode cX4_comes 50 = .ok (.iload_n 1, 1) := by decide +kernel
theorem dX4_comes_51 : decode cX4_comes 51 = .ok (.iconst 1, 1) := by decide +kernel
theorem dX4_comes_52 : decode cX4_comes 52 = .ok (.iadd, 1) := by decide +kernel
theorem dX4_comes_53 : decode cX4_comes 53 = .ok (.invokevirtual 61, 3) := by decide +kernel
theorem dX4_comes_56 : decode cX4_comes 56 = .ok (.invokestatic 58, 3) := by decide +kernel
theorem dX4_comes_59 : decode cX4_comes 59 = .ok (.aload_n 0, 1) := by decide +kernel
theorem dX4_comes_60 : decode cX4_comes 60 = .ok (.iload_n 1, 1) := by decide +kernel
theorem dX4_comes_61 : decode cX4_comes 61 = .ok (.iconst 2, 1) := by decide +kernel
theorem dX4_comes_62 : decode cX4_comes 62 = .ok (.iadd, 1) := by decide +kernel
theorem dX4_comes_63 : decode cX4_comes 63 = .ok (.invokevirtual 64, 3) := by decide +kernel
theorem dX4_comes_66 : decode cX4_comes 66 = .ok (.aload_n 0, 1) := by decide +kernel
theorem dX4_comes_67 : decode cX4_comes 67 = .ok (.iload_n 1, 1) := by decide +kernel
theorem dX4_comes_68 : decode cX4_comes 68 = .ok (.iconst 3, 1) := by decide +kernel
theorem dX4_comes_69 : decode cX4_comes 69 = .ok (.iadd, 1) := by decide +kernel
theorem dX4_comes_70 : decode cX4_comes 70 = .ok (.invokevirtual 67, 3) := by decide +kernel
theorem dX4_comes_73 : decode cX4_comes 73 = .ok (.aload_n 0, 1) := by decide +kernel
theorem dX4_comes_74 : decode cX4_comes 74 = .ok (.iload_n 1, 1) := by decide +kernel
theorem dX4_comes_75 : decode cX4_comes 75 = .ok (.iconst 5, 1) := by decide +kernel
theorem dX4_comes_76 : decode cX4_comes 76 = .ok (.iadd, 1) := by decide +kernel
theorem dX4_comes_77 : decode cX4_comes 77 = .ok (.invokevirtual 64, 3) := by decide +kernel
theorem dX4_comes_80 : decode cX4_comes 80 = .ok (.invokevirtual 70, 3) := by decide +kernel
theorem dX4_comes_83 : decode cX4_comes 83 = .ok (.ireturn, 1) := by decide +kernel
theorem dX4_comes_84 : decode cX4_comes 84 = .ok (.aload_n 0, 1) := by decide +kernel
theorem dX4_comes_85 : decode cX4_comes 85 = .ok (.aload_n 0, 1) := by decide +kernel
theorem dX4_comes_86 : decode cX4_comes 86 = .ok (.iload_n 1, 1) := by decide +kernel
theorem dX4_comes_87 : decode cX4_comes 87 = .ok (.iconst 1, 1) := by decide +kernel
theorem dX4_comes_88 : decode cX4_comes 88 = .ok (.iadd, 1) := by decide +kernel
theorem dX4_comes_89 : decode cX4_comes 89 = .ok (.invokevirtual 67, 3) := by decide +kernel
theorem dX4_comes_92 : decode cX4_comes 92 = .ok (.aload_n 0, 1) := by decide +kernel
theorem dX4_comes_93 : decode cX4_comes 93 = .ok (.iload_n 1, 1) := by decide +kernel
theorem dX4_comes_94 : decode cX4_comes 94 = .ok (.iconst 3, 1) := by decide +kernel
theorem dX4_comes_95 : decode cX4_comes 95 = .ok (.iadd, 1) := by decide +kernel
theorem dX4_comes_96 : decode cX4_comes 96 = .ok (.invokevirtual 67, 3) := by decide +kernel
theorem dX4_comes_99 : decode cX4_comes 99 = .ok (.invokevirtual 74, 3) := by decide +kernel
theorem dX4_comes_102 : decode cX4_comes 102 = .ok (.ireturn, 1) := by decide +kernel
theorem dX4_comes_103 : decode cX4_comes 103 = .ok (.aload_n 0, 1) := by decide +kernel
theorem dX4_comes_104 : decode cX4_comes 104 = .ok (.aload_n 0, 1) := by decide +kernel
theorem dX4_comes_105 : decode cX4_comes 105 = .ok (.iload_n 1, 1) := by decide +kernel
theorem dX4_comes_106 : decode cX4_comes 106 = .ok (.iconst 1, 1) := by decide +kernel
theorem dX4_comes_107 : decode cX4_comes 107 = .ok (.iadd, 1) := by decide +kernel
theorem dX4_comes_108 : decode cX4_comes 108 = .ok (.invokevirtual 64, 3) := by decide +kernel
theorem dX4_comes_111 : decode cX4_comes 111 = .ok (.aload_n 0, 1) := by decide +kernel
theorem dX4_comes_112 : decode cX4_comes 112 = .ok (.iload_n 1, 1) := by decide +kernel
theorem dX4_comes_113 : decode cX4_comes 113 = .ok (.iconst 2, 1) := by decide +kernel
theorem dX4_comes_114 : decode cX4_comes 114 = .ok (.iadd, 1) := by decide +kernel
theorem dX4_comes_115 : decode cX4_comes 115 = .ok (.invokevirtual 64, 3) := by decide +kernel
theorem dX4_comes_118 : decode cX4_comes 118 = .ok (.invokevirtual 78, 3) := by decide +kernel
theorem dX4_comes_121 : decode cX4_comes 121 = .ok (.ireturn, 1) := by decide +kernel
theorem dX4_comes_122 : decode cX4_comes 122 = .ok (.aload_n 0, 1) := by decide +kernel
theorem dX4_comes_123 : decode cX4_comes 123 = .ok (.aload_n 0, 1) := by decide +kernel
theorem dX4_comes_124 : decode cX4_comes 124 = .ok (.iload_n 1, 1) := by decide +kernel
theorem dX4_comes_125 : decode cX4_comes 125 = .ok (.iconst 1, 1) := by decide +kernel
theorem dX4_comes_126 : decode cX4_comes 126 = .ok (.iadd, 1) := by decide +kernel
theorem dX4_comes_127 : decode cX4_comes 127 = .ok (.invokevirtual 64, 3) := by decide +kernel
theorem dX4_comes_130 : decode cX4_comes 130 = .ok (.aload_n 0, 1) := by decide +kernel
theorem dX4_comes_131 : decode cX4_comes 131 = .ok (.iload_n 1, 1) := by decide +kernel
theorem dX4_comes_132 : decode cX4_comes 132 = .ok (.iconst 2, 1) := by decide +kernel
theorem dX4_comes_133 : decode cX4_comes 133 = .ok (.iadd, 1) := by decide +kernel
theorem dX4_comes_134 : decode cX4_comes 134 = .ok (.invokevirtual 67, 3) := by decide +kernel
theorem dX4_comes_137 : decode cX4_comes 137 = .ok (.invokevirtual 81, 3) := by decide +kernel
theorem dX4_comes_140 : decode cX4_comes 140 = .ok (.ireturn, 1) := by decide +kernel
theorem dX4_comes_141 : decode cX4_comes 141 = .ok (.aload_n 0, 1) := by decide +kernel
theorem dX4_comes_142 : decode cX4_comes 142 = .ok (.iload_n 1, 1) := by decide +kernel
theorem dX4_comes_143 : decode cX4_comes 143 = .ok (.iconst 1, 1) := by decide +kernel
theorem dX4_comes_144 : decode cX4_comes 144 = .ok (.iadd, 1) := by decide +kernel
theorem dX4_comes_145 : decode cX4_comes 145 = .ok (.invokevirtual 67, 3) := by decide +kernel
theorem dX4_comes_148 : decode cX4_comes 148 = .ok (.istore_n 2, 1) := by decide +kernel
theorem dX4_comes_149 : decode cX4_comes 149 = .ok (.iload_n 2, 1) := by decide +kernel
theorem dX4_comes_150 : decode cX4_comes 150 = .ok (.iconst 1, 1) := by decide +kernel
theorem dX4_comes_151 : decode cX4_comes 151 = .ok (.if_icmp .lt 24, 3) := by decide +kernel
theorem dX4_comes_154 : decode cX4_comes 154 = .ok (.iload_n 2, 1) := by decide +kernel
theorem dX4_comes_155 : decode cX4_comes 155 = .ok (.bipush 60, 2) := by decide +kernel
theorem dX4_comes_157 : decode cX4_comes 157 = .ok (.if_icmp .gt 18, 3) := by decide +kernel
theorem dX4_comes_160 : decode cX4_comes 160 = .ok (.aload_n 0, 1) := by decide +kernel
theorem dX4_comes_161 : decode cX4_comes 161 = .ok (.getfield 23, 3) := by decide +kernel
theorem dX4_comes_164 : decode cX4_comes 164 = .ok (.getfield 84, 3) := by decide +kernel
theorem dX4_comes_167 : decode cX4_comes 167 = .ok (.iload_n 2, 1) := by decide +kernel
theorem dX4_comes_168 : decode cX4_comes 168 = .ok (.iadd, 1) := by decide +kernel
theorem dX4_comes_169 : decode cX4_comes 169 = .ok (.sipush 999, 3) := by decide +kernel
theorem dX4_comes_172 : decode cX4_comes 172 = .ok (.if_icmp .le 5, 3) := by decide +kernel
theorem dX4_comes_175 : decode cX4_comes 175 = .ok (.iconst 0, 1) := by decide +kernel
theorem dX4_comes_176 : decode cX4_comes 176 = .ok (.ireturn, 1) := by decide +kernel
theorem dX4_comes_177 : decode cX4_comes 177 = .ok (.aload_n 0, 1) := by decide +kernel
theorem dX4_comes_178 : decode cX4_comes 178 = .ok (.getfield 23, 3) := by decide +kernel
theorem dX4_comes_181 : decode cX4_comes 181 = .ok (.iload_n 2, 1) := by decide +kernel
theorem dX4_comes_182 : decode cX4_comes 182 = .ok (.invokevirtual 87, 3) := by decide +kernel
theorem dX4_comes_185 : decode cX4_comes 185 = .ok (.pop, 1) := by decide +kernel
theorem dX4_comes_186 : decode cX4_comes 186 = .ok (.iconst 1, 1) := by decide +kernel
theorem dX4_comes_187 : decode cX4_comes 187 = .ok (.ireturn, 1) := by decide +kernel
set_option maxRecDepth 20000 in
theorem ggX4_personComes_X3_isFull : GoodIn wsX4_personComes wsX3_isFull := goodIn_r _ [6, 7, 21, 22, 23, 24, 25, 26, 27, 28] (by decide +kernel) (by decide +kernel)
set_option maxRecDepth 20000 in
theorem gX4_personComes_X3_isFull : GoodIn wsX4_personComes (wsV RX4 90 RX3 yX3_isFull wsX3_isFull) := goodIn_app (goodIn_of _ (by decide +kernel)) ggX4_personComes_X3_isFull
set_option maxRecDepth 20000 in
theorem ggX4_personComes_X3_join : GoodIn wsX4_personComes wsX3_join := goodIn_r _ [11, 12, 7, 13, 14, 15, 16, 3, 4, 5, 6, 21, 22, 23, 24, 25, 26, 27, 28] (by decide +kernel) (by decide +kernel)
set_option maxRecDepth 20000 in
theorem gX4_personComes_X3_join : GoodIn wsX4_personComes (wsV RX4 91 RX3 yX3_join wsX3_join) := goodIn_app (goodIn_of _ (by decide +kernel)) ggX4_personComes_X3_join
theorem dX4_personComes_0 : decode cX4_personComes 0 = .ok (.aload_n 0, 1) := by decide +kernel
theorem dX4_personComes_1 : decode cX4_personComes 1 = .ok (.getfield 23, 3) := by decide +kernel
theorem dX4_personComes_4 : decode cX4_personComes 4 = .ok (.invokevirtual 90, 3) := by decide +kernel
theorem dX4_personComes_7 : decode cX4_personComes 7 = .ok (.ifCond .ne 9, 3) := by decide +kernel
theorem dX4_personComes_10 : decode cX4_personComes 10 = .ok (.iload_n 3, 1) := by decide +kernel
theorem dX4_personComes_11 : decode cX4_personComes 11 = .ok (.bipush 25, 2) := by decide +kernel
theorem dX4_personComes_13 : decode cX4_personComes 13 = .ok (.if_icmp .lt 5, 3) := by decide +kernel
theorem dX4_personComes_16 : decode cX4_personComes 16 = .ok (.iconst 0, 1) := by decide +kernel
theorem dX4_personComes_17 : decode cX4_personComes 17 = .ok (.ireturn, 1) := by decide +kernel
theorem dX4_personComes_18 : decode cX4_personComes 18 = .ok (.aload_n 0, 1) := by decide +kernel
theorem dX4_personComes_19 : decode cX4_personComes 19 = .ok (.getfield 23, 3) := by decide +kernel
theorem dX4_personComes_22 : decode cX4_personComes 22 = .ok (.iload_n 1, 1) := by decide +kernel
theorem dX4_personComes_23 : decode cX4_personComes 23 = .ok (.iload_n 2, 1) := by decide +kernel
theorem dX4_personComes_24 : decode cX4_personComes 24 = .ok (.iload_n 3, 1) := by decide +kernel
theorem dX4_personComes_25 : decode cX4_personComes 25 = .ok (.iload 4, 2) := by decide +kernel
theorem dX4_personComes_27 : decode cX4_personComes 27 = .ok (.invokevirtual 91, 3) := by decide +kernel
theorem dX4_personComes_30 : decode cX4_personComes 30 = .ok (.iconst 1, 1) := by decide +kernel
theorem dX4_personComes_31 : decode cX4_personComes 31 = .ok (.ireturn, 1) := by decide +kernel
theorem dX4_depthComes_0 : decode cX4_depthComes 0 = .ok (.iload_n 1, 1) := by decide +kernel
theorem dX4_depthComes_1 : decode cX4_depthComes 1 = .ok (.ifCond .lt 9, 3) := by decide +kernel
theorem dX4_depthComes_4 : decode cX4_depthComes 4 = .ok (.iload_n 1, 1) := by decide +kernel
theorem dX4_depthComes_5 : decode cX4_depthComes 5 = .ok (.bipush 25, 2) := by decide +kernel
theorem dX4_depthComes_7 : decode cX4_depthComes 7 = .ok (.if_icmp .lt 5, 3) := by decide +kernel
theorem dX4_depthComes_10 : decode cX4_depthComes 10 = .ok (.iconst 0, 1) := by decide +kernel
theorem dX4_depthComes_11 : decode cX4_depthComes 11 = .ok (.ireturn, 1) := by decide +kernel
theorem dX4_depthComes_12 : decode cX4_depthComes 12 = .ok (.aload_n 0, 1) := by decide +kernel
theorem dX4_depthComes_13 : decode cX4_depthComes 13 = .ok (.getfield 23, 3) := by decide +kernel
theorem dX4_depthComes_16 : decode cX4_depthComes 16 = .ok (.getfield 95, 3) := by decide +kernel
theorem dX4_depthComes_19 : decode cX4_depthComes 19 = .ok (.iload_n 1, 1) := by decide +kernel
theorem dX4_depthComes_20 : decode cX4_depthComes 20 = .ok (.iload_n 2, 1) := by decide +kernel
theorem dX4_depthComes_21 : decode cX4_depthComes 21 = .ok (.iastore, 1) := by decide +kernel
theorem dX4_depthComes_22 : decode cX4_depthComes 22 = .ok (.iconst 1, 1) := by decide +kernel
theorem dX4_depthComes_23 : decode cX4_depthComes 23 = .ok (.ireturn, 1) := by decide +kernel
theorem dX4_beliefComes_0 : decode cX4_beliefComes 0 = .ok (.iload_n 1, 1) := by decide +kernel
theorem dX4_beliefComes_1 : decode cX4_beliefComes 1 = .ok (.ifCond .lt 14, 3) := by decide +kernel
theorem dX4_beliefComes_4 : decode cX4_beliefComes 4 = .ok (.iload_n 1, 1) := by decide +kernel
theorem dX4_beliefComes_5 : decode cX4_beliefComes 5 = .ok (.aload_n 0, 1) := by decide +kernel
theorem dX4_beliefComes_6 : decode cX4_beliefComes 6 = .ok (.getfield 23, 3) := by decide +kernel
theorem dX4_beliefComes_9 : decode cX4_beliefComes 9 = .ok (.getfield 98, 3) := by decide +kernel
theorem dX4_beliefComes_12 : decode cX4_beliefComes 12 = .ok (.if_icmp .lt 5, 3) := by decide +kernel
theorem dX4_beliefComes_15 : decode cX4_beliefComes 15 = .ok (.iconst 0, 1) := by decide +kernel
theorem dX4_beliefComes_16 : decode cX4_beliefComes 16 = .ok (.ireturn, 1) := by decide +kernel
theorem dX4_beliefComes_17 : decode cX4_beliefComes 17 = .ok (.aload_n 0, 1) := by decide +kernel
theorem dX4_beliefComes_18 : decode cX4_beliefComes 18 = .ok (.getfield 23, 3) := by decide +kernel
theorem dX4_beliefComes_21 : decode cX4_beliefComes 21 = .ok (.getfield 101, 3) := by decide +kernel
theorem dX4_beliefComes_24 : decode cX4_beliefComes 24 = .ok (.iload_n 1, 1) := by decide +kernel
theorem dX4_beliefComes_25 : decode cX4_beliefComes 25 = .ok (.iload_n 2, 1) := by decide +kernel
theorem dX4_beliefComes_26 : decode cX4_beliefComes 26 = .ok (.iastore, 1) := by decide +kernel
theorem dX4_beliefComes_27 : decode cX4_beliefComes 27 = .ok (.iconst 1, 1) := by decide +kernel
theorem dX4_beliefComes_28 : decode cX4_beliefComes 28 = .ok (.ireturn, 1) := by decide +kernel
theorem dX4_seatComes_0 : decode cX4_seatComes 0 = .ok (.iload_n 1, 1) := by decide +kernel
theorem dX4_seatComes_1 : decode cX4_seatComes 1 = .ok (.ifCond .lt 20, 3) := by decide +kernel
theorem dX4_seatComes_4 : decode cX4_seatComes 4 = .ok (.iload_n 1, 1) := by decide +kernel
theorem dX4_seatComes_5 : decode cX4_seatComes 5 = .ok (.aload_n 0, 1) := by decide +kernel
theorem dX4_seatComes_6 : decode cX4_seatComes 6 = .ok (.getfield 23, 3) := by decide +kernel
theorem dX4_seatComes_9 : decode cX4_seatComes 9 = .ok (.getfield 98, 3) := by decide +kernel
theorem dX4_seatComes_12 : decode cX4_seatComes 12 = .ok (.if_icmp .ge 9, 3) := by decide +kernel
theorem dX4_seatComes_15 : decode cX4_seatComes 15 = .ok (.iload_n 2, 1) := by decide +kernel
theorem dX4_seatComes_16 : decode cX4_seatComes 16 = .ok (.bipush 25, 2) := by decide +kernel
theorem dX4_seatComes_18 : decode cX4_seatComes 18 = .ok (.if_icmp .lt 5, 3) := by decide +kernel
theorem dX4_seatComes_21 : decode cX4_seatComes 21 = .ok (.iconst 0, 1) := by decide +kernel
theorem dX4_seatComes_22 : decode cX4_seatComes 22 = .ok (.ireturn, 1) := by decide +kernel
theorem dX4_seatComes_23 : decode cX4_seatComes 23 = .ok (.aload_n 0, 1) := by decide +kernel
theorem dX4_seatComes_24 : decode cX4_seatComes 24 = .ok (.getfield 23, 3) := by decide +kernel
theorem dX4_seatComes_27 : decode cX4_seatComes 27 = .ok (.getfield 104, 3) := by decide +kernel
theorem dX4_seatComes_30 : decode cX4_seatComes 30 = .ok (.iload_n 1, 1) := by decide +kernel
theorem dX4_seatComes_31 : decode cX4_seatComes 31 = .ok (.iload_n 2, 1) := by decide +kernel
theorem dX4_seatComes_32 : decode cX4_seatComes 32 = .ok (.iastore, 1) := by decide +kernel
theorem dX4_seatComes_33 : decode cX4_seatComes 33 = .ok (.iconst 1, 1) := by decide +kernel
theorem dX4_seatComes_34 : decode cX4_seatComes 34 = .ok (.ireturn, 1) := by decide +kernel
