theorem dX0_init_0 : decode cX0_init 0 = .ok (.aload_n 0, 1) := by decide +kernel
theorem dX0_init_1 : decode cX0_init 1 = .ok (.invokespecial 3, 3) := by decide +kernel
theorem dX0_init_4 : decode cX0_init 4 = .ok (.aload_n 0, 1) := by decide +kernel
theorem dX0_init_5 : decode cX0_init 5 = .ok (.aload_n 1, 1) := by decide +kernel
theorem dX0_init_6 : decode cX0_init 6 = .ok (.putfield 9, 3) := by decide +kernel
theorem dX0_init_9 : decode cX0_init 9 = .ok (.return_, 1) := by decide +kernel
set_option maxRecDepth 20000 in
theorem ggX0_nearestTo_X5_apart : GoodIn wsX0_nearestTo wsX5_apart := goodIn_r _ [6] (by decide +kernel) (by decide +kernel)
set_option maxRecDepth 20000 in
theorem gX0_nearestTo_X5_apart_n25 : GoodIn wsX0_nearestTo (wsX5_apart) := ggX0_nearestTo_X5_apart
theorem dX0_nearestTo_0 : decode cX0_nearestTo 0 = .ok (.bipush (-9), 2) := by decide +kernel
theorem dX0_nearestTo_2 : decode cX0_nearestTo 2 = .ok (.istore_n 2, 1) := by decide +kernel
theorem dX0_nearestTo_3 : decode cX0_nearestTo 3 = .ok (.bipush 9, 2) := by decide +kernel
theorem dX0_nearestTo_5 : decode cX0_nearestTo 5 = .ok (.istore_n 3, 1) := by decide +kernel
theorem dX0_nearestTo_6 : decode cX0_nearestTo 6 = .ok (.iconst 0, 1) := by decide +kernel
theorem dX0_nearestTo_7 : decode cX0_nearestTo 7 = .ok (.istore 4, 2) := by decide +kernel
theorem dX0_nearestTo_9 : decode cX0_nearestTo 9 = .ok (.iload 4, 2) := by decide +kernel
theorem dX0_nearestTo_11 : decode cX0_nearestTo 11 = .ok (.aload_n 0, 1) := by decide +kernel
theorem dX0_nearestTo_12 : decode cX0_nearestTo 12 = .ok (.getfield 9, 3) := by decide +kernel
theorem dX0_nearestTo_15 : decode cX0_nearestTo 15 = .ok (.getfield 15, 3) := by decide +kernel
theorem dX0_nearestTo_18 : decode cX0_nearestTo 18 = .ok (.if_icmp .ge 37, 3) := by decide +kernel
theorem dX0_nearestTo_21 : decode cX0_nearestTo 21 = .ok (.aload_n 0, 1) := by decide +kernel
theorem dX0_nearestTo_22 : decode cX0_nearestTo 22 = .ok (.getfield 9, 3) := by decide +kernel
theorem dX0_nearestTo_25 : decode cX0_nearestTo 25 = .ok (.getfield 21, 3) := by decide +kernel
theorem dX0_nearestTo_28 : decode cX0_nearestTo 28 = .ok (.iload 4, 2) := by decide +kernel
theorem dX0_nearestTo_30 : decode cX0_nearestTo 30 = .ok (.iaload, 1) := by decide +kernel
theorem dX0_nearestTo_31 : decode cX0_nearestTo 31 = .ok (.iload_n 1, 1) := by decide +kernel
theorem dX0_nearestTo_32 : decode cX0_nearestTo 32 = .ok (.invokestatic 25, 3) := by decide +kernel
theorem dX0_nearestTo_35 : decode cX0_nearestTo 35 = .ok (.istore 5, 2) := by decide +kernel
theorem dX0_nearestTo_37 : decode cX0_nearestTo 37 = .ok (.iload 5, 2) := by decide +kernel
theorem dX0_nearestTo_39 : decode cX0_nearestTo 39 = .ok (.iload_n 3, 1) := by decide +kernel
theorem dX0_nearestTo_40 : decode cX0_nearestTo 40 = .ok (.if_icmp .ge 9, 3) := by decide +kernel
theorem dX0_nearestTo_43 : decode cX0_nearestTo 43 = .ok (.iload 5, 2) := by decide +kernel
theorem dX0_nearestTo_45 : decode cX0_nearestTo 45 = .ok (.istore_n 3, 1) := by decide +kernel
theorem dX0_nearestTo_46 : decode cX0_nearestTo 46 = .ok (.iload 4, 2) := by decide +kernel
theorem dX0_nearestTo_48 : decode cX0_nearestTo 48 = .ok (.istore_n 2, 1) := by decide +kernel
theorem dX0_nearestTo_49 : decode cX0_nearestTo 49 = .ok (.iinc 4 1, 3) := by decide +kernel
theorem dX0_nearestTo_52 : decode cX0_nearestTo 52 = .ok (.goto (-43), 3) := by decide +kernel
theorem dX0_nearestTo_55 : decode cX0_nearestTo 55 = .ok (.iload_n 2, 1) := by decide +kernel
theorem dX0_nearestTo_56 : decode cX0_nearestTo 56 = .ok (.ireturn, 1) := by decide +kernel
set_option maxRecDepth 20000 in
theorem ggX0_chainOf_X5_isIn : GoodIn wsX0_chainOf wsX5_isIn := goodIn_r _ [5] (by decide +kernel) (by decide +kernel)
set_option maxRecDepth 20000 in
theorem gX0_chainOf_X5_isIn_n29 : GoodIn wsX0_chainOf (wsX5_isIn) := ggX0_chainOf_X5_isIn
set_option maxRecDepth 20000 in
theorem ggX0_chainOf_X3_besideBits : GoodIn wsX0_chainOf wsX3_besideBits := goodIn_r _ [10, 11, 12, 13, 4, 14, 16, 17, 18, 19, 20, 21, 22, 23] (by decide +kernel) (by decide +kernel)
set_option maxRecDepth 20000 in
theorem gX0_chainOf_X3_besideBits : GoodIn wsX0_chainOf (wsV RX0 33 RX3 yX3_besideBits wsX3_besideBits) := goodIn_app (goodIn_of _ (by decide +kernel)) ggX0_chainOf_X3_besideBits
theorem dX0_chainOf_0 : decode cX0_chainOf 0 = .ok (.iconst 1, 1) := by decide +kernel
theorem dX0_chainOf_1 : decode cX0_chainOf 1 = .ok (.iload_n 1, 1) := by decide +kernel
theorem dX0_chainOf_2 : decode cX0_chainOf 2 = .ok (.ishl, 1) := by decide +kernel
theorem dX0_chainOf_3 : decode cX0_chainOf 3 = .ok (.istore_n 2, 1) := by decide +kernel
theorem dX0_chainOf_4 : decode cX0_chainOf 4 = .ok (.iconst 0, 1) := by decide +kernel
theorem dX0_chainOf_5 : decode cX0_chainOf 5 = .ok (.istore_n 3, 1) := by decide +kernel
theorem dX0_chainOf_6 : decode cX0_chainOf 6 = .ok (.iload_n 3, 1) := by decide +kernel
theorem dX0_chainOf_7 : decode cX0_chainOf 7 = .ok (.aload_n 0, 1) := by decide +kernel
theorem dX0_chainOf_8 : decode cX0_chainOf 8 = .ok (.getfield 9, 3) := by decide +kernel
theorem dX0_chainOf_11 : decode cX0_chainOf 11 = .ok (.getfield 15, 3) := by decide +kernel
theorem dX0_chainOf_14 : decode cX0_chainOf 14 = .ok (.if_icmp .ge 51, 3) := by decide +kernel
theorem dX0_chainOf_17 : decode cX0_chainOf 17 = .ok (.iconst 0, 1) := by decide +kernel
theorem dX0_chainOf_18 : decode cX0_chainOf 18 = .ok (.istore 4, 2) := by decide +kernel
theorem dX0_chainOf_20 : decode cX0_chainOf 20 = .ok (.iload 4, 2) := by decide +kernel
theorem dX0_chainOf_22 : decode cX0_chainOf 22 = .ok (.aload_n 0, 1) := by decide +kernel
theorem dX0_chainOf_23 : decode cX0_chainOf 23 = .ok (.getfield 9, 3) := by decide +kernel
theorem dX0_chainOf_26 : decode cX0_chainOf 26 = .ok (.getfield 15, 3) := by decide +kernel
theorem dX0_chainOf_29 : decode cX0_chainOf 29 = .ok (.if_icmp .ge 30, 3) := by decide +kernel
theorem dX0_chainOf_32 : decode cX0_chainOf 32 = .ok (.iload_n 2, 1) := by decide +kernel
theorem dX0_chainOf_33 : decode cX0_chainOf 33 = .ok (.iload 4, 2) := by decide +kernel
theorem dX0_chainOf_35 : decode cX0_chainOf 35 = .ok (.invokestatic 29, 3) := by decide +kernel
theorem dX0_chainOf_38 : decode cX0_chainOf 38 = .ok (.ifCond .eq 15, 3) := by decide +kernel
theorem dX0_chainOf_41 : decode cX0_chainOf 41 = .ok (.iload_n 2, 1) := by decide +kernel
theorem dX0_chainOf_42 : decode cX0_chainOf 42 = .ok (.aload_n 0, 1) := by decide +kernel
theorem dX0_chainOf_43 : decode cX0_chainOf 43 = .ok (.getfield 9, 3) := by decide +kernel
theorem dX0_chainOf_46 : decode cX0_chainOf 46 = .ok (.iload 4, 2) := by decide +kernel
theorem dX0_chainOf_48 : decode cX0_chainOf 48 = .ok (.invokevirtual 33, 3) := by decide +kernel
theorem dX0_chainOf_51 : decode cX0_chainOf 51 = .ok (.ior, 1) := by decide +kernel
theorem dX0_chainOf_52 : decode cX0_chainOf 52 = .ok (.istore_n 2, 1) := by decide +kernel
theorem dX0_chainOf_53 : decode cX0_chainOf 53 = .ok (.iinc 4 1, 3) := by decide +kernel
theorem dX0_chainOf_56 : decode cX0_chainOf 56 = .ok (.goto (-36), 3) := by decide +kernel
theorem dX0_chainOf_59 : decode cX0_chainOf 59 = .ok (.iinc 3 1, 3) := by decide +kernel
theorem dX0_chainOf_62 : decode cX0_chainOf 62 = .ok (.goto (-56), 3) := by decide +kernel
theorem dX0_chainOf_65 : decode cX0_chainOf 65 = .ok (.iload_n 2, 1) := by decide +kernel
theorem dX0_chainOf_66 : decode cX0_chainOf 66 = .ok (.ireturn, 1) := by decide +kernel
set_option maxRecDepth 20000 in
theorem ggX0_chains_X5_isIn : GoodIn wsX0_chains wsX5_isIn := goodIn_r _ [5] (by decide +kernel) (by decide +kernel)
set_option maxRecDepth 20000 in
theorem gX0_chains_X5_isIn_n29 : GoodIn wsX0_chains (wsX5_isIn) := ggX0_chains_X5_isIn
set_option maxRecDepth 20000 in
theorem ggX0_chains_X0_chainOf : GoodIn wsX0_chains wsX0_chainOf := goodIn_r _ [10, 1, 2, 3, 4, 5, 11, 12, 13, 14, 15, 16, 17, 18, 19, 20, 21, 22, 23, 24, 25, 26, 27, 28] (by decide +kernel) (by decide +kernel)
set_option maxRecDepth 20000 in
theorem gX0_chains_X0_chainOf : GoodIn wsX0_chains (wsV RX0 37 RX0 yX0_chainOf wsX0_chainOf) := goodIn_app (goodIn_of _ (by decide +kernel)) ggX0_chains_X0_chainOf
theorem dX0_chains_0 : decode cX0_chains 0 = .ok (.iconst 0, 1) := by decide +kernel
theorem dX0_chains_1 : decode cX0_chains 1 = .ok (.istore_n 1, 1) := by decide +kernel
theorem dX0_chains_2 : decode cX0_chains 2 = .ok (.iconst 0, 1) := by decide +kernel
theorem dX0_chains_3 : decode cX0_chains 3 = .ok (.istore_n 2, 1) := by decide +kernel
theorem dX0_chains_4 : decode cX0_chains 4 = .ok (.iconst 0, 1) := by decide +kernel
theorem dX0_chains_5 : decode cX0_chains 5 = .ok (.istore_n 3, 1) := by decide +kernel
theorem dX0_chains_6 : decode cX0_chains 6 = .ok (.iload_n 3, 1) := by decide +kernel
theorem dX0_chains_7 : decode cX0_chains 7 = .ok (.aload_n 0, 1) := by decide +kernel
theorem dX0_chains_8 : decode cX0_chains 8 = .ok (.getfield 9, 3) := by decide +kernel
theorem dX0_chains_11 : decode cX0_chains 11 = .ok (.getfield 15, 3) := by decide +kernel
theorem dX0_chains_14 : decode cX0_chains 14 = .ok (.if_icmp .ge 28, 3) := by decide +kernel
theorem dX0_chains_17 : decode cX0_chains 17 = .ok (.iload_n 2, 1) := by decide +kernel
theorem dX0_chains_18 : decode cX0_chains 18 = .ok (.iload_n 3, 1) := by decide +kernel
theorem dX0_chains_19 : decode cX0_chains 19 = .ok (.invokestatic 29, 3) := by decide +kernel
theorem dX0_chains_22 : decode cX0_chains 22 = .ok (.ifCond .ne 14, 3) := by decide +kernel
theorem dX0_chains_25 : decode cX0_chains 25 = .ok (.iload_n 2, 1) := by decide +kernel
theorem dX0_chains_26 : decode cX0_chains 26 = .ok (.aload_n 0, 1) := by decide +kernel
theorem dX0_chains_27 : decode cX0_chains 27 = .ok (.iload_n 3, 1) := by decide +kernel
theorem dX0_chains_28 : decode cX0_chains 28 = .ok (.invokevirtual 37, 3) := by decide +kernel
theorem dX0_chains_31 : decode cX0_chains 31 = .ok (.ior, 1) := by decide +kernel
theorem dX0_chains_32 : decode cX0_chains 32 = .ok (.istore_n 2, 1) := by decide +kernel
theorem dX0_chains_33 : decode cX0_chains 33 = .ok (.iinc 1 1, 3) := by decide +kernel
theorem dX0_chains_36 : decode cX0_chains 36 = .ok (.iinc 3 1, 3) := by decide +kernel
theorem dX0_chains_39 : decode cX0_chains 39 = .ok (.goto (-33), 3) := by decide +kernel
theorem dX0_chains_42 : decode cX0_chains 42 = .ok (.iload_n 1, 1) := by decide +kernel
theorem dX0_chains_43 : decode cX0_chains 43 = .ok (.ireturn, 1) := by decide +kernel
set_option maxRecDepth 20000 in
theorem ggX0_mostInAChain_X0_chainOf : GoodIn wsX0_mostInAChain wsX0_chainOf := goodIn_r _ [11, 1, 2, 12, 13, 14, 15, 16, 17, 18, 19, 20, 21, 22, 23, 31, 32, 33, 34, 35, 36, 37, 38, 39] (by decide +kernel) (by decide +kernel)
set_option maxRecDepth 20000 in
theorem gX0_mostInAChain_X0_chainOf : GoodIn wsX0_mostInAChain (wsV RX0 37 RX0 yX0_chainOf wsX0_chainOf) := goodIn_app (goodIn_of _ (by decide +kernel)) ggX0_mostInAChain_X0_chainOf
set_option maxRecDepth 20000 in
theorem ggX0_mostInAChain_J6_bitCount_0f7a4 : GoodIn wsX0_mostInAChain wsJ6_bitCount_0f7a4 := goodIn_r _ [27, 28, 29, 30] (by decide +kernel) (by decide +kernel)
set_option maxRecDepth 20000 in
theorem gX0_mostInAChain_J6_bitCount_0f7a4 : GoodIn wsX0_mostInAChain (va_wsS RX0 40 yJ6_bitCount_0f7a4 wsJ6_bitCount_0f7a4) := goodIn_app (goodIn_of _ (by decide +kernel)) ggX0_mostInAChain_J6_bitCount_0f7a4
theorem dX0_mostInAChain_0 : decode cX0_mostInAChain 0 = .ok (.iconst 0, 1) := by decide +kernel
theorem dX0_mostInAChain_1 : decode cX0_mostInAChain 1 = .ok (.istore_n 1, 1) := by decide +kernel
theorem dX0_mostInAChain_2 : decode cX0_mostInAChain 2 = .ok (.iconst 0, 1) := by decide +kernel
theorem dX0_mostInAChain_3 : decode cX0_mostInAChain 3 = .ok (.istore_n 2, 1) := by decide +kernel
theorem dX0_mostInAChain_4 : decode cX0_mostInAChain 4 = .ok (.iload_n 2, 1) := by decide +kernel
theorem dX0_mostInAChain_5 : decode cX0_mostInAChain 5 = .ok (.aload_n 0, 1) := by decide +kernel
theorem dX0_mostInAChain_6 : decode cX0_mostInAChain 6 = .ok (.getfield 9, 3) := by decide +kernel
theorem dX0_mostInAChain_9 : decode cX0_mostInAChain 9 = .ok (.getfield 15, 3) := by decide +kernel
theorem dX0_mostInAChain_12 : decode cX0_mostInAChain 12 = .ok (.if_icmp .ge 22, 3) := by decide +kernel
theorem dX0_mostInAChain_15 : decode cX0_mostInAChain 15 = .ok (.iload_n 1, 1) := by decide +kernel
theorem dX0_mostInAChain_16 : decode cX0_mostInAChain 16 = .ok (.aload_n 0, 1) := by decide +kernel
theorem dX0_mostInAChain_17 : decode cX0_mostInAChain 17 = .ok (.iload_n 2, 1) := by decide +kernel
theorem dX0_mostInAChain_18 : decode cX0_mostInAChain 18 = .ok (.invokevirtual 37, 3) := by decide +kernel
theorem dX0_mostInAChain_21 : decode cX0_mostInAChain 21 = .ok (.invokestatic 40, 3) := by decide +kernel
theorem dX0_mostInAChain_24 : decode cX0_mostInAChain 24 = .ok (.invokestatic 45, 3) := by decide +kernel
theorem dX0_mostInAChain_27 : decode cX0_mostInAChain 27 = .ok (.istore_n 1, 1) := by decide +kernel
theorem dX0_mostInAChain_28 : decode cX0_mostInAChain 28 = .ok (.iinc 2 1, 3) := by decide +kernel
theorem dX0_mostInAChain_31 : decode cX0_mostInAChain 31 = .ok (.goto (-27), 3) := by decide +kernel
theorem dX0_mostInAChain_34 : decode cX0_mostInAChain 34 = .ok (.iload_n 1, 1) := by decide +kernel
theorem dX0_mostInAChain_35 : decode cX0_mostInAChain 35 = .ok (.ireturn, 1) := by decide +kernel
set_option maxRecDepth 20000 in
theorem ggX0_middleCell_X0_stepsFrom : GoodIn wsX0_middleCell wsX0_stepsFrom := goodIn_r _ [5, 6, 7, 8, 9, 10, 11, 12, 13, 14, 15, 16, 17, 18, 19, 20] (by decide +kernel) (by decide +kernel)
set_option maxRecDepth 20000 in
theorem gX0_middleCell_X0_stepsFrom : GoodIn wsX0_middleCell (wsV RX0 50 RX0 yX0_stepsFrom wsX0_stepsFrom) := goodIn_app (goodIn_of _ (by decide +kernel)) ggX0_middleCell_X0_stepsFrom
theorem dX0_middleCell_0 : decode cX0_middleCell 0 = .ok (.iconst 0, 1) := by decide +kernel
theorem dX0_middleCell_1 : decode cX0_middleCell 1 = .ok (.istore_n 1, 1) := by decide +kernel
theorem dX0_middleCell_2 : decode cX0_middleCell 2 = .ok (.aload_n 0, 1) := by decide +kernel
theorem dX0_middleCell_3 : decode cX0_middleCell 3 = .ok (.iconst 0, 1) := by decide +kernel
theorem dX0_middleCell_4 : decode cX0_middleCell 4 = .ok (.invokevirtual 50, 3) := by decide +kernel
theorem dX0_middleCell_7 : decode cX0_middleCell 7 = .ok (.istore_n 2, 1) := by decide +kernel
theorem dX0_middleCell_8 : decode cX0_middleCell 8 = .ok (.iconst 1, 1) := by decide +kernel
theorem dX0_middleCell_9 : decode cX0_middleCell 9 = .ok (.istore_n 3, 1) := by decide +kernel
theorem dX0_middleCell_10 : decode cX0_middleCell 10 = .ok (.iload_n 3, 1) := by decide +kernel
theorem dX0_middleCell_11 : decode cX0_middleCell 11 = .ok (.bipush 25, 2) := by decide +kernel
theorem dX0_middleCell_13 : decode cX0_middleCell 13 = .ok (.if_icmp .ge 27, 3) := by decide +kernel
theorem dX0_middleCell_16 : decode cX0_middleCell 16 = .ok (.aload_n 0, 1) := by decide +kernel
theorem dX0_middleCell_17 : decode cX0_middleCell 17 = .ok (.iload_n 3, 1) := by decide +kernel
theorem dX0_middleCell_18 : decode cX0_middleCell 18 = .ok (.invokevirtual 50, 3) := by decide +kernel
theorem dX0_middleCell_21 : decode cX0_middleCell 21 = .ok (.istore 4, 2) := by decide +kernel
theorem dX0_middleCell_23 : decode cX0_middleCell 23 = .ok (.iload 4, 2) := by decide +kernel
theorem dX0_middleCell_25 : decode cX0_middleCell 25 = .ok (.iload_n 2, 1) := by decide +kernel
theorem dX0_middleCell_26 : decode cX0_middleCell 26 = .ok (.if_icmp .ge 8, 3) := by decide +kernel
theorem dX0_middleCell_29 : decode cX0_middleCell 29 = .ok (.iload 4, 2) := by decide +kernel
theorem dX0_middleCell_31 : decode cX0_middleCell 31 = .ok (.istore_n 2, 1) := by decide +kernel
theorem dX0_middleCell_32 : decode cX0_middleCell 32 = .ok (.iload_n 3, 1) := by decide +kernel
theorem dX0_middleCell_33 : decode cX0_middleCell 33 = .ok (.istore_n 1, 1) := by decide +kernel
theorem dX0_middleCell_34 : decode cX0_middleCell 34 = .ok (.iinc 3 1, 3) := by decide +kernel
theorem dX0_middleCell_37 : decode cX0_middleCell 37 = .ok (.goto (-27), 3) := by decide +kernel
theorem dX0_middleCell_40 : decode cX0_middleCell 40 = .ok (.iload_n 1, 1) := by decide +kernel
theorem dX0_middleCell_41 : decode cX0_middleCell 41 = .ok (.ireturn, 1) := by decide +kernel
set_option maxRecDepth 20000 in
theorem ggX0_stepsFrom_X5_apart : GoodIn wsX0_stepsFrom wsX5_apart := goodIn_r _ [6] (by decide +kernel) (by decide +kernel)
set_option maxRecDepth 20000 in
theorem gX0_stepsFrom_X5_apart_n25 : GoodIn wsX0_stepsFrom (wsX5_apart) := ggX0_stepsFrom_X5_apart
theorem dX0_stepsFrom_0 : decode cX0_stepsFrom 0 = .ok (.iconst 0, 1) := by decide +kernel
theorem dX0_stepsFrom_1 : decode cX0_stepsFrom 1 = .ok (.istore_n 2, 1) := by decide +kernel
theorem dX0_stepsFrom_2 : decode cX0_stepsFrom 2 = .ok (.iconst 0, 1) := by decide +kernel
theorem dX0_stepsFrom_3 : decode cX0_stepsFrom 3 = .ok (.istore_n 3, 1) := by decide +kernel
theorem dX0_stepsFrom_4 : decode cX0_stepsFrom 4 = .ok (.iload_n 3, 1) := by decide +kernel
theorem dX0_stepsFrom_5 : decode cX0_stepsFrom 5 = .ok (.aload_n 0, 1) := by decide +kernel
theorem dX0_stepsFrom_6 : decode cX0_stepsFrom 6 = .ok (.getfield 9, 3) := by decide +kernel
theorem dX0_stepsFrom_9 : decode cX0_stepsFrom 9 = .ok (.getfield 15, 3) := by decide +kernel
theorem dX0_stepsFrom_12 : decode cX0_stepsFrom 12 = .ok (.if_icmp .ge 25, 3) := by decide +kernel
theorem dX0_stepsFrom_15 : decode cX0_stepsFrom 15 = .ok (.iload_n 2, 1) := by decide +kernel
theorem dX0_stepsFrom_16 : decode cX0_stepsFrom 16 = .ok (.aload_n 0, 1) := by decide +kernel
theorem dX0_stepsFrom_17 : decode cX0_stepsFrom 17 = .ok (.getfield 9, 3) := by decide +kernel
theorem dX0_stepsFrom_20 : decode cX0_stepsFrom 20 = .ok (.getfield 21, 3) := by decide +kernel
theorem dX0_stepsFrom_23 : decode cX0_stepsFrom 23 = .ok (.iload_n 3, 1) := by decide +kernel
theorem dX0_stepsFrom_24 : decode cX0_stepsFrom 24 = .ok (.iaload, 1) := by decide +kernel
theorem dX0_stepsFrom_25 : decode cX0_stepsFrom 25 = .ok (.iload_n 1, 1) := by decide +kernel
theorem dX0_stepsFrom_26 : decode cX0_stepsFrom 26 = .ok (.invokestatic 25, 3) := by decide +kernel
theorem dX0_stepsFrom_29 : decode cX0_stepsFrom 29 = .ok (.iadd, 1) := by decide +kernel
theorem dX0_stepsFrom_30 : decode cX0_stepsFrom 30 = .ok (.istore_n 2, 1) := by decide +kernel
theorem dX0_stepsFrom_31 : decode cX0_stepsFrom 31 = .ok (.iinc 3 1, 3) := by decide +kernel
theorem dX0_stepsFrom_34 : decode cX0_stepsFrom 34 = .ok (.goto (-30), 3) := by decide +kernel
theorem dX0_stepsFrom_37 : decode cX0_stepsFrom 37 = .ok (.iload_n 2, 1) := by decide +kernel
theorem dX0_stepsFrom_38 : decode cX0_stepsFrom 38 = .ok (.ireturn, 1) := by decide +kernel
theorem dX1_init_0 : decode cX1_init 0 = .ok (.aload_n 0, 1) := by decide +kernel
theorem dX1_init_1 : decode cX1_init 1 = .ok (.invokespecial 3, 3) := by decide +kernel
theorem dX1_init_4 : decode cX1_init 4 = .ok (.aload_n 0, 1) := by decide +kernel
theorem dX1_init_5 : decode cX1_init 5 = .ok (.aload_n 1, 1) := by decide +kernel
theorem dX1_init_6 : decode cX1_init 6 = .ok (.putfield 9, 3) := by decide +kernel
theorem dX1_init_9 : decode cX1_init 9 = .ok (.aload_n 0, 1) := by decide +kernel
theorem dX1_init_10 : decode cX1_init 10 = .ok (.aload_n 2, 1) := by decide +kernel
theorem dX1_init_11 : decode cX1_init 11 = .ok (.putfield 15, 3) := by decide +kernel
theorem dX1_init_14 : decode cX1_init 14 = .ok (.return_, 1) := by decide +kernel
set_option maxRecDepth 20000 in
theorem ggX1_think_X3_take : GoodIn wsX1_think wsX3_take := goodIn_r _ [7, 8, 9, 10, 11, 12, 13, 14, 15, 16, 17, 18, 21, 22, 23, 24, 25, 26, 27, 28] (by decide +kernel) (by decide +kernel)
set_option maxRecDepth 20000 in
theorem gX1_think_X3_take : GoodIn wsX1_think (wsV RX1 18 RX3 yX3_take wsX3_take) := goodIn_app (goodIn_of _ (by decide +kernel)) ggX1_think_X3_take
theorem dX1_think_0 : decode cX1_think 0 = .ok (.aload_n 0, 1) := by decide +kernel
theorem dX1_think_1 : decode cX1_think 1 = .ok (.getfield 15, 3) := by decide +kernel
theorem dX1_think_4 : decode cX1_think 4 = .ok (.aload_n 0, 1) := by decide +kernel
theorem dX1_think_5 : decode cX1_think 5 = .ok (.getfield 9, 3) := by decide +kernel
theorem dX1_think_8 : decode cX1_think 8 = .ok (.invokevirtual 18, 3) := by decide +kernel
theorem dX1_think_11 : decode cX1_think 11 = .ok (.aload_n 0, 1) := by decide +kernel
theorem dX1_think_12 : decode cX1_think 12 = .ok (.getfield 15, 3) := by decide +kernel
theorem dX1_think_15 : decode cX1_think 15 = .ok (.areturn, 1) := by decide +kernel
set_option maxRecDepth 20000 in
theorem ggX1_allBelieve_X3_believers : GoodIn wsX1_allBelieve wsX3_believers := goodIn_r _ [7, 8, 9, 10, 6, 11, 12, 13, 14, 15, 16, 17, 18, 19, 20, 21, 22, 23, 24, 27, 28, 29, 30, 31, 32, 33, 34] (by decide +kernel) (by decide +kernel)
set_option maxRecDepth 20000 in
theorem gX1_allBelieve_X3_believers : GoodIn wsX1_allBelieve (wsV RX1 24 RX3 yX3_believers wsX3_believers) := goodIn_app (goodIn_of _ (by decide +kernel)) ggX1_allBelieve_X3_believers
theorem dX1_allBelieve_0 : decode cX1_allBelieve 0 = .ok (.aload_n 0, 1) := by decide +kernel
theorem dX1_allBelieve_1 : decode cX1_allBelieve 1 = .ok (.getfield 15, 3) := by decide +kernel
theorem dX1_allBelieve_4 : decode cX1_allBelieve 4 = .ok (.invokevirtual 24, 3) := by decide +kernel
theorem dX1_allBelieve_7 : decode cX1_allBelieve 7 = .ok (.aload_n 0, 1) := by decide +kernel
theorem dX1_allBelieve_8 : decode cX1_allBelieve 8 = .ok (.getfield 15, 3) := by decide +kernel
theorem dX1_allBelieve_11 : decode cX1_allBelieve 11 = .ok (.getfield 28, 3) := by decide +kernel
theorem dX1_allBelieve_14 : decode cX1_allBelieve 14 = .ok (.if_icmp .ne 7, 3) := by decide +kernel
theorem dX1_allBelieve_17 : decode cX1_allBelieve 17 = .ok (.iconst 1, 1) := by decide +kernel
theorem dX1_allBelieve_18 : decode cX1_allBelieve 18 = .ok (.goto 4, 3) := by decide +kernel
theorem dX1_allBelieve_21 : decode cX1_allBelieve 21 = .ok (.iconst 0, 1) := by decide +kernel
theorem dX1_allBelieve_22 : decode cX1_allBelieve 22 = .ok (.ireturn, 1) := by decide +kernel
set_option maxRecDepth 20000 in
theorem ggX1_yearsTillAll_X1_think : GoodIn wsX1_yearsTillAll wsX1_think := goodIn_r _ [6, 1, 7, 8, 9, 10, 11, 12, 13, 14, 15, 16, 17, 18, 19, 20, 21, 22, 23, 89, 90, 91, 92, 93, 94, 95, 96, 97, 98] (by decide +kernel) (by decide +kernel)
set_option maxRecDepth 20000 in
theorem gX1_yearsTillAll_X1_think : GoodIn wsX1_yearsTillAll (wsV RX1 32 RX1 yX1_think wsX1_think) := goodIn_app (goodIn_of _ (by decide +kernel)) ggX1_yearsTillAll_X1_think
set_option maxRecDepth 20000 in
theorem ggX1_yearsTillAll_X1_allBelieve : GoodIn wsX1_yearsTillAll wsX1_allBelieve := goodIn_r _ [27, 1, 28, 29, 30, 31, 11, 32, 33, 34, 35, 36, 22, 37, 38, 39, 40, 21, 41, 42, 43, 44, 45, 46, 47, 89, 90, 91, 92, 93, 94, 95, 96, 97, 98] (by decide +kernel) (by decide +kernel)
set_option maxRecDepth 20000 in
theorem gX1_yearsTillAll_X1_allBelieve : GoodIn wsX1_yearsTillAll (wsV RX1 36 RX1 yX1_allBelieve wsX1_allBelieve) := goodIn_app (goodIn_of _ (by decide +kernel)) ggX1_yearsTillAll_X1_allBelieve
set_option maxRecDepth 20000 in
theorem ggX1_yearsTillAll_X3_passYear : GoodIn wsX1_yearsTillAll wsX3_passYear := goodIn_r _ [51, 22, 52, 23, 21, 20, 53, 54, 55, 11, 56, 13, 57, 58, 59, 60, 61, 62, 63, 64, 19, 65, 66, 67, 68, 69, 70, 37, 38, 39, 40, 71, 72, 43, 73, 74, 75, 76, 77, 18, 78, 79, 80, 81, 82, 83, 84, 85, 86, 87, 88, 91, 92, 93, 94, 95, 96, 97, 98] (by decide +kernel) (by decide +kernel)
set_option maxRecDepth 20000 in
theorem gX1_yearsTillAll_X3_passYear : GoodIn wsX1_yearsTillAll (wsV RX1 40 RX3 yX3_passYear wsX3_passYear) := goodIn_app (goodIn_of _ (by decide +kernel)) ggX1_yearsTillAll_X3_passYear
theorem dX1_yearsTillAll_0 : decode cX1_yearsTillAll 0 = .ok (.aload_n 0, 1) := by decide +kernel
theorem dX1_yearsTillAll_1 : decode cX1_yearsTillAll 1 = .ok (.invokevirtual 32, 3) := by decide +kernel
theorem dX1_yearsTillAll_4 : decode cX1_yearsTillAll 4 = .ok (.pop, 1) := by decide +kernel
theorem dX1_yearsTillAll_5 : decode cX1_yearsTillAll 5 = .ok (.iconst 0, 1) := by decide +kernel
theorem dX1_yearsTillAll_6 : decode cX1_yearsTillAll 6 = .ok (.istore_n 1, 1) := by decide +kernel
theorem dX1_yearsTillAll_7 : decode cX1_yearsTillAll 7 = .ok (.iload_n 1, 1) := by decide +kernel
theorem dX1_yearsTillAll_8 : decode cX1_yearsTillAll 8 = .ok (.bipush 60, 2) := by decide +kernel
theorem dX1_yearsTillAll_10 : decode cX1_yearsTillAll 10 = .ok (.if_icmp .gt 27, 3) := by decide +kernel
theorem dX1_yearsTillAll_13 : decode cX1_yearsTillAll 13 = .ok (.aload_n 0, 1) := by decide +kernel
theorem dX1_yearsTillAll_14 : decode cX1_yearsTillAll 14 = .ok (.invokevirtual 36, 3) := by decide +kernel
theorem dX1_yearsTillAll_17 : decode cX1_yearsTillAll 17 = .ok (.ifCond .eq 5, 3) := by decide +kernel
theorem dX1_yearsTillAll_20 : decode cX1_yearsTillAll 20 = .ok (.iload_n 1, 1) := by decide +kernel
theorem dX1_yearsTillAll_21 : decode cX1_yearsTillAll 21 = .ok (.ireturn, 1) := by decide +kernel
theorem dX1_yearsTillAll_22 : decode cX1_yearsTillAll 22 = .ok (.aload_n 0, 1) := by decide +kernel
theorem dX1_yearsTillAll_23 : decode cX1_yearsTillAll 23 = .ok (.getfield 15, 3) := by decide +kernel
theorem dX1_yearsTillAll_26 : decode cX1_yearsTillAll 26 = .ok (.iconst 0, 1) := by decide +kernel
theorem dX1_yearsTillAll_27 : decode cX1_yearsTillAll 27 = .ok (.invokevirtual 40, 3) := by decide +kernel
theorem dX1_yearsTillAll_30 : decode cX1_yearsTillAll 30 = .ok (.pop, 1) := by decide +kernel
theorem dX1_yearsTillAll_31 : decode cX1_yearsTillAll 31 = .ok (.iinc 1 1, 3) := by decide +kernel
theorem dX1_yearsTillAll_34 : decode cX1_yearsTillAll 34 = .ok (.goto (-27), 3) := by decide +kernel
theorem dX1_yearsTillAll_37 : decode cX1_yearsTillAll 37 = .ok (.bipush (-9), 2) := by decide +kernel
theorem dX1_yearsTillAll_39 : decode cX1_yearsTillAll 39 = .ok (.ireturn, 1) := by decide +kernel
set_option maxRecDepth 20000 in
theorem ggX1_yearsTillNone_X1_think : GoodIn wsX1_yearsTillNone wsX1_think := goodIn_r _ [6, 1, 7, 8, 9, 10, 11, 12, 13, 14, 15, 16, 17, 18, 19, 20, 21, 22, 23, 84, 85, 86, 87, 88, 89, 90, 91, 92, 93] (by decide +kernel) (by decide +kernel)
set_option maxRecDepth 20000 in
theorem gX1_yearsTillNone_X1_think : GoodIn wsX1_yearsTillNone (wsV RX1 32 RX1 yX1_think wsX1_think) := goodIn_app (goodIn_of _ (by decide +kernel)) ggX1_yearsTillNone_X1_think
set_option maxRecDepth 20000 in
theorem ggX1_yearsTillNone_X3_believers : GoodIn wsX1_yearsTillNone wsX3_believers := goodIn_r _ [27, 28, 29, 30, 11, 31, 22, 32, 33, 34, 35, 21, 36, 37, 38, 39, 40, 41, 42, 86, 87, 88, 89, 90, 91, 92, 93] (by decide +kernel) (by decide +kernel)
set_option maxRecDepth 20000 in
theorem gX1_yearsTillNone_X3_believers : GoodIn wsX1_yearsTillNone (wsV RX1 24 RX3 yX3_believers wsX3_believers) := goodIn_app (goodIn_of _ (by decide +kernel)) ggX1_yearsTillNone_X3_believers
set_option maxRecDepth 20000 in
theorem ggX1_yearsTillNone_X3_passYear : GoodIn wsX1_yearsTillNone wsX3_passYear := goodIn_r _ [46, 22, 47, 23, 21, 20, 48, 49, 50, 11, 51, 13, 52, 53, 54, 55, 56, 57, 58, 59, 19, 60, 61, 62, 63, 64, 65, 32, 33, 34, 35, 66, 67, 38, 68, 69, 70, 71, 72, 18, 73, 74, 75, 76, 77, 78, 79, 80, 81, 82, 83, 86, 87, 88, 89, 90, 91, 92, 93] (by decide +kernel) (by decide +kernel)
set_option maxRecDepth 20000 in
theorem gX1_yearsTillNone_X3_passYear : GoodIn wsX1_yearsTillNone (wsV RX1 40 RX3 yX3_passYear wsX3_passYear) := goodIn_app (goodIn_of _ (by decide +kernel)) ggX1_yearsTillNone_X3_passYear
theorem dX1_yearsTillNone_0 : decode cX1_yearsTillNone 0 = .ok (.aload_n 0, 1) := by decide +kernel
theorem dX1_yearsTillNone_1 : decode cX1_yearsTillNone 1 = .ok (.invokevirtual 32, 3) := by decide +kernel
theorem dX1_yearsTillNone_4 : decode cX1_yearsTillNone 4 = .ok (.pop, 1) := by decide +kernel
theorem dX1_yearsTillNone_5 : decode cX1_yearsTillNone 5 = .ok (.iconst 0, 1) := by decide +kernel
theorem dX1_yearsTillNone_6 : decode cX1_yearsTillNone 6 = .ok (.istore_n 1, 1) := by decide +kernel
theorem dX1_yearsTillNone_7 : decode cX1_yearsTillNone 7 = .ok (.iload_n 1, 1) := by decide +kernel
theorem dX1_yearsTillNone_8 : decode cX1_yearsTillNone 8 = .ok (.bipush 60, 2) := by decide +kernel
theorem dX1_yearsTillNone_10 : decode cX1_yearsTillNone 10 = .ok (.if_icmp .gt 30, 3) := by decide +kernel
theorem dX1_yearsTillNone_13 : decode cX1_yearsTillNone 13 = .ok (.aload_n 0, 1) := by decide +kernel
theorem dX1_yearsTillNone_14 : decode cX1_yearsTillNone 14 = .ok (.getfield 15, 3) := by decide +kernel
theorem dX1_yearsTillNone_17 : decode cX1_yearsTillNone 17 = .ok (.invokevirtual 24, 3) := by decide +kernel
theorem dX1_yearsTillNone_20 : decode cX1_yearsTillNone 20 = .ok (.ifCond .ne 5, 3) := by decide +kernel
theorem dX1_yearsTillNone_23 : decode cX1_yearsTillNone 23 = .ok (.iload_n 1, 1) := by decide +kernel
theorem dX1_yearsTillNone_24 : decode cX1_yearsTillNone 24 = .ok (.ireturn, 1) := by decide +kernel
theorem dX1_yearsTillNone_25 : decode cX1_yearsTillNone 25 = .ok (.aload_n 0, 1) := by decide +kernel
theorem dX1_yearsTillNone_26 : decode cX1_yearsTillNone 26 = .ok (.getfield 15, 3) := by decide +kernel
theorem dX1_yearsTillNone_29 : decode cX1_yearsTillNone 29 = .ok (.iconst 0, 1) := by decide +kernel
theorem dX1_yearsTillNone_30 : decode cX1_yearsTillNone 30 = .ok (.invokevirtual 40, 3) := by decide +kernel
theorem dX1_yearsTillNone_33 : decode cX1_yearsTillNone 33 = .ok (.pop, 1) := by decide +kernel
theorem dX1_yearsTillNone_34 : decode cX1_yearsTillNone 34 = .ok (.iinc 1 1, 3) := by decide +kernel
theorem dX1_yearsTillNone_37 : decode cX1_yearsTillNone 37 = .ok (.goto (-30), 3) := by decide +kernel
theorem dX1_yearsTillNone_40 : decode cX1_yearsTillNone 40 = .ok (.bipush (-9), 2) := by decide +kernel
theorem dX1_yearsTillNone_42 : decode cX1_yearsTillNone 42 = .ok (.ireturn, 1) := by decide +kernel
set_option maxRecDepth 20000 in
theorem ggX1_yearsTillSettled_X1_think : GoodIn wsX1_yearsTillSettled wsX1_think := goodIn_r _ [6, 1, 7, 8, 9, 10, 11, 12, 13, 14, 15, 16, 17, 18, 19, 20, 21, 22, 23, 70, 71, 72, 73, 74, 75, 76, 77, 78, 79] (by decide +kernel) (by decide +kernel)
set_option maxRecDepth 20000 in
theorem gX1_yearsTillSettled_X1_think : GoodIn wsX1_yearsTillSettled (wsV RX1 32 RX1 yX1_think wsX1_think) := goodIn_app (goodIn_of _ (by decide +kernel)) ggX1_yearsTillSettled_X1_think
set_option maxRecDepth 20000 in
theorem ggX1_yearsTillSettled_X3_passYear : GoodIn wsX1_yearsTillSettled wsX3_passYear := goodIn_r _ [27, 22, 28, 23, 21, 20, 29, 30, 31, 11, 32, 13, 33, 34, 35, 36, 37, 38, 39, 40, 19, 41, 42, 43, 44, 45, 46, 47, 48, 49, 50, 51, 52, 53, 54, 55, 56, 57, 58, 18, 59, 60, 61, 62, 63, 64, 65, 66, 67, 68, 69, 72, 73, 74, 75, 76, 77, 78, 79] (by decide +kernel) (by decide +kernel)
set_option maxRecDepth 20000 in
theorem gX1_yearsTillSettled_X3_passYear : GoodIn wsX1_yearsTillSettled (wsV RX1 40 RX3 yX3_passYear wsX3_passYear) := goodIn_app (goodIn_of _ (by decide +kernel)) ggX1_yearsTillSettled_X3_passYear
theorem dX1_yearsTillSettled_0 : decode cX1_yearsTillSettled 0 = .ok (.aload_n 0, 1) := by decide +kernel
theorem dX1_yearsTillSettled_1 : decode cX1_yearsTillSettled 1 = .ok (.invokevirtual 32, 3) := by decide +kernel
theorem dX1_yearsTillSettled_4 : decode cX1_yearsTillSettled 4 = .ok (.pop, 1) := by decide +kernel
theorem dX1_yearsTillSettled_5 : decode cX1_yearsTillSettled 5 = .ok (.iconst 0, 1) := by decide +kernel
theorem dX1_yearsTillSettled_6 : decode cX1_yearsTillSettled 6 = .ok (.istore_n 1, 1) := by decide +kernel
theorem dX1_yearsTillSettled_7 : decode cX1_yearsTillSettled 7 = .ok (.iload_n 1, 1) := by decide +kernel
theorem dX1_yearsTillSettled_8 : decode cX1_yearsTillSettled 8 = .ok (.bipush 60, 2) := by decide +kernel
theorem dX1_yearsTillSettled_10 : decode cX1_yearsTillSettled 10 = .ok (.if_icmp .gt 22, 3) := by decide +kernel
theorem dX1_yearsTillSettled_13 : decode cX1_yearsTillSettled 13 = .ok (.aload_n 0, 1) := by decide +kernel
theorem dX1_yearsTillSettled_14 : decode cX1_yearsTillSettled 14 = .ok (.getfield 15, 3) := by decide +kernel
theorem dX1_yearsTillSettled_17 : decode cX1_yearsTillSettled 17 = .ok (.iconst 0, 1) := by decide +kernel
theorem dX1_yearsTillSettled_18 : decode cX1_yearsTillSettled 18 = .ok (.invokevirtual 40, 3) := by decide +kernel
theorem dX1_yearsTillSettled_21 : decode cX1_yearsTillSettled 21 = .ok (.ifCond .ne 5, 3) := by decide +kernel
theorem dX1_yearsTillSettled_24 : decode cX1_yearsTillSettled 24 = .ok (.iload_n 1, 1) := by decide +kernel
theorem dX1_yearsTillSettled_25 : decode cX1_yearsTillSettled 25 = .ok (.ireturn, 1) := by decide +kernel
theorem dX1_yearsTillSettled_26 : decode cX1_yearsTillSettled 26 = .ok (.iinc 1 1, 3) := by decide +kernel
theorem dX1_yearsTillSettled_29 : decode cX1_yearsTillSettled 29 = .ok (.goto (-22), 3) := by decide +kernel
theorem dX1_yearsTillSettled_32 : decode cX1_yearsTillSettled 32 = .ok (.bipush (-9), 2) := by decide +kernel
theorem dX1_yearsTillSettled_34 : decode cX1_yearsTillSettled 34 = .ok (.ireturn, 1) := by decide +kernel
set_option maxRecDepth 20000 in
theorem ggX1_yearsTillElsewhere_X1_think : GoodIn wsX1_yearsTillElsewhere wsX1_think := goodIn_r _ [6, 1, 7, 8, 9, 10, 11, 12, 13, 14, 15, 16, 17, 18, 19, 20, 21, 22, 23, 71, 72, 73, 74, 75, 76, 77, 78, 79, 80] (by decide +kernel) (by decide +kernel)
set_option maxRecDepth 20000 in
theorem gX1_yearsTillElsewhere_X1_think : GoodIn wsX1_yearsTillElsewhere (wsV RX1 32 RX1 yX1_think wsX1_think) := goodIn_app (goodIn_of _ (by decide +kernel)) ggX1_yearsTillElsewhere_X1_think
set_option maxRecDepth 20000 in
theorem ggX1_yearsTillElsewhere_X3_hollow : GoodIn wsX1_yearsTillElsewhere wsX3_hollow := goodIn_r _ [27, 13, 73, 74, 75, 76, 77, 78, 79, 80] (by decide +kernel) (by decide +kernel)
set_option maxRecDepth 20000 in
theorem gX1_yearsTillElsewhere_X3_hollow : GoodIn wsX1_yearsTillElsewhere (wsV RX1 44 RX3 yX3_hollow wsX3_hollow) := goodIn_app (goodIn_of _ (by decide +kernel)) ggX1_yearsTillElsewhere_X3_hollow
set_option maxRecDepth 20000 in
theorem ggX1_yearsTillElsewhere_X3_passYear : GoodIn wsX1_yearsTillElsewhere wsX3_passYear := goodIn_r _ [31, 22, 32, 23, 21, 20, 33, 25, 26, 11, 27, 13, 34, 35, 36, 37, 38, 39, 40, 41, 19, 42, 43, 44, 45, 46, 47, 48, 49, 50, 51, 52, 53, 54, 55, 56, 57, 58, 59, 18, 60, 61, 62, 63, 64, 65, 66, 67, 68, 69, 70, 73, 74, 75, 76, 77, 78, 79, 80] (by decide +kernel) (by decide +kernel)
set_option maxRecDepth 20000 in
theorem gX1_yearsTillElsewhere_X3_passYear : GoodIn wsX1_yearsTillElsewhere (wsV RX1 40 RX3 yX3_passYear wsX3_passYear) := goodIn_app (goodIn_of _ (by decide +kernel)) ggX1_yearsTillElsewhere_X3_passYear
theorem dX1_yearsTillElsewhere_0 : decode cX1_yearsTillElsewhere 0 = .ok (.aload_n 0, 1) := by decide +kernel
theorem dX1_yearsTillElsewhere_1 : decode cX1_yearsTillElsewhere 1 = .ok (.invokevirtual 32, 3) := by decide +kernel
theorem dX1_yearsTillElsewhere_4 : decode cX1_yearsTillElsewhere 4 = .ok (.invokevirtual 44, 3) := by decide +kernel
theorem dX1_yearsTillElsewhere_7 : decode cX1_yearsTillElsewhere 7 = .ok (.istore_n 1, 1) := by decide +kernel
theorem dX1_yearsTillElsewhere_8 : decode cX1_yearsTillElsewhere 8 = .ok (.iconst 1, 1) := by decide +kernel
theorem dX1_yearsTillElsewhere_9 : decode cX1_yearsTillElsewhere 9 = .ok (.istore_n 2, 1) := by decide +kernel
theorem dX1_yearsTillElsewhere_10 : decode cX1_yearsTillElsewhere 10 = .ok (.iload_n 2, 1) := by decide +kernel
theorem dX1_yearsTillElsewhere_11 : decode cX1_yearsTillElsewhere 11 = .ok (.bipush 60, 2) := by decide +kernel
theorem dX1_yearsTillElsewhere_13 : decode cX1_yearsTillElsewhere 13 = .ok (.if_icmp .gt 31, 3) := by decide +kernel
theorem dX1_yearsTillElsewhere_16 : decode cX1_yearsTillElsewhere 16 = .ok (.aload_n 0, 1) := by decide +kernel
theorem dX1_yearsTillElsewhere_17 : decode cX1_yearsTillElsewhere 17 = .ok (.getfield 15, 3) := by decide +kernel
theorem dX1_yearsTillElsewhere_20 : decode cX1_yearsTillElsewhere 20 = .ok (.iconst 0, 1) := by decide +kernel
theorem dX1_yearsTillElsewhere_21 : decode cX1_yearsTillElsewhere 21 = .ok (.invokevirtual 40, 3) := by decide +kernel
theorem dX1_yearsTillElsewhere_24 : decode cX1_yearsTillElsewhere 24 = .ok (.pop, 1) := by decide +kernel
theorem dX1_yearsTillElsewhere_25 : decode cX1_yearsTillElsewhere 25 = .ok (.aload_n 0, 1) := by decide +kernel
theorem dX1_yearsTillElsewhere_26 : decode cX1_yearsTillElsewhere 26 = .ok (.getfield 15, 3) := by decide +kernel
theorem dX1_yearsTillElsewhere_29 : decode cX1_yearsTillElsewhere 29 = .ok (.invokevirtual 44, 3) := by decide +kernel
theorem dX1_yearsTillElsewhere_32 : decode cX1_yearsTillElsewhere 32 = .ok (.iload_n 1, 1) := by decide +kernel
theorem dX1_yearsTillElsewhere_33 : decode cX1_yearsTillElsewhere 33 = .ok (.if_icmp .eq 5, 3) := by decide +kernel
theorem dX1_yearsTillElsewhere_36 : decode cX1_yearsTillElsewhere 36 = .ok (.iload_n 2, 1) := by decide +kernel
theorem dX1_yearsTillElsewhere_37 : decode cX1_yearsTillElsewhere 37 = .ok (.ireturn, 1) := by decide +kernel
theorem dX1_yearsTillElsewhere_38 : decode cX1_yearsTillElsewhere 38 = .ok (.iinc 2 1, 3) := by decide +kernel
theorem dX1_yearsTillElsewhere_41 : decode cX1_yearsTillElsewhere 41 = .ok (.goto (-31), 3) := by decide +kernel
theorem dX1_yearsTillElsewhere_44 : decode cX1_yearsTillElsewhere 44 = .ok (.bipush (-9), 2) := by decide +kernel
theorem dX1_yearsTillElsewhere_46 : decode cX1_yearsTillElsewhere 46 = .ok (.ireturn, 1) := by decide +kernel
set_option maxRecDepth 20000 in
theorem ggX1_fewestMakers_J6_bitCount_0f7a4 : GoodIn wsX1_fewestMakers wsJ6_bitCount_0f7a4 := goodIn_r _ [6, 7, 8, 9] (by decide +kernel) (by decide +kernel)
set_option maxRecDepth 20000 in
theorem gX1_fewestMakers_J6_bitCount_0f7a4 : GoodIn wsX1_fewestMakers (va_wsS RX1 47 yJ6_bitCount_0f7a4 wsJ6_bitCount_0f7a4) := goodIn_app (goodIn_of _ (by decide +kernel)) ggX1_fewestMakers_J6_bitCount_0f7a4
set_option maxRecDepth 20000 in
theorem ggX1_fewestMakers_X1_isMadeBy : GoodIn wsX1_fewestMakers wsX1_isMadeBy := goodIn_r _ [14, 15, 2, 16, 17, 18, 19, 13, 20, 1, 21, 22, 23, 24, 25, 26, 27, 28, 29, 30, 31, 32, 33, 34, 35, 36, 37, 38, 39, 40, 41, 42, 43, 44, 45, 46, 47, 48, 49, 50, 51, 52, 53, 54, 55, 56, 57, 58, 59, 60, 61, 62, 63, 64, 65, 66, 67, 68, 69, 70, 71, 5, 72, 73, 74, 75, 76, 77, 78, 79, 80, 81, 82, 83, 84, 85, 86, 87, 88, 89, 90, 91, 92, 93, 94, 95, 96, 4, 6, 7, 8, 9, 97, 98, 99, 100, 101, 102, 103, 104, 105, 106, 107, 108, 109, 110, 111] (by decide +kernel) (by decide +kernel)
set_option maxRecDepth 20000 in
theorem gX1_fewestMakers_X1_isMadeBy : GoodIn wsX1_fewestMakers (wsV RX1 53 RX1 yX1_isMadeBy wsX1_isMadeBy) := goodIn_app (goodIn_of _ (by decide +kernel)) ggX1_fewestMakers_X1_isMadeBy
theorem dX1_fewestMakers_0 : decode cX1_fewestMakers 0 = .ok (.bipush (-9), 2) := by decide +kernel
theorem dX1_fewestMakers_2 : decode cX1_fewestMakers 2 = .ok (.istore_n 2, 1) := by decide +kernel
theorem dX1_fewestMakers_3 : decode cX1_fewestMakers 3 = .ok (.bipush 9, 2) := by decide +kernel
theorem dX1_fewestMakers_5 : decode cX1_fewestMakers 5 = .ok (.istore_n 3, 1) := by decide +kernel
theorem dX1_fewestMakers_6 : decode cX1_fewestMakers 6 = .ok (.iconst 0, 1) := by decide +kernel
theorem dX1_fewestMakers_7 : decode cX1_fewestMakers 7 = .ok (.istore 4, 2) := by decide +kernel
theorem dX1_fewestMakers_9 : decode cX1_fewestMakers 9 = .ok (.iload 4, 2) := by decide +kernel
theorem dX1_fewestMakers_11 : decode cX1_fewestMakers 11 = .ok (.iconst 1, 1) := by decide +kernel
theorem dX1_fewestMakers_12 : decode cX1_fewestMakers 12 = .ok (.aload_n 0, 1) := by decide +kernel
theorem dX1_fewestMakers_13 : decode cX1_fewestMakers 13 = .ok (.getfield 9, 3) := by decide +kernel
theorem dX1_fewestMakers_16 : decode cX1_fewestMakers 16 = .ok (.getfield 28, 3) := by decide +kernel
theorem dX1_fewestMakers_19 : decode cX1_fewestMakers 19 = .ok (.ishl, 1) := by decide +kernel
theorem dX1_fewestMakers_20 : decode cX1_fewestMakers 20 = .ok (.if_icmp .ge 38, 3) := by decide +kernel
theorem dX1_fewestMakers_23 : decode cX1_fewestMakers 23 = .ok (.iload 4, 2) := by decide +kernel
theorem dX1_fewestMakers_25 : decode cX1_fewestMakers 25 = .ok (.invokestatic 47, 3) := by decide +kernel
theorem dX1_fewestMakers_28 : decode cX1_fewestMakers 28 = .ok (.istore 5, 2) := by decide +kernel
theorem dX1_fewestMakers_30 : decode cX1_fewestMakers 30 = .ok (.iload 5, 2) := by decide +kernel
theorem dX1_fewestMakers_32 : decode cX1_fewestMakers 32 = .ok (.iload_n 3, 1) := by decide +kernel
theorem dX1_fewestMakers_33 : decode cX1_fewestMakers 33 = .ok (.if_icmp .ge 19, 3) := by decide +kernel
theorem dX1_fewestMakers_36 : decode cX1_fewestMakers 36 = .ok (.aload_n 0, 1) := by decide +kernel
theorem dX1_fewestMakers_37 : decode cX1_fewestMakers 37 = .ok (.iload 4, 2) := by decide +kernel
theorem dX1_fewestMakers_39 : decode cX1_fewestMakers 39 = .ok (.iload_n 1, 1) := by decide +kernel
theorem dX1_fewestMakers_40 : decode cX1_fewestMakers 40 = .ok (.invokevirtual 53, 3) := by decide +kernel
theorem dX1_fewestMakers_43 : decode cX1_fewestMakers 43 = .ok (.ifCond .eq 9, 3) := by decide +kernel
theorem dX1_fewestMakers_46 : decode cX1_fewestMakers 46 = .ok (.iload 5, 2) := by decide +kernel
theorem dX1_fewestMakers_48 : decode cX1_fewestMakers 48 = .ok (.istore_n 3, 1) := by decide +kernel
theorem dX1_fewestMakers_49 : decode cX1_fewestMakers 49 = .ok (.iload 4, 2) := by decide +kernel
theorem dX1_fewestMakers_51 : decode cX1_fewestMakers 51 = .ok (.istore_n 2, 1) := by decide +kernel
theorem dX1_fewestMakers_52 : decode cX1_fewestMakers 52 = .ok (.iinc 4 1, 3) := by decide +kernel
theorem dX1_fewestMakers_55 : decode cX1_fewestMakers 55 = .ok (.goto (-46), 3) := by decide +kernel
theorem dX1_fewestMakers_58 : decode cX1_fewestMakers 58 = .ok (.iload_n 2, 1) := by decide +kernel
theorem dX1_fewestMakers_59 : decode cX1_fewestMakers 59 = .ok (.ireturn, 1) := by decide +kernel
set_option maxRecDepth 20000 in
theorem ggX1_isMadeBy_X1_think : GoodIn wsX1_isMadeBy wsX1_think := goodIn_r _ [8, 1, 9, 10, 11, 12, 13, 14, 15, 16, 17, 18, 19, 20, 21, 22, 23, 24, 25, 97, 98, 99, 100, 101, 102, 103, 104, 105, 106] (by decide +kernel) (by decide +kernel)
set_option maxRecDepth 20000 in
theorem gX1_isMadeBy_X1_think : GoodIn wsX1_isMadeBy (wsV RX1 32 RX1 yX1_think wsX1_think) := goodIn_app (goodIn_of _ (by decide +kernel)) ggX1_isMadeBy_X1_think
set_option maxRecDepth 20000 in
theorem ggX1_isMadeBy_X5_isIn : GoodIn wsX1_isMadeBy wsX5_isIn := goodIn_r _ [28] (by decide +kernel) (by decide +kernel)
set_option maxRecDepth 20000 in
theorem gX1_isMadeBy_X5_isIn_n57 : GoodIn wsX1_isMadeBy (wsX5_isIn) := ggX1_isMadeBy_X5_isIn
set_option maxRecDepth 20000 in
theorem ggX1_isMadeBy_X3_passYears : GoodIn wsX1_isMadeBy wsX3_passYears := goodIn_r _ [32, 33, 34, 35, 13, 36, 24, 37, 25, 23, 22, 38, 39, 40, 41, 15, 42, 43, 44, 45, 46, 47, 48, 49, 21, 50, 51, 52, 53, 27, 54, 55, 56, 57, 58, 59, 60, 61, 62, 63, 64, 65, 66, 20, 67, 68, 69, 70, 71, 72, 73, 74, 75, 76, 77, 78, 79, 80, 81, 82, 83, 84, 85, 86, 87, 88, 89, 90, 91, 99, 100, 101, 102, 103, 104, 105, 106] (by decide +kernel) (by decide +kernel)
set_option maxRecDepth 20000 in
theorem gX1_isMadeBy_X3_passYears : GoodIn wsX1_isMadeBy (wsV RX1 64 RX3 yX3_passYears wsX3_passYears) := goodIn_app (goodIn_of _ (by decide +kernel)) ggX1_isMadeBy_X3_passYears
set_option maxRecDepth 20000 in
theorem ggX1_isMadeBy_X1_allBelieve : GoodIn wsX1_isMadeBy wsX1_allBelieve := goodIn_r _ [95, 1, 2, 96, 79, 80, 13, 81, 82, 83, 84, 85, 24, 55, 56, 57, 58, 23, 86, 87, 61, 88, 89, 90, 91, 97, 98, 99, 100, 101, 102, 103, 104, 105, 106] (by decide +kernel) (by decide +kernel)
set_option maxRecDepth 20000 in
theorem gX1_isMadeBy_X1_allBelieve : GoodIn wsX1_isMadeBy (wsV RX1 36 RX1 yX1_allBelieve wsX1_allBelieve) := goodIn_app (goodIn_of _ (by decide +kernel)) ggX1_isMadeBy_X1_allBelieve
theorem dX1_isMadeBy_0 : decode cX1_isMadeBy 0 = .ok (.aload_n 0, 1) := by decide +kernel
theorem dX1_isMadeBy_1 : decode cX1_isMadeBy 1 = .ok (.invokevirtual 32, 3) := by decide +kernel
theorem dX1_isMadeBy_4 : decode cX1_isMadeBy 4 = .ok (.pop, 1) := by decide +kernel
theorem dX1_isMadeBy_5 : decode cX1_isMadeBy 5 = .ok (.iconst 0, 1) := by decide +kernel
theorem dX1_isMadeBy_6 : decode cX1_isMadeBy 6 = .ok (.istore_n 3, 1) := by decide +kernel
theorem dX1_isMadeBy_7 : decode cX1_isMadeBy 7 = .ok (.iload_n 3, 1) := by decide +kernel
theorem dX1_isMadeBy_8 : decode cX1_isMadeBy 8 = .ok (.aload_n 0, 1) := by decide +kernel
theorem dX1_isMadeBy_9 : decode cX1_isMadeBy 9 = .ok (.getfield 15, 3) := by decide +kernel
theorem dX1_isMadeBy_12 : decode cX1_isMadeBy 12 = .ok (.getfield 28, 3) := by decide +kernel
theorem dX1_isMadeBy_15 : decode cX1_isMadeBy 15 = .ok (.if_icmp .ge 28, 3) := by decide +kernel
theorem dX1_isMadeBy_18 : decode cX1_isMadeBy 18 = .ok (.iload_n 1, 1) := by decide +kernel
theorem dX1_isMadeBy_19 : decode cX1_isMadeBy 19 = .ok (.iload_n 3, 1) := by decide +kernel
theorem dX1_isMadeBy_20 : decode cX1_isMadeBy 20 = .ok (.invokestatic 57, 3) := by decide +kernel
theorem dX1_isMadeBy_23 : decode cX1_isMadeBy 23 = .ok (.ifCond .eq 14, 3) := by decide +kernel
theorem dX1_isMadeBy_26 : decode cX1_isMadeBy 26 = .ok (.aload_n 0, 1) := by decide +kernel
theorem dX1_isMadeBy_27 : decode cX1_isMadeBy 27 = .ok (.getfield 15, 3) := by decide +kernel
theorem dX1_isMadeBy_30 : decode cX1_isMadeBy 30 = .ok (.getfield 60, 3) := by decide +kernel
theorem dX1_isMadeBy_33 : decode cX1_isMadeBy 33 = .ok (.iload_n 3, 1) := by decide +kernel
theorem dX1_isMadeBy_34 : decode cX1_isMadeBy 34 = .ok (.bipush 9, 2) := by decide +kernel
theorem dX1_isMadeBy_36 : decode cX1_isMadeBy 36 = .ok (.iastore, 1) := by decide +kernel
theorem dX1_isMadeBy_37 : decode cX1_isMadeBy 37 = .ok (.iinc 3 1, 3) := by decide +kernel
theorem dX1_isMadeBy_40 : decode cX1_isMadeBy 40 = .ok (.goto (-33), 3) := by decide +kernel
theorem dX1_isMadeBy_43 : decode cX1_isMadeBy 43 = .ok (.aload_n 0, 1) := by decide +kernel
theorem dX1_isMadeBy_44 : decode cX1_isMadeBy 44 = .ok (.getfield 15, 3) := by decide +kernel
theorem dX1_isMadeBy_47 : decode cX1_isMadeBy 47 = .ok (.iload_n 2, 1) := by decide +kernel
theorem dX1_isMadeBy_48 : decode cX1_isMadeBy 48 = .ok (.invokevirtual 64, 3) := by decide +kernel
theorem dX1_isMadeBy_51 : decode cX1_isMadeBy 51 = .ok (.pop, 1) := by decide +kernel
theorem dX1_isMadeBy_52 : decode cX1_isMadeBy 52 = .ok (.aload_n 0, 1) := by decide +kernel
theorem dX1_isMadeBy_53 : decode cX1_isMadeBy 53 = .ok (.invokevirtual 36, 3) := by decide +kernel
theorem dX1_isMadeBy_56 : decode cX1_isMadeBy 56 = .ok (.ireturn, 1) := by decide +kernel
set_option maxRecDepth 20000 in
theorem ggX1_fewestLeavers_J6_bitCount_0f7a4 : GoodIn wsX1_fewestLeavers wsJ6_bitCount_0f7a4 := goodIn_r _ [6, 7, 8, 9] (by decide +kernel) (by decide +kernel)
set_option maxRecDepth 20000 in
theorem gX1_fewestLeavers_J6_bitCount_0f7a4 : GoodIn wsX1_fewestLeavers (va_wsS RX1 47 yJ6_bitCount_0f7a4 wsJ6_bitCount_0f7a4) := goodIn_app (goodIn_of _ (by decide +kernel)) ggX1_fewestLeavers_J6_bitCount_0f7a4
set_option maxRecDepth 20000 in
theorem ggX1_fewestLeavers_X1_believersWithout : GoodIn wsX1_fewestLeavers wsX1_believersWithout := goodIn_r _ [14, 15, 16, 17, 18, 13, 19, 1, 20, 21, 22, 23, 24, 25, 26, 27, 28, 29, 30, 31, 32, 33, 34, 35, 36, 37, 38, 39, 40, 41, 42, 43, 44, 45, 46, 47, 48, 49, 50, 51, 52, 53, 54, 55, 56, 57, 58, 59, 60, 61, 62, 63, 64, 65, 66, 67, 68, 69, 70, 71, 72, 73, 74, 5, 75, 76, 77, 78, 79, 80, 81, 82, 83, 84, 85, 86, 87, 88, 89, 90, 91, 92, 93, 94, 95, 96, 97, 98, 99, 4, 6, 7, 8, 9, 100, 101, 102, 103, 104, 105, 106, 107, 108, 109] (by decide +kernel) (by decide +kernel)
set_option maxRecDepth 20000 in
theorem gX1_fewestLeavers_X1_believersWithout : GoodIn wsX1_fewestLeavers (wsV RX1 67 RX1 yX1_believersWithout wsX1_believersWithout) := goodIn_app (goodIn_of _ (by decide +kernel)) ggX1_fewestLeavers_X1_believersWithout
theorem dX1_fewestLeavers_0 : decode cX1_fewestLeavers 0 = .ok (.bipush (-9), 2) := by decide +kernel
theorem dX1_fewestLeavers_2 : decode cX1_fewestLeavers 2 = .ok (.istore_n 2, 1) := by decide +kernel
theorem dX1_fewestLeavers_3 : decode cX1_fewestLeavers 3 = .ok (.bipush 9, 2) := by decide +kernel
theorem dX1_fewestLeavers_5 : decode cX1_fewestLeavers 5 = .ok (.istore_n 3, 1) := by decide +kernel
theorem dX1_fewestLeavers_6 : decode cX1_fewestLeavers 6 = .ok (.iconst 0, 1) := by decide +kernel
theorem dX1_fewestLeavers_7 : decode cX1_fewestLeavers 7 = .ok (.istore 4, 2) := by decide +kernel
theorem dX1_fewestLeavers_9 : decode cX1_fewestLeavers 9 = .ok (.iload 4, 2) := by decide +kernel
theorem dX1_fewestLeavers_11 : decode cX1_fewestLeavers 11 = .ok (.iconst 1, 1) := by decide +kernel
theorem dX1_fewestLeavers_12 : decode cX1_fewestLeavers 12 = .ok (.aload_n 0, 1) := by decide +kernel
theorem dX1_fewestLeavers_13 : decode cX1_fewestLeavers 13 = .ok (.getfield 9, 3) := by decide +kernel
theorem dX1_fewestLeavers_16 : decode cX1_fewestLeavers 16 = .ok (.getfield 28, 3) := by decide +kernel
theorem dX1_fewestLeavers_19 : decode cX1_fewestLeavers 19 = .ok (.ishl, 1) := by decide +kernel
theorem dX1_fewestLeavers_20 : decode cX1_fewestLeavers 20 = .ok (.if_icmp .ge 38, 3) := by decide +kernel
theorem dX1_fewestLeavers_23 : decode cX1_fewestLeavers 23 = .ok (.iload 4, 2) := by decide +kernel
theorem dX1_fewestLeavers_25 : decode cX1_fewestLeavers 25 = .ok (.invokestatic 47, 3) := by decide +kernel
theorem dX1_fewestLeavers_28 : decode cX1_fewestLeavers 28 = .ok (.istore 5, 2) := by decide +kernel
theorem dX1_fewestLeavers_30 : decode cX1_fewestLeavers 30 = .ok (.iload 5, 2) := by decide +kernel
theorem dX1_fewestLeavers_32 : decode cX1_fewestLeavers 32 = .ok (.iload_n 3, 1) := by decide +kernel
theorem dX1_fewestLeavers_33 : decode cX1_fewestLeavers 33 = .ok (.if_icmp .ge 19, 3) := by decide +kernel
theorem dX1_fewestLeavers_36 : decode cX1_fewestLeavers 36 = .ok (.aload_n 0, 1) := by decide +kernel
theorem dX1_fewestLeavers_37 : decode cX1_fewestLeavers 37 = .ok (.iload 4, 2) := by decide +kernel
theorem dX1_fewestLeavers_39 : decode cX1_fewestLeavers 39 = .ok (.iload_n 1, 1) := by decide +kernel
theorem dX1_fewestLeavers_40 : decode cX1_fewestLeavers 40 = .ok (.invokevirtual 67, 3) := by decide +kernel
theorem dX1_fewestLeavers_43 : decode cX1_fewestLeavers 43 = .ok (.ifCond .ne 9, 3) := by decide +kernel
theorem dX1_fewestLeavers_46 : decode cX1_fewestLeavers 46 = .ok (.iload 5, 2) := by decide +kernel
theorem dX1_fewestLeavers_48 : decode cX1_fewestLeavers 48 = .ok (.istore_n 3, 1) := by decide +kernel
theorem dX1_fewestLeavers_49 : decode cX1_fewestLeavers 49 = .ok (.iload 4, 2) := by decide +kernel
theorem dX1_fewestLeavers_51 : decode cX1_fewestLeavers 51 = .ok (.istore_n 2, 1) := by decide +kernel
theorem dX1_fewestLeavers_52 : decode cX1_fewestLeavers 52 = .ok (.iinc 4 1, 3) := by decide +kernel
theorem dX1_fewestLeavers_55 : decode cX1_fewestLeavers 55 = .ok (.goto (-46), 3) := by decide +kernel
theorem dX1_fewestLeavers_58 : decode cX1_fewestLeavers 58 = .ok (.iload_n 2, 1) := by decide +kernel
theorem dX1_fewestLeavers_59 : decode cX1_fewestLeavers 59 = .ok (.ireturn, 1) := by decide +kernel
set_option maxRecDepth 20000 in
theorem ggX1_believersWithout_X1_think : GoodIn wsX1_believersWithout wsX1_think := goodIn_r _ [6, 1, 7, 8, 9, 10, 11, 12, 13, 14, 15, 16, 17, 18, 19, 20, 21, 22, 23, 94, 95, 96, 97, 98, 99, 100, 101, 102, 103] (by decide +kernel) (by decide +kernel)
set_option maxRecDepth 20000 in
theorem gX1_believersWithout_X1_think : GoodIn wsX1_believersWithout (wsV RX1 32 RX1 yX1_think wsX1_think) := goodIn_app (goodIn_of _ (by decide +kernel)) ggX1_believersWithout_X1_think
set_option maxRecDepth 20000 in
theorem ggX1_believersWithout_X3_dropAll : GoodIn wsX1_believersWithout wsX3_dropAll := goodIn_r _ [27, 22, 18, 19, 20, 21, 28, 29, 30, 96, 97, 98, 99, 100, 101, 102, 103] (by decide +kernel) (by decide +kernel)
set_option maxRecDepth 20000 in
theorem gX1_believersWithout_X3_dropAll : GoodIn wsX1_believersWithout (wsV RX1 71 RX3 yX3_dropAll wsX3_dropAll) := goodIn_app (goodIn_of _ (by decide +kernel)) ggX1_believersWithout_X3_dropAll
set_option maxRecDepth 20000 in
theorem ggX1_believersWithout_X3_passYears : GoodIn wsX1_believersWithout wsX3_passYears := goodIn_r _ [34, 35, 36, 37, 11, 38, 22, 39, 23, 21, 20, 40, 41, 42, 43, 13, 44, 45, 46, 47, 48, 49, 50, 51, 19, 52, 53, 54, 55, 29, 56, 57, 58, 59, 60, 61, 62, 63, 64, 65, 66, 67, 68, 18, 69, 70, 71, 72, 73, 74, 75, 76, 77, 78, 79, 80, 81, 82, 83, 84, 85, 86, 87, 88, 89, 90, 91, 92, 93, 96, 97, 98, 99, 100, 101, 102, 103] (by decide +kernel) (by decide +kernel)
set_option maxRecDepth 20000 in
theorem gX1_believersWithout_X3_passYears : GoodIn wsX1_believersWithout (wsV RX1 64 RX3 yX3_passYears wsX3_passYears) := goodIn_app (goodIn_of _ (by decide +kernel)) ggX1_believersWithout_X3_passYears
theorem dX1_believersWithout_0 : decode cX1_believersWithout 0 = .ok (.aload_n 0, 1) := by decide +kernel
theorem dX1_believersWithout_1 : decode cX1_believersWithout 1 = .ok (.invokevirtual 32, 3) := by decide +kernel
theorem dX1_believersWithout_4 : decode cX1_believersWithout 4 = .ok (.iload_n 1, 1) := by decide +kernel
theorem dX1_believersWithout_5 : decode cX1_believersWithout 5 = .ok (.invokevirtual 71, 3) := by decide +kernel
theorem dX1_believersWithout_8 : decode cX1_believersWithout 8 = .ok (.aload_n 0, 1) := by decide +kernel
theorem dX1_believersWithout_9 : decode cX1_believersWithout 9 = .ok (.getfield 15, 3) := by decide +kernel
theorem dX1_believersWithout_12 : decode cX1_believersWithout 12 = .ok (.iload_n 2, 1) := by decide +kernel
theorem dX1_believersWithout_13 : decode cX1_believersWithout 13 = .ok (.invokevirtual 64, 3) := by decide +kernel
theorem dX1_believersWithout_16 : decode cX1_believersWithout 16 = .ok (.ireturn, 1) := by decide +kernel
set_option maxRecDepth 20000 in
theorem ggX1_whomToAsk_X1_think : GoodIn wsX1_whomToAsk wsX1_think := goodIn_r _ [9, 4, 1, 10, 11, 12, 13, 14, 15, 16, 17, 18, 19, 20, 21, 22, 23, 24, 25, 90, 91, 92, 93, 94, 95, 96, 97, 98, 99] (by decide +kernel) (by decide +kernel)
set_option maxRecDepth 20000 in
theorem gX1_whomToAsk_X1_think : GoodIn wsX1_whomToAsk (wsV RX1 32 RX1 yX1_think wsX1_think) := goodIn_app (goodIn_of _ (by decide +kernel)) ggX1_whomToAsk_X1_think
set_option maxRecDepth 20000 in
theorem ggX1_whomToAsk_X3_passYears : GoodIn wsX1_whomToAsk wsX3_passYears := goodIn_r _ [29, 30, 31, 32, 13, 33, 24, 34, 25, 23, 22, 35, 36, 37, 38, 15, 39, 40, 41, 42, 43, 44, 45, 46, 21, 47, 48, 49, 50, 51, 52, 53, 54, 55, 56, 57, 58, 59, 60, 61, 62, 63, 64, 20, 65, 66, 67, 68, 69, 70, 71, 72, 73, 74, 75, 76, 77, 78, 79, 80, 81, 82, 83, 84, 85, 86, 87, 88, 89, 92, 93, 94, 95, 96, 97, 98, 99] (by decide +kernel) (by decide +kernel)
set_option maxRecDepth 20000 in
theorem gX1_whomToAsk_X3_passYears : GoodIn wsX1_whomToAsk (wsV RX1 64 RX3 yX3_passYears wsX3_passYears) := goodIn_app (goodIn_of _ (by decide +kernel)) ggX1_whomToAsk_X3_passYears
theorem dX1_whomToAsk_0 : decode cX1_whomToAsk 0 = .ok (.bipush (-9), 2) := by decide +kernel
theorem dX1_whomToAsk_2 : decode cX1_whomToAsk 2 = .ok (.istore_n 2, 1) := by decide +kernel
theorem dX1_whomToAsk_3 : decode cX1_whomToAsk 3 = .ok (.aload_n 0, 1) := by decide +kernel
theorem dX1_whomToAsk_4 : decode cX1_whomToAsk 4 = .ok (.invokevirtual 32, 3) := by decide +kernel
theorem dX1_whomToAsk_7 : decode cX1_whomToAsk 7 = .ok (.iload_n 1, 1) := by decide +kernel
theorem dX1_whomToAsk_8 : decode cX1_whomToAsk 8 = .ok (.invokevirtual 64, 3) := by decide +kernel
theorem dX1_whomToAsk_11 : decode cX1_whomToAsk 11 = .ok (.istore_n 3, 1) := by decide +kernel
theorem dX1_whomToAsk_12 : decode cX1_whomToAsk 12 = .ok (.iconst 0, 1) := by decide +kernel
theorem dX1_whomToAsk_13 : decode cX1_whomToAsk 13 = .ok (.istore 4, 2) := by decide +kernel
theorem dX1_whomToAsk_15 : decode cX1_whomToAsk 15 = .ok (.iload 4, 2) := by decide +kernel
theorem dX1_whomToAsk_17 : decode cX1_whomToAsk 17 = .ok (.aload_n 0, 1) := by decide +kernel
theorem dX1_whomToAsk_18 : decode cX1_whomToAsk 18 = .ok (.getfield 9, 3) := by decide +kernel
theorem dX1_whomToAsk_21 : decode cX1_whomToAsk 21 = .ok (.getfield 28, 3) := by decide +kernel
theorem dX1_whomToAsk_24 : decode cX1_whomToAsk 24 = .ok (.if_icmp .ge 43, 3) := by decide +kernel
theorem dX1_whomToAsk_27 : decode cX1_whomToAsk 27 = .ok (.aload_n 0, 1) := by decide +kernel
theorem dX1_whomToAsk_28 : decode cX1_whomToAsk 28 = .ok (.invokevirtual 32, 3) := by decide +kernel
theorem dX1_whomToAsk_31 : decode cX1_whomToAsk 31 = .ok (.getfield 60, 3) := by decide +kernel
theorem dX1_whomToAsk_34 : decode cX1_whomToAsk 34 = .ok (.iload 4, 2) := by decide +kernel
theorem dX1_whomToAsk_36 : decode cX1_whomToAsk 36 = .ok (.bipush 9, 2) := by decide +kernel
theorem dX1_whomToAsk_38 : decode cX1_whomToAsk 38 = .ok (.iastore, 1) := by decide +kernel
theorem dX1_whomToAsk_39 : decode cX1_whomToAsk 39 = .ok (.aload_n 0, 1) := by decide +kernel
theorem dX1_whomToAsk_40 : decode cX1_whomToAsk 40 = .ok (.getfield 15, 3) := by decide +kernel
theorem dX1_whomToAsk_43 : decode cX1_whomToAsk 43 = .ok (.iload_n 1, 1) := by decide +kernel
theorem dX1_whomToAsk_44 : decode cX1_whomToAsk 44 = .ok (.invokevirtual 64, 3) := by decide +kernel
theorem dX1_whomToAsk_47 : decode cX1_whomToAsk 47 = .ok (.istore 5, 2) := by decide +kernel
theorem dX1_whomToAsk_49 : decode cX1_whomToAsk 49 = .ok (.iload 5, 2) := by decide +kernel
theorem dX1_whomToAsk_51 : decode cX1_whomToAsk 51 = .ok (.iload_n 3, 1) := by decide +kernel
theorem dX1_whomToAsk_52 : decode cX1_whomToAsk 52 = .ok (.if_icmp .le 9, 3) := by decide +kernel
theorem dX1_whomToAsk_55 : decode cX1_whomToAsk 55 = .ok (.iload 5, 2) := by decide +kernel
theorem dX1_whomToAsk_57 : decode cX1_whomToAsk 57 = .ok (.istore_n 3, 1) := by decide +kernel
theorem dX1_whomToAsk_58 : decode cX1_whomToAsk 58 = .ok (.iload 4, 2) := by decide +kernel
theorem dX1_whomToAsk_60 : decode cX1_whomToAsk 60 = .ok (.istore_n 2, 1) := by decide +kernel
theorem dX1_whomToAsk_61 : decode cX1_whomToAsk 61 = .ok (.iinc 4 1, 3) := by decide +kernel
theorem dX1_whomToAsk_64 : decode cX1_whomToAsk 64 = .ok (.goto (-49), 3) := by decide +kernel
theorem dX1_whomToAsk_67 : decode cX1_whomToAsk 67 = .ok (.iload_n 2, 1) := by decide +kernel
theorem dX1_whomToAsk_68 : decode cX1_whomToAsk 68 = .ok (.ireturn, 1) := by decide +kernel
set_option maxRecDepth 20000 in
theorem ggX1_bestCell_X1_beliefFrom : GoodIn wsX1_bestCell wsX1_beliefFrom := goodIn_r _ [5, 6, 7, 8, 9, 10, 11, 4, 12, 13, 14, 15, 16, 17, 18, 19, 20, 21, 22, 23, 24, 25, 26, 27, 28, 29, 30, 31, 32, 33, 34, 35, 36, 37, 38, 39, 40, 41, 42, 43, 44, 45, 46, 47, 48, 49, 50, 51, 52, 53, 54, 55, 56, 57, 58, 59, 60, 61, 62, 63, 64, 65, 66, 67, 68, 69, 70, 71, 72, 73, 74, 75, 76, 77, 78, 79, 80, 81, 82, 83, 84, 85, 86, 87, 88, 89, 90, 91, 92, 93, 94, 95, 96, 97, 98, 99, 100, 101, 102, 103] (by decide +kernel) (by decide +kernel)
set_option maxRecDepth 20000 in
theorem gX1_bestCell_X1_beliefFrom : GoodIn wsX1_bestCell (wsV RX1 75 RX1 yX1_beliefFrom wsX1_beliefFrom) := goodIn_app (goodIn_of _ (by decide +kernel)) ggX1_bestCell_X1_beliefFrom
theorem dX1_bestCell_0 : decode cX1_bestCell 0 = .ok (.iconst 0, 1) := by decide +kernel
theorem dX1_bestCell_1 : decode cX1_bestCell 1 = .ok (.istore_n 3, 1) := by decide +kernel
theorem dX1_bestCell_2 : decode cX1_bestCell 2 = .ok (.iconst (-1), 1) := by decide +kernel
theorem dX1_bestCell_3 : decode cX1_bestCell 3 = .ok (.istore 4, 2) := by decide +kernel
theorem dX1_bestCell_5 : decode cX1_bestCell 5 = .ok (.iconst 0, 1) := by decide +kernel
theorem dX1_bestCell_6 : decode cX1_bestCell 6 = .ok (.istore 5, 2) := by decide +kernel
theorem dX1_bestCell_8 : decode cX1_bestCell 8 = .ok (.iload 5, 2) := by decide +kernel
theorem dX1_bestCell_10 : decode cX1_bestCell 10 = .ok (.bipush 25, 2) := by decide +kernel
theorem dX1_bestCell_12 : decode cX1_bestCell 12 = .ok (.if_icmp .ge 33, 3) := by decide +kernel
theorem dX1_bestCell_15 : decode cX1_bestCell 15 = .ok (.aload_n 0, 1) := by decide +kernel
theorem dX1_bestCell_16 : decode cX1_bestCell 16 = .ok (.iload 5, 2) := by decide +kernel
theorem dX1_bestCell_18 : decode cX1_bestCell 18 = .ok (.iload_n 1, 1) := by decide +kernel
theorem dX1_bestCell_19 : decode cX1_bestCell 19 = .ok (.iload_n 2, 1) := by decide +kernel
theorem dX1_bestCell_20 : decode cX1_bestCell 20 = .ok (.invokevirtual 75, 3) := by decide +kernel
theorem dX1_bestCell_23 : decode cX1_bestCell 23 = .ok (.istore 6, 2) := by decide +kernel
theorem dX1_bestCell_25 : decode cX1_bestCell 25 = .ok (.iload 6, 2) := by decide +kernel
theorem dX1_bestCell_27 : decode cX1_bestCell 27 = .ok (.iload 4, 2) := by decide +kernel
theorem dX1_bestCell_29 : decode cX1_bestCell 29 = .ok (.if_icmp .le 10, 3) := by decide +kernel
theorem dX1_bestCell_32 : decode cX1_bestCell 32 = .ok (.iload 6, 2) := by decide +kernel
theorem dX1_bestCell_34 : decode cX1_bestCell 34 = .ok (.istore 4, 2) := by decide +kernel
theorem dX1_bestCell_36 : decode cX1_bestCell 36 = .ok (.iload 5, 2) := by decide +kernel
theorem dX1_bestCell_38 : decode cX1_bestCell 38 = .ok (.istore_n 3, 1) := by decide +kernel
theorem dX1_bestCell_39 : decode cX1_bestCell 39 = .ok (.iinc 5 1, 3) := by decide +kernel
theorem dX1_bestCell_42 : decode cX1_bestCell 42 = .ok (.goto (-34), 3) := by decide +kernel
theorem dX1_bestCell_45 : decode cX1_bestCell 45 = .ok (.iload_n 3, 1) := by decide +kernel
theorem dX1_bestCell_46 : decode cX1_bestCell 46 = .ok (.ireturn, 1) := by decide +kernel
set_option maxRecDepth 20000 in
theorem ggX1_beliefFrom_X1_think : GoodIn wsX1_beliefFrom wsX1_think := goodIn_r _ [8, 2, 9, 10, 11, 12, 13, 14, 15, 16, 17, 18, 19, 20, 21, 22, 23, 24, 25, 98, 99, 90, 91, 92, 93, 94, 95, 96, 97] (by decide +kernel) (by decide +kernel)
set_option maxRecDepth 20000 in
theorem gX1_beliefFrom_X1_think : GoodIn wsX1_beliefFrom (wsV RX1 32 RX1 yX1_think wsX1_think) := goodIn_app (goodIn_of _ (by decide +kernel)) ggX1_beliefFrom_X1_think
set_option maxRecDepth 20000 in
theorem ggX1_beliefFrom_X3_passYears : GoodIn wsX1_beliefFrom wsX3_passYears := goodIn_r _ [29, 30, 31, 32, 13, 33, 24, 34, 25, 23, 22, 35, 36, 37, 38, 15, 39, 40, 41, 42, 43, 44, 45, 46, 21, 47, 48, 49, 50, 51, 52, 53, 54, 55, 56, 57, 58, 59, 60, 61, 62, 63, 64, 20, 65, 66, 67, 68, 69, 70, 71, 72, 73, 74, 75, 76, 77, 78, 79, 80, 81, 82, 83, 84, 85, 86, 87, 88, 89, 90, 91, 92, 93, 94, 95, 96, 97] (by decide +kernel) (by decide +kernel)
set_option maxRecDepth 20000 in
theorem gX1_beliefFrom_X3_passYears : GoodIn wsX1_beliefFrom (wsV RX1 64 RX3 yX3_passYears wsX3_passYears) := goodIn_app (goodIn_of _ (by decide +kernel)) ggX1_beliefFrom_X3_passYears
theorem dX1_beliefFrom_0 : decode cX1_beliefFrom 0 = .ok (.aload_n 0, 1) := by decide +kernel
theorem dX1_beliefFrom_1 : decode cX1_beliefFrom 1 = .ok (.invokevirtual 32, 3) := by decide +kernel
theorem dX1_beliefFrom_4 : decode cX1_beliefFrom 4 = .ok (.getfield 79, 3) := by decide +kernel
theorem dX1_beliefFrom_7 : decode cX1_beliefFrom 7 = .ok (.iload_n 2, 1) := by decide +kernel
theorem dX1_beliefFrom_8 : decode cX1_beliefFrom 8 = .ok (.iload_n 1, 1) := by decide +kernel
theorem dX1_beliefFrom_9 : decode cX1_beliefFrom 9 = .ok (.iastore, 1) := by decide +kernel
theorem dX1_beliefFrom_10 : decode cX1_beliefFrom 10 = .ok (.aload_n 0, 1) := by decide +kernel
theorem dX1_beliefFrom_11 : decode cX1_beliefFrom 11 = .ok (.getfield 15, 3) := by decide +kernel
theorem dX1_beliefFrom_14 : decode cX1_beliefFrom 14 = .ok (.iload_n 3, 1) := by decide +kernel
theorem dX1_beliefFrom_15 : decode cX1_beliefFrom 15 = .ok (.invokevirtual 64, 3) := by decide +kernel
theorem dX1_beliefFrom_18 : decode cX1_beliefFrom 18 = .ok (.pop, 1) := by decide +kernel
theorem dX1_beliefFrom_19 : decode cX1_beliefFrom 19 = .ok (.aload_n 0, 1) := by decide +kernel
theorem dX1_beliefFrom_20 : decode cX1_beliefFrom 20 = .ok (.getfield 15, 3) := by decide +kernel
theorem dX1_beliefFrom_23 : decode cX1_beliefFrom 23 = .ok (.getfield 60, 3) := by decide +kernel
theorem dX1_beliefFrom_26 : decode cX1_beliefFrom 26 = .ok (.iload_n 2, 1) := by decide +kernel
theorem dX1_beliefFrom_27 : decode cX1_beliefFrom 27 = .ok (.iaload, 1) := by decide +kernel
theorem dX1_beliefFrom_28 : decode cX1_beliefFrom 28 = .ok (.ireturn, 1) := by decide +kernel
set_option maxRecDepth 20000 in
theorem ggX1_worstDoubter_X1_think : GoodIn wsX1_worstDoubter wsX1_think := goodIn_r _ [9, 4, 1, 10, 11, 12, 13, 14, 15, 16, 17, 18, 19, 20, 21, 22, 23, 24, 25, 90, 91, 92, 93, 94, 95, 96, 97, 98, 99] (by decide +kernel) (by decide +kernel)
set_option maxRecDepth 20000 in
theorem gX1_worstDoubter_X1_think : GoodIn wsX1_worstDoubter (wsV RX1 32 RX1 yX1_think wsX1_think) := goodIn_app (goodIn_of _ (by decide +kernel)) ggX1_worstDoubter_X1_think
set_option maxRecDepth 20000 in
theorem ggX1_worstDoubter_X3_passYears : GoodIn wsX1_worstDoubter wsX3_passYears := goodIn_r _ [29, 30, 31, 32, 13, 33, 24, 34, 25, 23, 22, 35, 36, 37, 38, 15, 39, 40, 41, 42, 43, 44, 45, 46, 21, 47, 48, 49, 50, 51, 52, 53, 54, 55, 56, 57, 58, 59, 60, 61, 62, 63, 64, 20, 65, 66, 67, 68, 69, 70, 71, 72, 73, 74, 75, 76, 77, 78, 79, 80, 81, 82, 83, 84, 85, 86, 87, 88, 89, 92, 93, 94, 95, 96, 97, 98, 99] (by decide +kernel) (by decide +kernel)
set_option maxRecDepth 20000 in
theorem gX1_worstDoubter_X3_passYears : GoodIn wsX1_worstDoubter (wsV RX1 64 RX3 yX3_passYears wsX3_passYears) := goodIn_app (goodIn_of _ (by decide +kernel)) ggX1_worstDoubter_X3_passYears
theorem dX1_worstDoubter_0 : decode cX1_worstDoubter 0 = .ok (.bipush (-9), 2) := by decide +kernel
theorem dX1_worstDoubter_2 : decode cX1_worstDoubter 2 = .ok (.istore_n 2, 1) := by decide +kernel
theorem dX1_worstDoubter_3 : decode cX1_worstDoubter 3 = .ok (.bipush 9, 2) := by decide +kernel
theorem dX1_worstDoubter_5 : decode cX1_worstDoubter 5 = .ok (.istore_n 3, 1) := by decide +kernel
theorem dX1_worstDoubter_6 : decode cX1_worstDoubter 6 = .ok (.iconst 0, 1) := by decide +kernel
theorem dX1_worstDoubter_7 : decode cX1_worstDoubter 7 = .ok (.istore 4, 2) := by decide +kernel
theorem dX1_worstDoubter_9 : decode cX1_worstDoubter 9 = .ok (.iload 4, 2) := by decide +kernel
theorem dX1_worstDoubter_11 : decode cX1_worstDoubter 11 = .ok (.aload_n 0, 1) := by decide +kernel
theorem dX1_worstDoubter_12 : decode cX1_worstDoubter 12 = .ok (.getfield 9, 3) := by decide +kernel
theorem dX1_worstDoubter_15 : decode cX1_worstDoubter 15 = .ok (.getfield 28, 3) := by decide +kernel
theorem dX1_worstDoubter_18 : decode cX1_worstDoubter 18 = .ok (.if_icmp .ge 42, 3) := by decide +kernel
theorem dX1_worstDoubter_21 : decode cX1_worstDoubter 21 = .ok (.aload_n 0, 1) := by decide +kernel
theorem dX1_worstDoubter_22 : decode cX1_worstDoubter 22 = .ok (.invokevirtual 32, 3) := by decide +kernel
theorem dX1_worstDoubter_25 : decode cX1_worstDoubter 25 = .ok (.getfield 82, 3) := by decide +kernel
theorem dX1_worstDoubter_28 : decode cX1_worstDoubter 28 = .ok (.iload 4, 2) := by decide +kernel
theorem dX1_worstDoubter_30 : decode cX1_worstDoubter 30 = .ok (.iconst 3, 1) := by decide +kernel
theorem dX1_worstDoubter_31 : decode cX1_worstDoubter 31 = .ok (.iastore, 1) := by decide +kernel
theorem dX1_worstDoubter_32 : decode cX1_worstDoubter 32 = .ok (.aload_n 0, 1) := by decide +kernel
theorem dX1_worstDoubter_33 : decode cX1_worstDoubter 33 = .ok (.getfield 15, 3) := by decide +kernel
theorem dX1_worstDoubter_36 : decode cX1_worstDoubter 36 = .ok (.iload_n 1, 1) := by decide +kernel
theorem dX1_worstDoubter_37 : decode cX1_worstDoubter 37 = .ok (.invokevirtual 64, 3) := by decide +kernel
theorem dX1_worstDoubter_40 : decode cX1_worstDoubter 40 = .ok (.istore 5, 2) := by decide +kernel
theorem dX1_worstDoubter_42 : decode cX1_worstDoubter 42 = .ok (.iload 5, 2) := by decide +kernel
theorem dX1_worstDoubter_44 : decode cX1_worstDoubter 44 = .ok (.iload_n 3, 1) := by decide +kernel
theorem dX1_worstDoubter_45 : decode cX1_worstDoubter 45 = .ok (.if_icmp .ge 9, 3) := by decide +kernel
theorem dX1_worstDoubter_48 : decode cX1_worstDoubter 48 = .ok (.iload 5, 2) := by decide +kernel
theorem dX1_worstDoubter_50 : decode cX1_worstDoubter 50 = .ok (.istore_n 3, 1) := by decide +kernel
theorem dX1_worstDoubter_51 : decode cX1_worstDoubter 51 = .ok (.iload 4, 2) := by decide +kernel
theorem dX1_worstDoubter_53 : decode cX1_worstDoubter 53 = .ok (.istore_n 2, 1) := by decide +kernel
theorem dX1_worstDoubter_54 : decode cX1_worstDoubter 54 = .ok (.iinc 4 1, 3) := by decide +kernel
theorem dX1_worstDoubter_57 : decode cX1_worstDoubter 57 = .ok (.goto (-48), 3) := by decide +kernel
theorem dX1_worstDoubter_60 : decode cX1_worstDoubter 60 = .ok (.iload_n 2, 1) := by decide +kernel
theorem dX1_worstDoubter_61 : decode cX1_worstDoubter 61 = .ok (.ireturn, 1) := by decide +kernel
set_option maxRecDepth 20000 in
theorem ggX1_moreByStranger_X3_isFull : GoodIn wsX1_moreByStranger wsX3_isFull := goodIn_r _ [8, 9, 101, 102, 103, 104, 105, 106, 107, 108] (by decide +kernel) (by decide +kernel)
set_option maxRecDepth 20000 in
theorem gX1_moreByStranger_X3_isFull : GoodIn wsX1_moreByStranger (wsV RX1 85 RX3 yX3_isFull wsX3_isFull) := goodIn_app (goodIn_of _ (by decide +kernel)) ggX1_moreByStranger_X3_isFull
set_option maxRecDepth 20000 in
theorem ggX1_moreByStranger_X1_think : GoodIn wsX1_moreByStranger wsX1_think := goodIn_r _ [14, 2, 1, 15, 16, 17, 7, 18, 19, 20, 21, 22, 23, 24, 25, 26, 27, 9, 28, 99, 100, 101, 102, 103, 104, 105, 106, 107, 108] (by decide +kernel) (by decide +kernel)
set_option maxRecDepth 20000 in
theorem gX1_moreByStranger_X1_think : GoodIn wsX1_moreByStranger (wsV RX1 32 RX1 yX1_think wsX1_think) := goodIn_app (goodIn_of _ (by decide +kernel)) ggX1_moreByStranger_X1_think
set_option maxRecDepth 20000 in
theorem ggX1_moreByStranger_X3_passYears : GoodIn wsX1_moreByStranger wsX3_passYears := goodIn_r _ [32, 33, 34, 35, 7, 36, 9, 37, 28, 27, 26, 38, 39, 40, 41, 19, 42, 43, 44, 45, 46, 47, 48, 49, 25, 50, 51, 52, 53, 54, 55, 56, 57, 58, 59, 60, 61, 62, 63, 64, 65, 66, 67, 24, 68, 69, 70, 71, 72, 73, 74, 75, 76, 77, 78, 79, 80, 81, 82, 83, 84, 85, 86, 87, 88, 89, 90, 91, 92, 101, 102, 103, 104, 105, 106, 107, 108] (by decide +kernel) (by decide +kernel)
set_option maxRecDepth 20000 in
theorem gX1_moreByStranger_X3_passYears : GoodIn wsX1_moreByStranger (wsV RX1 64 RX3 yX3_passYears wsX3_passYears) := goodIn_app (goodIn_of _ (by decide +kernel)) ggX1_moreByStranger_X3_passYears
set_option maxRecDepth 20000 in
theorem ggX1_moreByStranger_X3_join : GoodIn wsX1_moreByStranger wsX3_join := goodIn_r _ [96, 24, 9, 25, 26, 27, 97, 5, 6, 7, 8, 101, 102, 103, 104, 105, 106, 107, 108] (by decide +kernel) (by decide +kernel)
set_option maxRecDepth 20000 in
theorem gX1_moreByStranger_X3_join : GoodIn wsX1_moreByStranger (wsV RX1 88 RX3 yX3_join wsX3_join) := goodIn_app (goodIn_of _ (by decide +kernel)) ggX1_moreByStranger_X3_join
set_option maxRecDepth 20000 in
theorem ggX1_moreByStranger_X3_isBeliever : GoodIn wsX1_moreByStranger wsX3_isBeliever := goodIn_r _ [59, 27, 101, 102, 103, 104, 105, 106, 107, 108] (by decide +kernel) (by decide +kernel)
set_option maxRecDepth 20000 in
theorem gX1_moreByStranger_X3_isBeliever : GoodIn wsX1_moreByStranger (wsV RX1 92 RX3 yX3_isBeliever wsX3_isBeliever) := goodIn_app (goodIn_of _ (by decide +kernel)) ggX1_moreByStranger_X3_isBeliever
theorem dX1_moreByStranger_0 : decode cX1_moreByStranger 0 = .ok (.aload_n 0, 1) := by decide +kernel
theorem dX1_moreByStranger_1 : decode cX1_moreByStranger 1 = .ok (.getfield 9, 3) := by decide +kernel
theorem dX1_moreByStranger_4 : decode cX1_moreByStranger 4 = .ok (.invokevirtual 85, 3) := by decide +kernel
theorem dX1_moreByStranger_7 : decode cX1_moreByStranger 7 = .ok (.ifCond .eq 6, 3) := by decide +kernel
theorem dX1_moreByStranger_10 : decode cX1_moreByStranger 10 = .ok (.bipush (-9), 2) := by decide +kernel
theorem dX1_moreByStranger_12 : decode cX1_moreByStranger 12 = .ok (.ireturn, 1) := by decide +kernel
theorem dX1_moreByStranger_13 : decode cX1_moreByStranger 13 = .ok (.aload_n 0, 1) := by decide +kernel
theorem dX1_moreByStranger_14 : decode cX1_moreByStranger 14 = .ok (.invokevirtual 32, 3) := by decide +kernel
theorem dX1_moreByStranger_17 : decode cX1_moreByStranger 17 = .ok (.iload_n 1, 1) := by decide +kernel
theorem dX1_moreByStranger_18 : decode cX1_moreByStranger 18 = .ok (.invokevirtual 64, 3) := by decide +kernel
theorem dX1_moreByStranger_21 : decode cX1_moreByStranger 21 = .ok (.istore_n 2, 1) := by decide +kernel
theorem dX1_moreByStranger_22 : decode cX1_moreByStranger 22 = .ok (.aload_n 0, 1) := by decide +kernel
theorem dX1_moreByStranger_23 : decode cX1_moreByStranger 23 = .ok (.invokevirtual 32, 3) := by decide +kernel
theorem dX1_moreByStranger_26 : decode cX1_moreByStranger 26 = .ok (.iconst 0, 1) := by decide +kernel
theorem dX1_moreByStranger_27 : decode cX1_moreByStranger 27 = .ok (.iconst 0, 1) := by decide +kernel
theorem dX1_moreByStranger_28 : decode cX1_moreByStranger 28 = .ok (.bipush 24, 2) := by decide +kernel
theorem dX1_moreByStranger_30 : decode cX1_moreByStranger 30 = .ok (.bipush 9, 2) := by decide +kernel
theorem dX1_moreByStranger_32 : decode cX1_moreByStranger 32 = .ok (.invokevirtual 88, 3) := by decide +kernel
theorem dX1_moreByStranger_35 : decode cX1_moreByStranger 35 = .ok (.aload_n 0, 1) := by decide +kernel
theorem dX1_moreByStranger_36 : decode cX1_moreByStranger 36 = .ok (.getfield 15, 3) := by decide +kernel
theorem dX1_moreByStranger_39 : decode cX1_moreByStranger 39 = .ok (.iload_n 1, 1) := by decide +kernel
theorem dX1_moreByStranger_40 : decode cX1_moreByStranger 40 = .ok (.invokevirtual 64, 3) := by decide +kernel
theorem dX1_moreByStranger_43 : decode cX1_moreByStranger 43 = .ok (.istore_n 3, 1) := by decide +kernel
theorem dX1_moreByStranger_44 : decode cX1_moreByStranger 44 = .ok (.aload_n 0, 1) := by decide +kernel
theorem dX1_moreByStranger_45 : decode cX1_moreByStranger 45 = .ok (.getfield 15, 3) := by decide +kernel
theorem dX1_moreByStranger_48 : decode cX1_moreByStranger 48 = .ok (.aload_n 0, 1) := by decide +kernel
theorem dX1_moreByStranger_49 : decode cX1_moreByStranger 49 = .ok (.getfield 9, 3) := by decide +kernel
theorem dX1_moreByStranger_52 : decode cX1_moreByStranger 52 = .ok (.getfield 28, 3) := by decide +kernel
theorem dX1_moreByStranger_55 : decode cX1_moreByStranger 55 = .ok (.invokevirtual 92, 3) := by decide +kernel
theorem dX1_moreByStranger_58 : decode cX1_moreByStranger 58 = .ok (.ifCond .eq 7, 3) := by decide +kernel
theorem dX1_moreByStranger_61 : decode cX1_moreByStranger 61 = .ok (.iconst 1, 1) := by decide +kernel
theorem dX1_moreByStranger_62 : decode cX1_moreByStranger 62 = .ok (.goto 4, 3) := by decide +kernel
theorem dX1_moreByStranger_65 : decode cX1_moreByStranger 65 = .ok (.iconst 0, 1) := by decide +kernel
theorem dX1_moreByStranger_66 : decode cX1_moreByStranger 66 = .ok (.istore 4, 2) := by decide +kernel
theorem dX1_moreByStranger_68 : decode cX1_moreByStranger 68 = .ok (.iload_n 3, 1) := by decide +kernel
theorem dX1_moreByStranger_69 : decode cX1_moreByStranger 69 = .ok (.iload 4, 2) := by decide +kernel
theorem dX1_moreByStranger_71 : decode cX1_moreByStranger 71 = .ok (.isub, 1) := by decide +kernel
theorem dX1_moreByStranger_72 : decode cX1_moreByStranger 72 = .ok (.iload_n 2, 1) := by decide +kernel
theorem dX1_moreByStranger_73 : decode cX1_moreByStranger 73 = .ok (.isub, 1) := by decide +kernel
theorem dX1_moreByStranger_74 : decode cX1_moreByStranger 74 = .ok (.ireturn, 1) := by decide +kernel
set_option maxRecDepth 20000 in
theorem ggX1_thingsPassed_X1_think : GoodIn wsX1_thingsPassed wsX1_think := goodIn_r _ [6, 1, 7, 8, 9, 10, 11, 12, 13, 14, 15, 16, 17, 18, 19, 20, 21, 22, 23, 77, 78, 79, 80, 81, 82, 83, 84, 85, 86] (by decide +kernel) (by decide +kernel)
set_option maxRecDepth 20000 in
theorem gX1_thingsPassed_X1_think : GoodIn wsX1_thingsPassed (wsV RX1 32 RX1 yX1_think wsX1_think) := goodIn_app (goodIn_of _ (by decide +kernel)) ggX1_thingsPassed_X1_think
set_option maxRecDepth 20000 in
theorem ggX1_thingsPassed_X1_figuresOfBelievers : GoodIn wsX1_thingsPassed wsX1_figuresOfBelievers := goodIn_r _ [27, 1, 28, 29, 30, 31, 32, 11, 33, 21, 77, 78, 79, 80, 81, 82, 83, 84, 85, 86] (by decide +kernel) (by decide +kernel)
set_option maxRecDepth 20000 in
theorem gX1_thingsPassed_X1_figuresOfBelievers : GoodIn wsX1_thingsPassed (wsV RX1 96 RX1 yX1_figuresOfBelievers wsX1_figuresOfBelievers) := goodIn_app (goodIn_of _ (by decide +kernel)) ggX1_thingsPassed_X1_figuresOfBelievers
set_option maxRecDepth 20000 in
theorem ggX1_thingsPassed_X3_passYear : GoodIn wsX1_thingsPassed wsX3_passYear := goodIn_r _ [37, 22, 38, 23, 21, 20, 39, 40, 41, 11, 42, 13, 43, 44, 45, 46, 47, 48, 49, 50, 19, 51, 52, 53, 54, 55, 56, 57, 31, 32, 33, 58, 59, 60, 61, 62, 63, 64, 65, 18, 66, 67, 68, 69, 70, 71, 72, 73, 74, 75, 76, 79, 80, 81, 82, 83, 84, 85, 86] (by decide +kernel) (by decide +kernel)
set_option maxRecDepth 20000 in
theorem gX1_thingsPassed_X3_passYear : GoodIn wsX1_thingsPassed (wsV RX1 40 RX3 yX3_passYear wsX3_passYear) := goodIn_app (goodIn_of _ (by decide +kernel)) ggX1_thingsPassed_X3_passYear
theorem dX1_thingsPassed_0 : decode cX1_thingsPassed 0 = .ok (.aload_n 0, 1) := by decide +kernel
theorem dX1_thingsPassed_1 : decode cX1_thingsPassed 1 = .ok (.invokevirtual 32, 3) := by decide +kernel
theorem dX1_thingsPassed_4 : decode cX1_thingsPassed 4 = .ok (.pop, 1) := by decide +kernel
theorem dX1_thingsPassed_5 : decode cX1_thingsPassed 5 = .ok (.iconst 0, 1) := by decide +kernel
theorem dX1_thingsPassed_6 : decode cX1_thingsPassed 6 = .ok (.istore_n 2, 1) := by decide +kernel
theorem dX1_thingsPassed_7 : decode cX1_thingsPassed 7 = .ok (.iconst 0, 1) := by decide +kernel
theorem dX1_thingsPassed_8 : decode cX1_thingsPassed 8 = .ok (.istore_n 3, 1) := by decide +kernel
theorem dX1_thingsPassed_9 : decode cX1_thingsPassed 9 = .ok (.iload_n 3, 1) := by decide +kernel
theorem dX1_thingsPassed_10 : decode cX1_thingsPassed 10 = .ok (.iload_n 1, 1) := by decide +kernel
theorem dX1_thingsPassed_11 : decode cX1_thingsPassed 11 = .ok (.if_icmp .ge 25, 3) := by decide +kernel
theorem dX1_thingsPassed_14 : decode cX1_thingsPassed 14 = .ok (.iload_n 2, 1) := by decide +kernel
theorem dX1_thingsPassed_15 : decode cX1_thingsPassed 15 = .ok (.aload_n 0, 1) := by decide +kernel
theorem dX1_thingsPassed_16 : decode cX1_thingsPassed 16 = .ok (.invokevirtual 96, 3) := by decide +kernel
theorem dX1_thingsPassed_19 : decode cX1_thingsPassed 19 = .ok (.iadd, 1) := by decide +kernel
theorem dX1_thingsPassed_20 : decode cX1_thingsPassed 20 = .ok (.istore_n 2, 1) := by decide +kernel
theorem dX1_thingsPassed_21 : decode cX1_thingsPassed 21 = .ok (.aload_n 0, 1) := by decide +kernel
theorem dX1_thingsPassed_22 : decode cX1_thingsPassed 22 = .ok (.getfield 15, 3) := by decide +kernel
theorem dX1_thingsPassed_25 : decode cX1_thingsPassed 25 = .ok (.iconst 0, 1) := by decide +kernel
theorem dX1_thingsPassed_26 : decode cX1_thingsPassed 26 = .ok (.invokevirtual 40, 3) := by decide +kernel
theorem dX1_thingsPassed_29 : decode cX1_thingsPassed 29 = .ok (.pop, 1) := by decide +kernel
theorem dX1_thingsPassed_30 : decode cX1_thingsPassed 30 = .ok (.iinc 3 1, 3) := by decide +kernel
theorem dX1_thingsPassed_33 : decode cX1_thingsPassed 33 = .ok (.goto (-24), 3) := by decide +kernel
theorem dX1_thingsPassed_36 : decode cX1_thingsPassed 36 = .ok (.iload_n 2, 1) := by decide +kernel
theorem dX1_thingsPassed_37 : decode cX1_thingsPassed 37 = .ok (.ireturn, 1) := by decide +kernel
set_option maxRecDepth 20000 in
theorem ggX1_figuresOfBelievers_X3_isBeliever : GoodIn wsX1_figuresOfBelievers wsX3_isBeliever := goodIn_r _ [8, 9, 12, 13, 14, 15, 16, 17, 18, 19] (by decide +kernel) (by decide +kernel)
set_option maxRecDepth 20000 in
theorem gX1_figuresOfBelievers_X3_isBeliever : GoodIn wsX1_figuresOfBelievers (wsV RX1 92 RX3 yX3_isBeliever wsX3_isBeliever) := goodIn_app (goodIn_of _ (by decide +kernel)) ggX1_figuresOfBelievers_X3_isBeliever
theorem dX1_figuresOfBelievers_0 : decode cX1_figuresOfBelievers 0 = .ok (.iconst 0, 1) := by decide +kernel
theorem dX1_figuresOfBelievers_1 : decode cX1_figuresOfBelievers 1 = .ok (.istore_n 1, 1) := by decide +kernel
theorem dX1_figuresOfBelievers_2 : decode cX1_figuresOfBelievers 2 = .ok (.iconst 0, 1) := by decide +kernel
theorem dX1_figuresOfBelievers_3 : decode cX1_figuresOfBelievers 3 = .ok (.istore_n 2, 1) := by decide +kernel
theorem dX1_figuresOfBelievers_4 : decode cX1_figuresOfBelievers 4 = .ok (.iload_n 2, 1) := by decide +kernel
theorem dX1_figuresOfBelievers_5 : decode cX1_figuresOfBelievers 5 = .ok (.aload_n 0, 1) := by decide +kernel
theorem dX1_figuresOfBelievers_6 : decode cX1_figuresOfBelievers 6 = .ok (.getfield 15, 3) := by decide +kernel
theorem dX1_figuresOfBelievers_9 : decode cX1_figuresOfBelievers 9 = .ok (.getfield 28, 3) := by decide +kernel
theorem dX1_figuresOfBelievers_12 : decode cX1_figuresOfBelievers 12 = .ok (.if_icmp .ge 32, 3) := by decide +kernel
theorem dX1_figuresOfBelievers_15 : decode cX1_figuresOfBelievers 15 = .ok (.aload_n 0, 1) := by decide +kernel
theorem dX1_figuresOfBelievers_16 : decode cX1_figuresOfBelievers 16 = .ok (.getfield 15, 3) := by decide +kernel
theorem dX1_figuresOfBelievers_19 : decode cX1_figuresOfBelievers 19 = .ok (.iload_n 2, 1) := by decide +kernel
theorem dX1_figuresOfBelievers_20 : decode cX1_figuresOfBelievers 20 = .ok (.invokevirtual 92, 3) := by decide +kernel
theorem dX1_figuresOfBelievers_23 : decode cX1_figuresOfBelievers 23 = .ok (.ifCond .eq 15, 3) := by decide +kernel
theorem dX1_figuresOfBelievers_26 : decode cX1_figuresOfBelievers 26 = .ok (.iload_n 1, 1) := by decide +kernel
theorem dX1_figuresOfBelievers_27 : decode cX1_figuresOfBelievers 27 = .ok (.aload_n 0, 1) := by decide +kernel
theorem dX1_figuresOfBelievers_28 : decode cX1_figuresOfBelievers 28 = .ok (.getfield 15, 3) := by decide +kernel
theorem dX1_figuresOfBelievers_31 : decode cX1_figuresOfBelievers 31 = .ok (.getfield 99, 3) := by decide +kernel
theorem dX1_figuresOfBelievers_34 : decode cX1_figuresOfBelievers 34 = .ok (.iload_n 2, 1) := by decide +kernel
theorem dX1_figuresOfBelievers_35 : decode cX1_figuresOfBelievers 35 = .ok (.iaload, 1) := by decide +kernel
theorem dX1_figuresOfBelievers_36 : decode cX1_figuresOfBelievers 36 = .ok (.iadd, 1) := by decide +kernel
theorem dX1_figuresOfBelievers_37 : decode cX1_figuresOfBelievers 37 = .ok (.istore_n 1, 1) := by decide +kernel
theorem dX1_figuresOfBelievers_38 : decode cX1_figuresOfBelievers 38 = .ok (.iinc 2 1, 3) := by decide +kernel
theorem dX1_figuresOfBelievers_41 : decode cX1_figuresOfBelievers 41 = .ok (.goto (-37), 3) := by decide +kernel
theorem dX1_figuresOfBelievers_44 : decode cX1_figuresOfBelievers 44 = .ok (.iload_n 1, 1) := by decide +kernel
theorem dX1_figuresOfBelievers_45 : decode cX1_figuresOfBelievers 45 = .ok (.ireturn, 1) := by decide +kernel
set_option maxRecDepth 20000 in
theorem ggX1_windsToAll_X1_allBelieveIn : GoodIn wsX1_windsToAll wsX1_allBelieveIn := goodIn_r _ [5, 6, 7, 8, 9, 4, 10, 11, 12, 13, 14, 15, 16, 17, 18, 19, 20, 21, 22, 23, 24, 25, 26, 27, 28, 29, 30, 31, 32, 33, 34, 35, 36, 37, 38, 39, 40, 41, 42, 43, 44, 45, 46, 47, 48, 49, 50, 51, 52, 53, 54, 55, 56, 57, 58, 59, 60, 61, 62, 63, 64, 65, 66, 67, 68, 69, 70, 71, 72, 73, 74, 75, 76, 77, 78, 79, 80, 81, 82, 83, 84, 85, 86, 87, 88, 89, 90, 91, 92, 93, 94, 99, 100, 101, 102, 103, 104, 105, 106, 107, 108] (by decide +kernel) (by decide +kernel)
set_option maxRecDepth 20000 in
theorem gX1_windsToAll_X1_allBelieveIn : GoodIn wsX1_windsToAll (wsV RX1 102 RX1 yX1_allBelieveIn wsX1_allBelieveIn) := goodIn_app (goodIn_of _ (by decide +kernel)) ggX1_windsToAll_X1_allBelieveIn
set_option maxRecDepth 20000 in
theorem ggX1_windsToAll_J6_bitCount_0f7a4 : GoodIn wsX1_windsToAll wsJ6_bitCount_0f7a4 := goodIn_r _ [91, 92, 93, 94] (by decide +kernel) (by decide +kernel)
set_option maxRecDepth 20000 in
theorem gX1_windsToAll_J6_bitCount_0f7a4 : GoodIn wsX1_windsToAll (va_wsS RX1 47 yJ6_bitCount_0f7a4 wsJ6_bitCount_0f7a4) := goodIn_app (goodIn_of _ (by decide +kernel)) ggX1_windsToAll_J6_bitCount_0f7a4
set_option maxRecDepth 20000 in
theorem ggX1_windsToAll_X1_power : GoodIn wsX1_windsToAll wsX1_power := goodIn_r _ [98] (by decide +kernel) (by decide +kernel)
set_option maxRecDepth 20000 in
theorem gX1_windsToAll_X1_power : GoodIn wsX1_windsToAll (va_wsS RX1 105 yX1_power wsX1_power) := goodIn_app (goodIn_of _ (by decide +kernel)) ggX1_windsToAll_X1_power
theorem dX1_windsToAll_0 : decode cX1_windsToAll 0 = .ok (.lconst 0, 1) := by decide +kernel
theorem dX1_windsToAll_1 : decode cX1_windsToAll 1 = .ok (.lstore_n 3, 1) := by decide +kernel
theorem dX1_windsToAll_2 : decode cX1_windsToAll 2 = .ok (.iconst 0, 1) := by decide +kernel
theorem dX1_windsToAll_3 : decode cX1_windsToAll 3 = .ok (.istore 5, 2) := by decide +kernel
theorem dX1_windsToAll_5 : decode cX1_windsToAll 5 = .ok (.iload 5, 2) := by decide +kernel
theorem dX1_windsToAll_7 : decode cX1_windsToAll 7 = .ok (.iconst 1, 1) := by decide +kernel
theorem dX1_windsToAll_8 : decode cX1_windsToAll 8 = .ok (.iload_n 1, 1) := by decide +kernel
theorem dX1_windsToAll_9 : decode cX1_windsToAll 9 = .ok (.ishl, 1) := by decide +kernel
theorem dX1_windsToAll_10 : decode cX1_windsToAll 10 = .ok (.if_icmp .ge 35, 3) := by decide +kernel
theorem dX1_windsToAll_13 : decode cX1_windsToAll 13 = .ok (.aload_n 0, 1) := by decide +kernel
theorem dX1_windsToAll_14 : decode cX1_windsToAll 14 = .ok (.iload 5, 2) := by decide +kernel
theorem dX1_windsToAll_16 : decode cX1_windsToAll 16 = .ok (.iload_n 1, 1) := by decide +kernel
theorem dX1_windsToAll_17 : decode cX1_windsToAll 17 = .ok (.invokevirtual 102, 3) := by decide +kernel
theorem dX1_windsToAll_20 : decode cX1_windsToAll 20 = .ok (.ifCond .eq 19, 3) := by decide +kernel
theorem dX1_windsToAll_23 : decode cX1_windsToAll 23 = .ok (.lload_n 3, 1) := by decide +kernel
theorem dX1_windsToAll_24 : decode cX1_windsToAll 24 = .ok (.iload_n 2, 1) := by decide +kernel
theorem dX1_windsToAll_25 : decode cX1_windsToAll 25 = .ok (.iconst 1, 1) := by decide +kernel
theorem dX1_windsToAll_26 : decode cX1_windsToAll 26 = .ok (.isub, 1) := by decide +kernel
theorem dX1_windsToAll_27 : decode cX1_windsToAll 27 = .ok (.iload_n 1, 1) := by decide +kernel
theorem dX1_windsToAll_28 : decode cX1_windsToAll 28 = .ok (.iload 5, 2) := by decide +kernel
theorem dX1_windsToAll_30 : decode cX1_windsToAll 30 = .ok (.invokestatic 47, 3) := by decide +kernel
theorem dX1_windsToAll_33 : decode cX1_windsToAll 33 = .ok (.isub, 1) := by decide +kernel
theorem dX1_windsToAll_34 : decode cX1_windsToAll 34 = .ok (.invokestatic 105, 3) := by decide +kernel
theorem dX1_windsToAll_37 : decode cX1_windsToAll 37 = .ok (.ladd, 1) := by decide +kernel
theorem dX1_windsToAll_38 : decode cX1_windsToAll 38 = .ok (.lstore_n 3, 1) := by decide +kernel
theorem dX1_windsToAll_39 : decode cX1_windsToAll 39 = .ok (.iinc 5 1, 3) := by decide +kernel
theorem dX1_windsToAll_42 : decode cX1_windsToAll 42 = .ok (.goto (-37), 3) := by decide +kernel
theorem dX1_windsToAll_45 : decode cX1_windsToAll 45 = .ok (.lload_n 3, 1) := by decide +kernel
theorem dX1_windsToAll_46 : decode cX1_windsToAll 46 = .ok (.lreturn, 1) := by decide +kernel
set_option maxRecDepth 20000 in
theorem ggX1_allBelieveIn_X1_think : GoodIn wsX1_allBelieveIn wsX1_think := goodIn_r _ [6, 1, 7, 8, 9, 10, 11, 12, 13, 14, 15, 16, 17, 18, 19, 20, 21, 22, 23, 91, 92, 93, 94, 95, 96, 97, 98, 99, 100] (by decide +kernel) (by decide +kernel)
set_option maxRecDepth 20000 in
theorem gX1_allBelieveIn_X1_think : GoodIn wsX1_allBelieveIn (wsV RX1 32 RX1 yX1_think wsX1_think) := goodIn_app (goodIn_of _ (by decide +kernel)) ggX1_allBelieveIn_X1_think
set_option maxRecDepth 20000 in
theorem ggX1_allBelieveIn_X5_isIn : GoodIn wsX1_allBelieveIn wsX5_isIn := goodIn_r _ [26] (by decide +kernel) (by decide +kernel)
set_option maxRecDepth 20000 in
theorem gX1_allBelieveIn_X5_isIn_n57 : GoodIn wsX1_allBelieveIn (wsX5_isIn) := ggX1_allBelieveIn_X5_isIn
set_option maxRecDepth 20000 in
theorem ggX1_allBelieveIn_X3_passYear : GoodIn wsX1_allBelieveIn wsX3_passYear := goodIn_r _ [30, 22, 31, 23, 21, 20, 32, 33, 34, 11, 35, 13, 36, 37, 38, 39, 40, 41, 42, 43, 19, 44, 45, 46, 47, 25, 48, 49, 50, 51, 52, 53, 54, 55, 56, 57, 58, 59, 60, 18, 61, 62, 63, 64, 65, 66, 67, 68, 69, 70, 71, 93, 94, 95, 96, 97, 98, 99, 100] (by decide +kernel) (by decide +kernel)
set_option maxRecDepth 20000 in
theorem gX1_allBelieveIn_X3_passYear : GoodIn wsX1_allBelieveIn (wsV RX1 40 RX3 yX3_passYear wsX3_passYear) := goodIn_app (goodIn_of _ (by decide +kernel)) ggX1_allBelieveIn_X3_passYear
set_option maxRecDepth 20000 in
theorem ggX1_allBelieveIn_X1_allBelieve : GoodIn wsX1_allBelieveIn wsX1_allBelieve := goodIn_r _ [75, 1, 76, 77, 78, 79, 11, 80, 81, 82, 83, 84, 22, 49, 50, 51, 52, 21, 85, 86, 55, 87, 88, 89, 90, 91, 92, 93, 94, 95, 96, 97, 98, 99, 100] (by decide +kernel) (by decide +kernel)
set_option maxRecDepth 20000 in
theorem gX1_allBelieveIn_X1_allBelieve : GoodIn wsX1_allBelieveIn (wsV RX1 36 RX1 yX1_allBelieve wsX1_allBelieve) := goodIn_app (goodIn_of _ (by decide +kernel)) ggX1_allBelieveIn_X1_allBelieve
theorem dX1_allBelieveIn_0 : decode cX1_allBelieveIn 0 = .ok (.aload_n 0, 1) := by decide +kernel
theorem dX1_allBelieveIn_1 : decode cX1_allBelieveIn 1 = .ok (.invokevirtual 32, 3) := by decide +kernel
theorem dX1_allBelieveIn_4 : decode cX1_allBelieveIn 4 = .ok (.pop, 1) := by decide +kernel
theorem dX1_allBelieveIn_5 : decode cX1_allBelieveIn 5 = .ok (.iconst 0, 1) := by decide +kernel
theorem dX1_allBelieveIn_6 : decode cX1_allBelieveIn 6 = .ok (.istore_n 3, 1) := by decide +kernel
theorem dX1_allBelieveIn_7 : decode cX1_allBelieveIn 7 = .ok (.iload_n 3, 1) := by decide +kernel
theorem dX1_allBelieveIn_8 : decode cX1_allBelieveIn 8 = .ok (.iload_n 2, 1) := by decide +kernel
theorem dX1_allBelieveIn_9 : decode cX1_allBelieveIn 9 = .ok (.if_icmp .ge 22, 3) := by decide +kernel
theorem dX1_allBelieveIn_12 : decode cX1_allBelieveIn 12 = .ok (.aload_n 0, 1) := by decide +kernel
theorem dX1_allBelieveIn_13 : decode cX1_allBelieveIn 13 = .ok (.getfield 15, 3) := by decide +kernel
theorem dX1_allBelieveIn_16 : decode cX1_allBelieveIn 16 = .ok (.iload_n 1, 1) := by decide +kernel
theorem dX1_allBelieveIn_17 : decode cX1_allBelieveIn 17 = .ok (.iload_n 3, 1) := by decide +kernel
theorem dX1_allBelieveIn_18 : decode cX1_allBelieveIn 18 = .ok (.invokestatic 57, 3) := by decide +kernel
theorem dX1_allBelieveIn_21 : decode cX1_allBelieveIn 21 = .ok (.invokevirtual 40, 3) := by decide +kernel
theorem dX1_allBelieveIn_24 : decode cX1_allBelieveIn 24 = .ok (.pop, 1) := by decide +kernel
theorem dX1_allBelieveIn_25 : decode cX1_allBelieveIn 25 = .ok (.iinc 3 1, 3) := by decide +kernel
theorem dX1_allBelieveIn_28 : decode cX1_allBelieveIn 28 = .ok (.goto (-21), 3) := by decide +kernel
theorem dX1_allBelieveIn_31 : decode cX1_allBelieveIn 31 = .ok (.aload_n 0, 1) := by decide +kernel
theorem dX1_allBelieveIn_32 : decode cX1_allBelieveIn 32 = .ok (.invokevirtual 36, 3) := by decide +kernel
theorem dX1_allBelieveIn_35 : decode cX1_allBelieveIn 35 = .ok (.ireturn, 1) := by decide +kernel
theorem dX1_power_0 : decode cX1_power 0 = .ok (.lconst 1, 1) := by decide +kernel
theorem dX1_power_1 : decode cX1_power 1 = .ok (.lstore_n 2, 1) := by decide +kernel
theorem dX1_power_2 : decode cX1_power 2 = .ok (.iconst 0, 1) := by decide +kernel
theorem dX1_power_3 : decode cX1_power 3 = .ok (.istore 4, 2) := by decide +kernel
theorem dX1_power_5 : decode cX1_power 5 = .ok (.iload 4, 2) := by decide +kernel
theorem dX1_power_7 : decode cX1_power 7 = .ok (.iload_n 1, 1) := by decide +kernel
theorem dX1_power_8 : decode cX1_power 8 = .ok (.if_icmp .ge 14, 3) := by decide +kernel
theorem dX1_power_11 : decode cX1_power 11 = .ok (.lload_n 2, 1) := by decide +kernel
theorem dX1_power_12 : decode cX1_power 12 = .ok (.iload_n 0, 1) := by decide +kernel
theorem dX1_power_13 : decode cX1_power 13 = .ok (.i2l, 1) := by decide +kernel
theorem dX1_power_14 : decode cX1_power 14 = .ok (.lmul, 1) := by decide +kernel
theorem dX1_power_15 : decode cX1_power 15 = .ok (.lstore_n 2, 1) := by decide +kernel
theorem dX1_power_16 : decode cX1_power 16 = .ok (.iinc 4 1, 3) := by decide +kernel
theorem dX1_power_19 : decode cX1_power 19 = .ok (.goto (-14), 3) := by decide +kernel
theorem dX1_power_22 : decode cX1_power 22 = .ok (.lload_n 2, 1) := by decide +kernel
theorem dX1_power_23 : decode cX1_power 23 = .ok (.lreturn, 1) := by decide +kernel
set_option maxRecDepth 20000 in
theorem ggX1_firstStillPair_X1_believersByPair : GoodIn wsX1_firstStillPair wsX1_believersByPair := goodIn_r _ [5, 6, 7, 8, 9, 10, 4, 11, 12, 13, 14, 15, 16, 17, 18, 19, 20, 21, 22, 23, 24, 25, 26, 27, 28, 29, 30, 31, 32, 33, 34, 35, 36, 37, 38, 39, 40, 41, 42, 43, 44, 45, 46, 47, 48, 49, 50, 51, 52, 53, 54, 55, 56, 57, 58, 59, 60, 61, 62, 63, 64, 65, 66, 67, 68, 69, 70, 71, 72, 73, 74, 75, 76, 77, 78, 79, 80, 81, 82, 83, 84, 85, 86, 87, 88, 89, 90, 91, 92, 93, 94, 95, 96, 97, 98, 99, 100, 101, 102] (by decide +kernel) (by decide +kernel)
set_option maxRecDepth 20000 in
theorem gX1_firstStillPair_X1_believersByPair : GoodIn wsX1_firstStillPair (wsV RX1 109 RX1 yX1_believersByPair wsX1_believersByPair) := goodIn_app (goodIn_of _ (by decide +kernel)) ggX1_firstStillPair_X1_believersByPair
theorem dX1_firstStillPair_0 : decode cX1_firstStillPair 0 = .ok (.iconst 0, 1) := by decide +kernel
theorem dX1_firstStillPair_1 : decode cX1_firstStillPair 1 = .ok (.istore 4, 2) := by decide +kernel
theorem dX1_firstStillPair_3 : decode cX1_firstStillPair 3 = .ok (.iload 4, 2) := by decide +kernel
theorem dX1_firstStillPair_5 : decode cX1_firstStillPair 5 = .ok (.iconst 1, 1) := by decide +kernel
theorem dX1_firstStillPair_6 : decode cX1_firstStillPair 6 = .ok (.if_icmp .gt 106, 3) := by decide +kernel
theorem dX1_firstStillPair_9 : decode cX1_firstStillPair 9 = .ok (.iconst 0, 1) := by decide +kernel
theorem dX1_firstStillPair_10 : decode cX1_firstStillPair 10 = .ok (.istore 5, 2) := by decide +kernel
theorem dX1_firstStillPair_12 : decode cX1_firstStillPair 12 = .ok (.iload 5, 2) := by decide +kernel
theorem dX1_firstStillPair_14 : decode cX1_firstStillPair 14 = .ok (.iconst 1, 1) := by decide +kernel
theorem dX1_firstStillPair_15 : decode cX1_firstStillPair 15 = .ok (.if_icmp .gt 91, 3) := by decide +kernel
theorem dX1_firstStillPair_18 : decode cX1_firstStillPair 18 = .ok (.aload_n 0, 1) := by decide +kernel
theorem dX1_firstStillPair_19 : decode cX1_firstStillPair 19 = .ok (.iload_n 1, 1) := by decide +kernel
theorem dX1_firstStillPair_20 : decode cX1_firstStillPair 20 = .ok (.iload 4, 2) := by decide +kernel
theorem dX1_firstStillPair_22 : decode cX1_firstStillPair 22 = .ok (.iload_n 2, 1) := by decide +kernel
theorem dX1_firstStillPair_23 : decode cX1_firstStillPair 23 = .ok (.iload 5, 2) := by decide +kernel
theorem dX1_firstStillPair_25 : decode cX1_firstStillPair 25 = .ok (.iload_n 3, 1) := by decide +kernel
theorem dX1_firstStillPair_26 : decode cX1_firstStillPair 26 = .ok (.invokevirtual 109, 3) := by decide +kernel
theorem dX1_firstStillPair_29 : decode cX1_firstStillPair 29 = .ok (.istore 6, 2) := by decide +kernel
theorem dX1_firstStillPair_31 : decode cX1_firstStillPair 31 = .ok (.iload 6, 2) := by decide +kernel
theorem dX1_firstStillPair_33 : decode cX1_firstStillPair 33 = .ok (.aload_n 0, 1) := by decide +kernel
theorem dX1_firstStillPair_34 : decode cX1_firstStillPair 34 = .ok (.iload_n 1, 1) := by decide +kernel
theorem dX1_firstStillPair_35 : decode cX1_firstStillPair 35 = .ok (.iconst 1, 1) := by decide +kernel
theorem dX1_firstStillPair_36 : decode cX1_firstStillPair 36 = .ok (.iload 4, 2) := by decide +kernel
theorem dX1_firstStillPair_38 : decode cX1_firstStillPair 38 = .ok (.isub, 1) := by decide +kernel
theorem dX1_firstStillPair_39 : decode cX1_firstStillPair 39 = .ok (.iload_n 2, 1) := by decide +kernel
theorem dX1_firstStillPair_40 : decode cX1_firstStillPair 40 = .ok (.iload 5, 2) := by decide +kernel
theorem dX1_firstStillPair_42 : decode cX1_firstStillPair 42 = .ok (.iload_n 3, 1) := by decide +kernel
theorem dX1_firstStillPair_43 : decode cX1_firstStillPair 43 = .ok (.invokevirtual 109, 3) := by decide +kernel
theorem dX1_firstStillPair_46 : decode cX1_firstStillPair 46 = .ok (.if_icmp .lt 7, 3) := by decide +kernel
theorem dX1_firstStillPair_49 : decode cX1_firstStillPair 49 = .ok (.iconst 1, 1) := by decide +kernel
theorem dX1_firstStillPair_50 : decode cX1_firstStillPair 50 = .ok (.goto 4, 3) := by decide +kernel
theorem dX1_firstStillPair_53 : decode cX1_firstStillPair 53 = .ok (.iconst 0, 1) := by decide +kernel
theorem dX1_firstStillPair_54 : decode cX1_firstStillPair 54 = .ok (.istore 7, 2) := by decide +kernel
theorem dX1_firstStillPair_56 : decode cX1_firstStillPair 56 = .ok (.iload 6, 2) := by decide +kernel
theorem dX1_firstStillPair_58 : decode cX1_firstStillPair 58 = .ok (.aload_n 0, 1) := by decide +kernel
theorem dX1_firstStillPair_59 : decode cX1_firstStillPair 59 = .ok (.iload_n 1, 1) := by decide +kernel
theorem dX1_firstStillPair_60 : decode cX1_firstStillPair 60 = .ok (.iload 4, 2) := by decide +kernel
theorem dX1_firstStillPair_62 : decode cX1_firstStillPair 62 = .ok (.iload_n 2, 1) := by decide +kernel
theorem dX1_firstStillPair_63 : decode cX1_firstStillPair 63 = .ok (.iconst 1, 1) := by decide +kernel
theorem dX1_firstStillPair_64 : decode cX1_firstStillPair 64 = .ok (.iload 5, 2) := by decide +kernel
theorem dX1_firstStillPair_66 : decode cX1_firstStillPair 66 = .ok (.isub, 1) := by decide +kernel
theorem dX1_firstStillPair_67 : decode cX1_firstStillPair 67 = .ok (.iload_n 3, 1) := by decide +kernel
theorem dX1_firstStillPair_68 : decode cX1_firstStillPair 68 = .ok (.invokevirtual 109, 3) := by decide +kernel
theorem dX1_firstStillPair_71 : decode cX1_firstStillPair 71 = .ok (.if_icmp .gt 7, 3) := by decide +kernel
theorem dX1_firstStillPair_74 : decode cX1_firstStillPair 74 = .ok (.iconst 1, 1) := by decide +kernel
theorem dX1_firstStillPair_75 : decode cX1_firstStillPair 75 = .ok (.goto 4, 3) := by decide +kernel
theorem dX1_firstStillPair_78 : decode cX1_firstStillPair 78 = .ok (.iconst 0, 1) := by decide +kernel
theorem dX1_firstStillPair_79 : decode cX1_firstStillPair 79 = .ok (.istore 8, 2) := by decide +kernel
theorem dX1_firstStillPair_81 : decode cX1_firstStillPair 81 = .ok (.iload 7, 2) := by decide +kernel
theorem dX1_firstStillPair_83 : decode cX1_firstStillPair 83 = .ok (.ifCond .eq 17, 3) := by decide +kernel
theorem dX1_firstStillPair_86 : decode cX1_firstStillPair 86 = .ok (.iload 8, 2) := by decide +kernel
theorem dX1_firstStillPair_88 : decode cX1_firstStillPair 88 = .ok (.ifCond .eq 12, 3) := by decide +kernel
theorem dX1_firstStillPair_91 : decode cX1_firstStillPair 91 = .ok (.bipush 10, 2) := by decide +kernel
theorem dX1_firstStillPair_93 : decode cX1_firstStillPair 93 = .ok (.iload 4, 2) := by decide +kernel
theorem dX1_firstStillPair_95 : decode cX1_firstStillPair 95 = .ok (.imul, 1) := by decide +kernel
theorem dX1_firstStillPair_96 : decode cX1_firstStillPair 96 = .ok (.iload 5, 2) := by decide +kernel
theorem dX1_firstStillPair_98 : decode cX1_firstStillPair 98 = .ok (.iadd, 1) := by decide +kernel
theorem dX1_firstStillPair_99 : decode cX1_firstStillPair 99 = .ok (.ireturn, 1) := by decide +kernel
theorem dX1_firstStillPair_100 : decode cX1_firstStillPair 100 = .ok (.iinc 5 1, 3) := by decide +kernel
theorem dX1_firstStillPair_103 : decode cX1_firstStillPair 103 = .ok (.goto (-91), 3) := by decide +kernel
theorem dX1_firstStillPair_106 : decode cX1_firstStillPair 106 = .ok (.iinc 4 1, 3) := by decide +kernel
theorem dX1_firstStillPair_109 : decode cX1_firstStillPair 109 = .ok (.goto (-106), 3) := by decide +kernel
theorem dX1_firstStillPair_112 : decode cX1_firstStillPair 112 = .ok (.bipush (-9), 2) := by decide +kernel
theorem dX1_firstStillPair_114 : decode cX1_firstStillPair 114 = .ok (.ireturn, 1) := by decide +kernel
set_option maxRecDepth 20000 in
theorem ggX1_believersByPair_X1_think : GoodIn wsX1_believersByPair wsX1_think := goodIn_r _ [7, 1, 8, 9, 10, 11, 12, 13, 14, 15, 16, 17, 18, 19, 20, 21, 22, 23, 24, 89, 90, 91, 92, 93, 94, 95, 96, 97, 98] (by decide +kernel) (by decide +kernel)
set_option maxRecDepth 20000 in
theorem gX1_believersByPair_X1_think : GoodIn wsX1_believersByPair (wsV RX1 32 RX1 yX1_think wsX1_think) := goodIn_app (goodIn_of _ (by decide +kernel)) ggX1_believersByPair_X1_think
set_option maxRecDepth 20000 in
theorem ggX1_believersByPair_X3_passYears : GoodIn wsX1_believersByPair wsX3_passYears := goodIn_r _ [28, 29, 30, 31, 12, 32, 23, 33, 24, 22, 21, 34, 35, 36, 37, 14, 38, 39, 40, 41, 42, 43, 44, 45, 20, 46, 47, 48, 49, 50, 51, 52, 53, 54, 55, 56, 57, 58, 59, 60, 61, 62, 63, 19, 64, 65, 66, 67, 68, 69, 70, 71, 72, 73, 74, 75, 76, 77, 78, 79, 80, 81, 82, 83, 84, 85, 86, 87, 88, 91, 92, 93, 94, 95, 96, 97, 98] (by decide +kernel) (by decide +kernel)
set_option maxRecDepth 20000 in
theorem gX1_believersByPair_X3_passYears : GoodIn wsX1_believersByPair (wsV RX1 64 RX3 yX3_passYears wsX3_passYears) := goodIn_app (goodIn_of _ (by decide +kernel)) ggX1_believersByPair_X3_passYears
theorem dX1_believersByPair_0 : decode cX1_believersByPair 0 = .ok (.aload_n 0, 1) := by decide +kernel
theorem dX1_believersByPair_1 : decode cX1_believersByPair 1 = .ok (.invokevirtual 32, 3) := by decide +kernel
theorem dX1_believersByPair_4 : decode cX1_believersByPair 4 = .ok (.pop, 1) := by decide +kernel
theorem dX1_believersByPair_5 : decode cX1_believersByPair 5 = .ok (.aload_n 0, 1) := by decide +kernel
theorem dX1_believersByPair_6 : decode cX1_believersByPair 6 = .ok (.getfield 15, 3) := by decide +kernel
theorem dX1_believersByPair_9 : decode cX1_believersByPair 9 = .ok (.getfield 60, 3) := by decide +kernel
theorem dX1_believersByPair_12 : decode cX1_believersByPair 12 = .ok (.iload_n 1, 1) := by decide +kernel
theorem dX1_believersByPair_13 : decode cX1_believersByPair 13 = .ok (.bipush 9, 2) := by decide +kernel
theorem dX1_believersByPair_15 : decode cX1_believersByPair 15 = .ok (.iload_n 2, 1) := by decide +kernel
theorem dX1_believersByPair_16 : decode cX1_believersByPair 16 = .ok (.imul, 1) := by decide +kernel
theorem dX1_believersByPair_17 : decode cX1_believersByPair 17 = .ok (.iastore, 1) := by decide +kernel
theorem dX1_believersByPair_18 : decode cX1_believersByPair 18 = .ok (.aload_n 0, 1) := by decide +kernel
theorem dX1_believersByPair_19 : decode cX1_believersByPair 19 = .ok (.getfield 15, 3) := by decide +kernel
theorem dX1_believersByPair_22 : decode cX1_believersByPair 22 = .ok (.getfield 60, 3) := by decide +kernel
theorem dX1_believersByPair_25 : decode cX1_believersByPair 25 = .ok (.iload_n 3, 1) := by decide +kernel
theorem dX1_believersByPair_26 : decode cX1_believersByPair 26 = .ok (.bipush 9, 2) := by decide +kernel
theorem dX1_believersByPair_28 : decode cX1_believersByPair 28 = .ok (.iload 4, 2) := by decide +kernel
theorem dX1_believersByPair_30 : decode cX1_believersByPair 30 = .ok (.imul, 1) := by decide +kernel
theorem dX1_believersByPair_31 : decode cX1_believersByPair 31 = .ok (.iastore, 1) := by decide +kernel
theorem dX1_believersByPair_32 : decode cX1_believersByPair 32 = .ok (.aload_n 0, 1) := by decide +kernel
theorem dX1_believersByPair_33 : decode cX1_believersByPair 33 = .ok (.getfield 15, 3) := by decide +kernel
theorem dX1_believersByPair_36 : decode cX1_believersByPair 36 = .ok (.iload 5, 2) := by decide +kernel
theorem dX1_believersByPair_38 : decode cX1_believersByPair 38 = .ok (.invokevirtual 64, 3) := by decide +kernel
theorem dX1_believersByPair_41 : decode cX1_believersByPair 41 = .ok (.ireturn, 1) := by decide +kernel
set_option maxRecDepth 20000 in
theorem ggX1_kindsBy_X1_think : GoodIn wsX1_kindsBy wsX1_think := goodIn_r _ [6, 7, 8, 9, 10, 11, 12, 13, 14, 15, 16, 17, 18, 19, 20, 21, 22, 23, 24, 86, 87, 78, 79, 80, 81, 82, 83, 84, 85] (by decide +kernel) (by decide +kernel)
set_option maxRecDepth 20000 in
theorem gX1_kindsBy_X1_think : GoodIn wsX1_kindsBy (wsV RX1 32 RX1 yX1_think wsX1_think) := goodIn_app (goodIn_of _ (by decide +kernel)) ggX1_kindsBy_X1_think
set_option maxRecDepth 20000 in
theorem ggX1_kindsBy_X1_isBeliefOf : GoodIn wsX1_kindsBy wsX1_isBeliefOf := goodIn_r _ [28, 29, 30, 7, 31, 32, 33, 34, 12, 35, 23, 36, 24, 22, 21, 37, 38, 39, 40, 14, 41, 42, 43, 44, 45, 46, 47, 48, 20, 49, 50, 51, 52, 53, 54, 55, 56, 57, 58, 59, 60, 61, 62, 63, 64, 65, 66, 19, 67, 68, 69, 70, 71, 72, 73, 74, 75, 76, 77, 88, 89, 86, 87, 78, 79, 80, 81, 82, 83, 84, 85] (by decide +kernel) (by decide +kernel)
set_option maxRecDepth 20000 in
theorem gX1_kindsBy_X1_isBeliefOf : GoodIn wsX1_kindsBy (wsV RX1 113 RX1 yX1_isBeliefOf wsX1_isBeliefOf) := goodIn_app (goodIn_of _ (by decide +kernel)) ggX1_kindsBy_X1_isBeliefOf
theorem dX1_kindsBy_0 : decode cX1_kindsBy 0 = .ok (.iconst 0, 1) := by decide +kernel
theorem dX1_kindsBy_1 : decode cX1_kindsBy 1 = .ok (.istore_n 3, 1) := by decide +kernel
theorem dX1_kindsBy_2 : decode cX1_kindsBy 2 = .ok (.iconst 0, 1) := by decide +kernel
theorem dX1_kindsBy_3 : decode cX1_kindsBy 3 = .ok (.istore 4, 2) := by decide +kernel
theorem dX1_kindsBy_5 : decode cX1_kindsBy 5 = .ok (.iload 4, 2) := by decide +kernel
theorem dX1_kindsBy_7 : decode cX1_kindsBy 7 = .ok (.bipush 6, 2) := by decide +kernel
theorem dX1_kindsBy_9 : decode cX1_kindsBy 9 = .ok (.if_icmp .ge 36, 3) := by decide +kernel
theorem dX1_kindsBy_12 : decode cX1_kindsBy 12 = .ok (.aload_n 0, 1) := by decide +kernel
theorem dX1_kindsBy_13 : decode cX1_kindsBy 13 = .ok (.invokevirtual 32, 3) := by decide +kernel
theorem dX1_kindsBy_16 : decode cX1_kindsBy 16 = .ok (.getfield 82, 3) := by decide +kernel
theorem dX1_kindsBy_19 : decode cX1_kindsBy 19 = .ok (.iload_n 2, 1) := by decide +kernel
theorem dX1_kindsBy_20 : decode cX1_kindsBy 20 = .ok (.iload 4, 2) := by decide +kernel
theorem dX1_kindsBy_22 : decode cX1_kindsBy 22 = .ok (.iastore, 1) := by decide +kernel
theorem dX1_kindsBy_23 : decode cX1_kindsBy 23 = .ok (.aload_n 0, 1) := by decide +kernel
theorem dX1_kindsBy_24 : decode cX1_kindsBy 24 = .ok (.iload_n 2, 1) := by decide +kernel
theorem dX1_kindsBy_25 : decode cX1_kindsBy 25 = .ok (.aload_n 1, 1) := by decide +kernel
theorem dX1_kindsBy_26 : decode cX1_kindsBy 26 = .ok (.invokevirtual 113, 3) := by decide +kernel
theorem dX1_kindsBy_29 : decode cX1_kindsBy 29 = .ok (.ifCond .eq 10, 3) := by decide +kernel
theorem dX1_kindsBy_32 : decode cX1_kindsBy 32 = .ok (.iload_n 3, 1) := by decide +kernel
theorem dX1_kindsBy_33 : decode cX1_kindsBy 33 = .ok (.iconst 1, 1) := by decide +kernel
theorem dX1_kindsBy_34 : decode cX1_kindsBy 34 = .ok (.iload 4, 2) := by decide +kernel
theorem dX1_kindsBy_36 : decode cX1_kindsBy 36 = .ok (.ishl, 1) := by decide +kernel
theorem dX1_kindsBy_37 : decode cX1_kindsBy 37 = .ok (.ior, 1) := by decide +kernel
theorem dX1_kindsBy_38 : decode cX1_kindsBy 38 = .ok (.istore_n 3, 1) := by decide +kernel
theorem dX1_kindsBy_39 : decode cX1_kindsBy 39 = .ok (.iinc 4 1, 3) := by decide +kernel
theorem dX1_kindsBy_42 : decode cX1_kindsBy 42 = .ok (.goto (-37), 3) := by decide +kernel
theorem dX1_kindsBy_45 : decode cX1_kindsBy 45 = .ok (.iload_n 3, 1) := by decide +kernel
theorem dX1_kindsBy_46 : decode cX1_kindsBy 46 = .ok (.ireturn, 1) := by decide +kernel
set_option maxRecDepth 20000 in
theorem ggX1_figuresBy_X1_think : GoodIn wsX1_figuresBy wsX1_think := goodIn_r _ [6, 7, 8, 9, 10, 11, 12, 13, 14, 15, 16, 17, 18, 19, 20, 21, 22, 23, 24, 86, 87, 78, 79, 80, 81, 82, 83, 84, 85] (by decide +kernel) (by decide +kernel)
set_option maxRecDepth 20000 in
theorem gX1_figuresBy_X1_think : GoodIn wsX1_figuresBy (wsV RX1 32 RX1 yX1_think wsX1_think) := goodIn_app (goodIn_of _ (by decide +kernel)) ggX1_figuresBy_X1_think
set_option maxRecDepth 20000 in
theorem ggX1_figuresBy_X1_isBeliefOf : GoodIn wsX1_figuresBy wsX1_isBeliefOf := goodIn_r _ [28, 29, 30, 7, 31, 32, 33, 34, 12, 35, 23, 36, 24, 22, 21, 37, 38, 39, 40, 14, 41, 42, 43, 44, 45, 46, 47, 48, 20, 49, 50, 51, 52, 53, 54, 55, 56, 57, 58, 59, 60, 61, 62, 63, 64, 65, 66, 19, 67, 68, 69, 70, 71, 72, 73, 74, 75, 76, 77, 88, 89, 86, 87, 78, 79, 80, 81, 82, 83, 84, 85] (by decide +kernel) (by decide +kernel)
set_option maxRecDepth 20000 in
theorem gX1_figuresBy_X1_isBeliefOf : GoodIn wsX1_figuresBy (wsV RX1 113 RX1 yX1_isBeliefOf wsX1_isBeliefOf) := goodIn_app (goodIn_of _ (by decide +kernel)) ggX1_figuresBy_X1_isBeliefOf
theorem dX1_figuresBy_0 : decode cX1_figuresBy 0 = .ok (.iconst 0, 1) := by decide +kernel
theorem dX1_figuresBy_1 : decode cX1_figuresBy 1 = .ok (.istore_n 3, 1) := by decide +kernel
theorem dX1_figuresBy_2 : decode cX1_figuresBy 2 = .ok (.iconst 0, 1) := by decide +kernel
theorem dX1_figuresBy_3 : decode cX1_figuresBy 3 = .ok (.istore 4, 2) := by decide +kernel
theorem dX1_figuresBy_5 : decode cX1_figuresBy 5 = .ok (.iload 4, 2) := by decide +kernel
theorem dX1_figuresBy_7 : decode cX1_figuresBy 7 = .ok (.bipush 9, 2) := by decide +kernel
theorem dX1_figuresBy_9 : decode cX1_figuresBy 9 = .ok (.if_icmp .gt 36, 3) := by decide +kernel
theorem dX1_figuresBy_12 : decode cX1_figuresBy 12 = .ok (.aload_n 0, 1) := by decide +kernel
theorem dX1_figuresBy_13 : decode cX1_figuresBy 13 = .ok (.invokevirtual 32, 3) := by decide +kernel
theorem dX1_figuresBy_16 : decode cX1_figuresBy 16 = .ok (.getfield 99, 3) := by decide +kernel
theorem dX1_figuresBy_19 : decode cX1_figuresBy 19 = .ok (.iload_n 2, 1) := by decide +kernel
theorem dX1_figuresBy_20 : decode cX1_figuresBy 20 = .ok (.iload 4, 2) := by decide +kernel
theorem dX1_figuresBy_22 : decode cX1_figuresBy 22 = .ok (.iastore, 1) := by decide +kernel
theorem dX1_figuresBy_23 : decode cX1_figuresBy 23 = .ok (.aload_n 0, 1) := by decide +kernel
theorem dX1_figuresBy_24 : decode cX1_figuresBy 24 = .ok (.iload_n 2, 1) := by decide +kernel
theorem dX1_figuresBy_25 : decode cX1_figuresBy 25 = .ok (.aload_n 1, 1) := by decide +kernel
theorem dX1_figuresBy_26 : decode cX1_figuresBy 26 = .ok (.invokevirtual 113, 3) := by decide +kernel
theorem dX1_figuresBy_29 : decode cX1_figuresBy 29 = .ok (.ifCond .eq 10, 3) := by decide +kernel
theorem dX1_figuresBy_32 : decode cX1_figuresBy 32 = .ok (.iload_n 3, 1) := by decide +kernel
theorem dX1_figuresBy_33 : decode cX1_figuresBy 33 = .ok (.iconst 1, 1) := by decide +kernel
theorem dX1_figuresBy_34 : decode cX1_figuresBy 34 = .ok (.iload 4, 2) := by decide +kernel
theorem dX1_figuresBy_36 : decode cX1_figuresBy 36 = .ok (.ishl, 1) := by decide +kernel
theorem dX1_figuresBy_37 : decode cX1_figuresBy 37 = .ok (.ior, 1) := by decide +kernel
theorem dX1_figuresBy_38 : decode cX1_figuresBy 38 = .ok (.istore_n 3, 1) := by decide +kernel
theorem dX1_figuresBy_39 : decode cX1_figuresBy 39 = .ok (.iinc 4 1, 3) := by decide +kernel
theorem dX1_figuresBy_42 : decode cX1_figuresBy 42 = .ok (.goto (-37), 3) := by decide +kernel
theorem dX1_figuresBy_45 : decode cX1_figuresBy 45 = .ok (.iload_n 3, 1) := by decide +kernel
theorem dX1_figuresBy_46 : decode cX1_figuresBy 46 = .ok (.ireturn, 1) := by decide +kernel
set_option maxRecDepth 20000 in
theorem ggX1_isBeliefOf_X3_passYear : GoodIn wsX1_isBeliefOf wsX3_passYear := goodIn_r _ [9, 10, 11, 12, 13, 14, 15, 16, 17, 8, 18, 19, 20, 21, 22, 23, 24, 25, 26, 27, 28, 29, 30, 31, 32, 33, 34, 35, 36, 37, 38, 39, 40, 41, 42, 43, 44, 45, 46, 47, 48, 49, 50, 51, 52, 53, 54, 55, 56, 57, 58, 63, 64, 65, 66, 67, 68, 69, 70] (by decide +kernel) (by decide +kernel)
set_option maxRecDepth 20000 in
theorem gX1_isBeliefOf_X3_passYear : GoodIn wsX1_isBeliefOf (wsV RX1 40 RX3 yX3_passYear wsX3_passYear) := goodIn_app (goodIn_of _ (by decide +kernel)) ggX1_isBeliefOf_X3_passYear
theorem dX1_isBeliefOf_0 : decode cX1_isBeliefOf 0 = .ok (.iconst 0, 1) := by decide +kernel
theorem dX1_isBeliefOf_1 : decode cX1_isBeliefOf 1 = .ok (.istore_n 3, 1) := by decide +kernel
theorem dX1_isBeliefOf_2 : decode cX1_isBeliefOf 2 = .ok (.iload_n 3, 1) := by decide +kernel
theorem dX1_isBeliefOf_3 : decode cX1_isBeliefOf 3 = .ok (.aload_n 2, 1) := by decide +kernel
theorem dX1_isBeliefOf_4 : decode cX1_isBeliefOf 4 = .ok (.getfield 117, 3) := by decide +kernel
theorem dX1_isBeliefOf_7 : decode cX1_isBeliefOf 7 = .ok (.if_icmp .ge 38, 3) := by decide +kernel
theorem dX1_isBeliefOf_10 : decode cX1_isBeliefOf 10 = .ok (.aload_n 2, 1) := by decide +kernel
theorem dX1_isBeliefOf_11 : decode cX1_isBeliefOf 11 = .ok (.getfield 122, 3) := by decide +kernel
theorem dX1_isBeliefOf_14 : decode cX1_isBeliefOf 14 = .ok (.iload_n 3, 1) := by decide +kernel
theorem dX1_isBeliefOf_15 : decode cX1_isBeliefOf 15 = .ok (.iaload, 1) := by decide +kernel
theorem dX1_isBeliefOf_16 : decode cX1_isBeliefOf 16 = .ok (.aload_n 0, 1) := by decide +kernel
theorem dX1_isBeliefOf_17 : decode cX1_isBeliefOf 17 = .ok (.getfield 15, 3) := by decide +kernel
theorem dX1_isBeliefOf_20 : decode cX1_isBeliefOf 20 = .ok (.getfield 60, 3) := by decide +kernel
theorem dX1_isBeliefOf_23 : decode cX1_isBeliefOf 23 = .ok (.iload_n 1, 1) := by decide +kernel
theorem dX1_isBeliefOf_24 : decode cX1_isBeliefOf 24 = .ok (.iaload, 1) := by decide +kernel
theorem dX1_isBeliefOf_25 : decode cX1_isBeliefOf 25 = .ok (.if_icmp .eq 5, 3) := by decide +kernel
theorem dX1_isBeliefOf_28 : decode cX1_isBeliefOf 28 = .ok (.iconst 0, 1) := by decide +kernel
theorem dX1_isBeliefOf_29 : decode cX1_isBeliefOf 29 = .ok (.ireturn, 1) := by decide +kernel
theorem dX1_isBeliefOf_30 : decode cX1_isBeliefOf 30 = .ok (.aload_n 0, 1) := by decide +kernel
theorem dX1_isBeliefOf_31 : decode cX1_isBeliefOf 31 = .ok (.getfield 15, 3) := by decide +kernel
theorem dX1_isBeliefOf_34 : decode cX1_isBeliefOf 34 = .ok (.iconst 0, 1) := by decide +kernel
theorem dX1_isBeliefOf_35 : decode cX1_isBeliefOf 35 = .ok (.invokevirtual 40, 3) := by decide +kernel
theorem dX1_isBeliefOf_38 : decode cX1_isBeliefOf 38 = .ok (.pop, 1) := by decide +kernel
theorem dX1_isBeliefOf_39 : decode cX1_isBeliefOf 39 = .ok (.iinc 3 1, 3) := by decide +kernel
theorem dX1_isBeliefOf_42 : decode cX1_isBeliefOf 42 = .ok (.goto (-40), 3) := by decide +kernel
theorem dX1_isBeliefOf_45 : decode cX1_isBeliefOf 45 = .ok (.iconst 1, 1) := by decide +kernel
theorem dX1_isBeliefOf_46 : decode cX1_isBeliefOf 46 = .ok (.ireturn, 1) := by decide +kernel
set_option maxRecDepth 20000 in
theorem ggX1_missingBy_X1_think : GoodIn wsX1_missingBy wsX1_think := goodIn_r _ [7, 8, 1, 9, 10, 11, 12, 13, 14, 15, 16, 17, 18, 19, 20, 21, 22, 23, 24, 97, 98, 99, 100, 101, 102, 103, 104, 105, 106] (by decide +kernel) (by decide +kernel)
set_option maxRecDepth 20000 in
theorem gX1_missingBy_X1_think : GoodIn wsX1_missingBy (wsV RX1 32 RX1 yX1_think wsX1_think) := goodIn_app (goodIn_of _ (by decide +kernel)) ggX1_missingBy_X1_think
set_option maxRecDepth 20000 in
theorem ggX1_missingBy_X3_dropAll : GoodIn wsX1_missingBy wsX3_dropAll := goodIn_r _ [28, 23, 19, 20, 21, 22, 29, 30, 31, 99, 100, 101, 102, 103, 104, 105, 106] (by decide +kernel) (by decide +kernel)
set_option maxRecDepth 20000 in
theorem gX1_missingBy_X3_dropAll : GoodIn wsX1_missingBy (wsV RX1 71 RX3 yX3_dropAll wsX3_dropAll) := goodIn_app (goodIn_of _ (by decide +kernel)) ggX1_missingBy_X3_dropAll
set_option maxRecDepth 20000 in
theorem ggX1_missingBy_X1_isHowManyBelieve : GoodIn wsX1_missingBy wsX1_isHowManyBelieve := goodIn_r _ [35, 36, 37, 8, 38, 39, 40, 12, 41, 42, 43, 44, 45, 23, 46, 47, 48, 49, 22, 50, 51, 52, 53, 54, 55, 56, 57, 58, 59, 60, 61, 24, 21, 62, 63, 64, 65, 14, 66, 67, 68, 69, 70, 71, 72, 73, 20, 74, 75, 76, 77, 30, 78, 79, 80, 81, 82, 83, 84, 85, 19, 86, 87, 88, 89, 90, 91, 92, 93, 94, 95, 96, 107, 108, 97, 98, 99, 100, 101, 102, 103, 104, 105, 106] (by decide +kernel) (by decide +kernel)
set_option maxRecDepth 20000 in
theorem gX1_missingBy_X1_isHowManyBelieve : GoodIn wsX1_missingBy (wsV RX1 125 RX1 yX1_isHowManyBelieve wsX1_isHowManyBelieve) := goodIn_app (goodIn_of _ (by decide +kernel)) ggX1_missingBy_X1_isHowManyBelieve
theorem dX1_missingBy_0 : decode cX1_missingBy 0 = .ok (.iconst 0, 1) := by decide +kernel
theorem dX1_missingBy_1 : decode cX1_missingBy 1 = .ok (.istore_n 2, 1) := by decide +kernel
theorem dX1_missingBy_2 : decode cX1_missingBy 2 = .ok (.iconst 0, 1) := by decide +kernel
theorem dX1_missingBy_3 : decode cX1_missingBy 3 = .ok (.istore_n 3, 1) := by decide +kernel
theorem dX1_missingBy_4 : decode cX1_missingBy 4 = .ok (.iload_n 3, 1) := by decide +kernel
theorem dX1_missingBy_5 : decode cX1_missingBy 5 = .ok (.aload_n 0, 1) := by decide +kernel
theorem dX1_missingBy_6 : decode cX1_missingBy 6 = .ok (.getfield 9, 3) := by decide +kernel
theorem dX1_missingBy_9 : decode cX1_missingBy 9 = .ok (.getfield 28, 3) := by decide +kernel
theorem dX1_missingBy_12 : decode cX1_missingBy 12 = .ok (.if_icmp .ge 33, 3) := by decide +kernel
theorem dX1_missingBy_15 : decode cX1_missingBy 15 = .ok (.aload_n 0, 1) := by decide +kernel
theorem dX1_missingBy_16 : decode cX1_missingBy 16 = .ok (.invokevirtual 32, 3) := by decide +kernel
theorem dX1_missingBy_19 : decode cX1_missingBy 19 = .ok (.iconst 1, 1) := by decide +kernel
theorem dX1_missingBy_20 : decode cX1_missingBy 20 = .ok (.iload_n 3, 1) := by decide +kernel
theorem dX1_missingBy_21 : decode cX1_missingBy 21 = .ok (.ishl, 1) := by decide +kernel
theorem dX1_missingBy_22 : decode cX1_missingBy 22 = .ok (.invokevirtual 71, 3) := by decide +kernel
theorem dX1_missingBy_25 : decode cX1_missingBy 25 = .ok (.aload_n 0, 1) := by decide +kernel
theorem dX1_missingBy_26 : decode cX1_missingBy 26 = .ok (.aload_n 1, 1) := by decide +kernel
theorem dX1_missingBy_27 : decode cX1_missingBy 27 = .ok (.invokevirtual 125, 3) := by decide +kernel
theorem dX1_missingBy_30 : decode cX1_missingBy 30 = .ok (.ifCond .eq 9, 3) := by decide +kernel
theorem dX1_missingBy_33 : decode cX1_missingBy 33 = .ok (.iload_n 2, 1) := by decide +kernel
theorem dX1_missingBy_34 : decode cX1_missingBy 34 = .ok (.iconst 1, 1) := by decide +kernel
theorem dX1_missingBy_35 : decode cX1_missingBy 35 = .ok (.iload_n 3, 1) := by decide +kernel
theorem dX1_missingBy_36 : decode cX1_missingBy 36 = .ok (.ishl, 1) := by decide +kernel
theorem dX1_missingBy_37 : decode cX1_missingBy 37 = .ok (.ior, 1) := by decide +kernel
theorem dX1_missingBy_38 : decode cX1_missingBy 38 = .ok (.istore_n 2, 1) := by decide +kernel
theorem dX1_missingBy_39 : decode cX1_missingBy 39 = .ok (.iinc 3 1, 3) := by decide +kernel
theorem dX1_missingBy_42 : decode cX1_missingBy 42 = .ok (.goto (-38), 3) := by decide +kernel
theorem dX1_missingBy_45 : decode cX1_missingBy 45 = .ok (.iload_n 2, 1) := by decide +kernel
theorem dX1_missingBy_46 : decode cX1_missingBy 46 = .ok (.ireturn, 1) := by decide +kernel
set_option maxRecDepth 20000 in
theorem ggX1_isHowManyBelieve_X3_believers : GoodIn wsX1_isHowManyBelieve wsX3_believers := goodIn_r _ [8, 9, 10, 11, 7, 12, 13, 14, 15, 16, 17, 18, 19, 20, 21, 22, 23, 24, 25, 76, 77, 78, 79, 80, 81, 82, 83] (by decide +kernel) (by decide +kernel)
set_option maxRecDepth 20000 in
theorem gX1_isHowManyBelieve_X3_believers : GoodIn wsX1_isHowManyBelieve (wsV RX1 24 RX3 yX3_believers wsX3_believers) := goodIn_app (goodIn_of _ (by decide +kernel)) ggX1_isHowManyBelieve_X3_believers
set_option maxRecDepth 20000 in
theorem ggX1_isHowManyBelieve_X3_passYear : GoodIn wsX1_isHowManyBelieve wsX3_passYear := goodIn_r _ [29, 13, 30, 31, 18, 32, 33, 34, 35, 7, 36, 37, 38, 39, 40, 41, 42, 43, 44, 45, 46, 47, 48, 49, 50, 51, 52, 14, 15, 16, 17, 53, 54, 21, 55, 56, 57, 58, 59, 60, 61, 62, 63, 64, 65, 66, 67, 68, 69, 70, 71, 76, 77, 78, 79, 80, 81, 82, 83] (by decide +kernel) (by decide +kernel)
set_option maxRecDepth 20000 in
theorem gX1_isHowManyBelieve_X3_passYear : GoodIn wsX1_isHowManyBelieve (wsV RX1 40 RX3 yX3_passYear wsX3_passYear) := goodIn_app (goodIn_of _ (by decide +kernel)) ggX1_isHowManyBelieve_X3_passYear
theorem dX1_isHowManyBelieve_0 : decode cX1_isHowManyBelieve 0 = .ok (.iconst 0, 1) := by decide +kernel
theorem dX1_isHowManyBelieve_1 : decode cX1_isHowManyBelieve 1 = .ok (.istore_n 2, 1) := by decide +kernel
theorem dX1_isHowManyBelieve_2 : decode cX1_isHowManyBelieve 2 = .ok (.iload_n 2, 1) := by decide +kernel
theorem dX1_isHowManyBelieve_3 : decode cX1_isHowManyBelieve 3 = .ok (.aload_n 1, 1) := by decide +kernel
theorem dX1_isHowManyBelieve_4 : decode cX1_isHowManyBelieve 4 = .ok (.getfield 117, 3) := by decide +kernel
theorem dX1_isHowManyBelieve_7 : decode cX1_isHowManyBelieve 7 = .ok (.if_icmp .ge 36, 3) := by decide +kernel
theorem dX1_isHowManyBelieve_10 : decode cX1_isHowManyBelieve 10 = .ok (.aload_n 1, 1) := by decide +kernel
theorem dX1_isHowManyBelieve_11 : decode cX1_isHowManyBelieve 11 = .ok (.getfield 122, 3) := by decide +kernel
theorem dX1_isHowManyBelieve_14 : decode cX1_isHowManyBelieve 14 = .ok (.iload_n 2, 1) := by decide +kernel
theorem dX1_isHowManyBelieve_15 : decode cX1_isHowManyBelieve 15 = .ok (.iaload, 1) := by decide +kernel
theorem dX1_isHowManyBelieve_16 : decode cX1_isHowManyBelieve 16 = .ok (.aload_n 0, 1) := by decide +kernel
theorem dX1_isHowManyBelieve_17 : decode cX1_isHowManyBelieve 17 = .ok (.getfield 15, 3) := by decide +kernel
theorem dX1_isHowManyBelieve_20 : decode cX1_isHowManyBelieve 20 = .ok (.invokevirtual 24, 3) := by decide +kernel
theorem dX1_isHowManyBelieve_23 : decode cX1_isHowManyBelieve 23 = .ok (.if_icmp .eq 5, 3) := by decide +kernel
theorem dX1_isHowManyBelieve_26 : decode cX1_isHowManyBelieve 26 = .ok (.iconst 0, 1) := by decide +kernel
theorem dX1_isHowManyBelieve_27 : decode cX1_isHowManyBelieve 27 = .ok (.ireturn, 1) := by decide +kernel
theorem dX1_isHowManyBelieve_28 : decode cX1_isHowManyBelieve 28 = .ok (.aload_n 0, 1) := by decide +kernel
theorem dX1_isHowManyBelieve_29 : decode cX1_isHowManyBelieve 29 = .ok (.getfield 15, 3) := by decide +kernel
theorem dX1_isHowManyBelieve_32 : decode cX1_isHowManyBelieve 32 = .ok (.iconst 0, 1) := by decide +kernel
theorem dX1_isHowManyBelieve_33 : decode cX1_isHowManyBelieve 33 = .ok (.invokevirtual 40, 3) := by decide +kernel
theorem dX1_isHowManyBelieve_36 : decode cX1_isHowManyBelieve 36 = .ok (.pop, 1) := by decide +kernel
theorem dX1_isHowManyBelieve_37 : decode cX1_isHowManyBelieve 37 = .ok (.iinc 2 1, 3) := by decide +kernel
theorem dX1_isHowManyBelieve_40 : decode cX1_isHowManyBelieve 40 = .ok (.goto (-38), 3) := by decide +kernel
theorem dX1_isHowManyBelieve_43 : decode cX1_isHowManyBelieve 43 = .ok (.iconst 1, 1) := by decide +kernel
theorem dX1_isHowManyBelieve_44 : decode cX1_isHowManyBelieve 44 = .ok (.ireturn, 1) := by decide +kernel
set_option maxRecDepth 20000 in
theorem ggX1_firstWrongPlace_X1_think : GoodIn wsX1_firstWrongPlace wsX1_think := goodIn_r _ [8, 3, 9, 10, 11, 12, 13, 14, 15, 16, 17, 18, 19, 20, 21, 22, 23, 24, 25, 75, 76, 77, 78, 79, 80, 81, 82, 83, 84] (by decide +kernel) (by decide +kernel)
set_option maxRecDepth 20000 in
theorem gX1_firstWrongPlace_X1_think : GoodIn wsX1_firstWrongPlace (wsV RX1 32 RX1 yX1_think wsX1_think) := goodIn_app (goodIn_of _ (by decide +kernel)) ggX1_firstWrongPlace_X1_think
set_option maxRecDepth 20000 in
theorem ggX1_firstWrongPlace_X3_hollow : GoodIn wsX1_firstWrongPlace wsX3_hollow := goodIn_r _ [29, 15, 77, 78, 79, 80, 81, 82, 83, 84] (by decide +kernel) (by decide +kernel)
set_option maxRecDepth 20000 in
theorem gX1_firstWrongPlace_X3_hollow : GoodIn wsX1_firstWrongPlace (wsV RX1 44 RX3 yX3_hollow wsX3_hollow) := goodIn_app (goodIn_of _ (by decide +kernel)) ggX1_firstWrongPlace_X3_hollow
set_option maxRecDepth 20000 in
theorem ggX1_firstWrongPlace_X3_passYear : GoodIn wsX1_firstWrongPlace wsX3_passYear := goodIn_r _ [33, 24, 34, 25, 23, 22, 35, 27, 28, 13, 29, 15, 36, 37, 38, 39, 40, 41, 42, 43, 21, 44, 45, 46, 47, 48, 49, 50, 51, 52, 53, 54, 55, 56, 57, 58, 59, 60, 61, 20, 62, 63, 64, 65, 66, 67, 68, 69, 70, 71, 72, 77, 78, 79, 80, 81, 82, 83, 84] (by decide +kernel) (by decide +kernel)
set_option maxRecDepth 20000 in
theorem gX1_firstWrongPlace_X3_passYear : GoodIn wsX1_firstWrongPlace (wsV RX1 40 RX3 yX3_passYear wsX3_passYear) := goodIn_app (goodIn_of _ (by decide +kernel)) ggX1_firstWrongPlace_X3_passYear
theorem dX1_firstWrongPlace_0 : decode cX1_firstWrongPlace 0 = .ok (.aload_n 0, 1) := by decide +kernel
theorem dX1_firstWrongPlace_1 : decode cX1_firstWrongPlace 1 = .ok (.invokevirtual 32, 3) := by decide +kernel
theorem dX1_firstWrongPlace_4 : decode cX1_firstWrongPlace 4 = .ok (.pop, 1) := by decide +kernel
theorem dX1_firstWrongPlace_5 : decode cX1_firstWrongPlace 5 = .ok (.iconst 0, 1) := by decide +kernel
theorem dX1_firstWrongPlace_6 : decode cX1_firstWrongPlace 6 = .ok (.istore_n 2, 1) := by decide +kernel
theorem dX1_firstWrongPlace_7 : decode cX1_firstWrongPlace 7 = .ok (.iload_n 2, 1) := by decide +kernel
theorem dX1_firstWrongPlace_8 : decode cX1_firstWrongPlace 8 = .ok (.aload_n 1, 1) := by decide +kernel
theorem dX1_firstWrongPlace_9 : decode cX1_firstWrongPlace 9 = .ok (.getfield 117, 3) := by decide +kernel
theorem dX1_firstWrongPlace_12 : decode cX1_firstWrongPlace 12 = .ok (.if_icmp .ge 36, 3) := by decide +kernel
theorem dX1_firstWrongPlace_15 : decode cX1_firstWrongPlace 15 = .ok (.aload_n 1, 1) := by decide +kernel
theorem dX1_firstWrongPlace_16 : decode cX1_firstWrongPlace 16 = .ok (.getfield 122, 3) := by decide +kernel
theorem dX1_firstWrongPlace_19 : decode cX1_firstWrongPlace 19 = .ok (.iload_n 2, 1) := by decide +kernel
theorem dX1_firstWrongPlace_20 : decode cX1_firstWrongPlace 20 = .ok (.iaload, 1) := by decide +kernel
theorem dX1_firstWrongPlace_21 : decode cX1_firstWrongPlace 21 = .ok (.aload_n 0, 1) := by decide +kernel
theorem dX1_firstWrongPlace_22 : decode cX1_firstWrongPlace 22 = .ok (.getfield 15, 3) := by decide +kernel
theorem dX1_firstWrongPlace_25 : decode cX1_firstWrongPlace 25 = .ok (.invokevirtual 44, 3) := by decide +kernel
theorem dX1_firstWrongPlace_28 : decode cX1_firstWrongPlace 28 = .ok (.if_icmp .eq 5, 3) := by decide +kernel
theorem dX1_firstWrongPlace_31 : decode cX1_firstWrongPlace 31 = .ok (.iload_n 2, 1) := by decide +kernel
theorem dX1_firstWrongPlace_32 : decode cX1_firstWrongPlace 32 = .ok (.ireturn, 1) := by decide +kernel
theorem dX1_firstWrongPlace_33 : decode cX1_firstWrongPlace 33 = .ok (.aload_n 0, 1) := by decide +kernel
theorem dX1_firstWrongPlace_34 : decode cX1_firstWrongPlace 34 = .ok (.getfield 15, 3) := by decide +kernel
theorem dX1_firstWrongPlace_37 : decode cX1_firstWrongPlace 37 = .ok (.iconst 0, 1) := by decide +kernel
theorem dX1_firstWrongPlace_38 : decode cX1_firstWrongPlace 38 = .ok (.invokevirtual 40, 3) := by decide +kernel
theorem dX1_firstWrongPlace_41 : decode cX1_firstWrongPlace 41 = .ok (.pop, 1) := by decide +kernel
theorem dX1_firstWrongPlace_42 : decode cX1_firstWrongPlace 42 = .ok (.iinc 2 1, 3) := by decide +kernel
theorem dX1_firstWrongPlace_45 : decode cX1_firstWrongPlace 45 = .ok (.goto (-38), 3) := by decide +kernel
theorem dX1_firstWrongPlace_48 : decode cX1_firstWrongPlace 48 = .ok (.bipush (-9), 2) := by decide +kernel
theorem dX1_firstWrongPlace_50 : decode cX1_firstWrongPlace 50 = .ok (.ireturn, 1) := by decide +kernel
set_option maxRecDepth 20000 in
theorem ggX1_allByLot_X1_think : GoodIn wsX1_allByLot wsX1_think := goodIn_r _ [9, 1, 10, 11, 12, 13, 14, 15, 16, 17, 18, 19, 20, 21, 22, 23, 24, 25, 26, 104, 105, 106, 107, 108, 109, 110, 111, 112, 113] (by decide +kernel) (by decide +kernel)
set_option maxRecDepth 20000 in
theorem gX1_allByLot_X1_think : GoodIn wsX1_allByLot (wsV RX1 32 RX1 yX1_think wsX1_think) := goodIn_app (goodIn_of _ (by decide +kernel)) ggX1_allByLot_X1_think
set_option maxRecDepth 20000 in
theorem ggX1_allByLot_X1_stirred : GoodIn wsX1_allByLot wsX1_stirred := goodIn_r _ [29, 30, 31] (by decide +kernel) (by decide +kernel)
set_option maxRecDepth 20000 in
theorem gX1_allByLot_X1_stirred : GoodIn wsX1_allByLot (va_wsS RX1 129 yX1_stirred wsX1_stirred) := goodIn_app (goodIn_of _ (by decide +kernel)) ggX1_allByLot_X1_stirred
set_option maxRecDepth 20000 in
theorem ggX1_allByLot_X1_drawn : GoodIn wsX1_allByLot wsX1_drawn := goodIn_r _ [34, 35] (by decide +kernel) (by decide +kernel)
set_option maxRecDepth 20000 in
theorem gX1_allByLot_X1_drawn : GoodIn wsX1_allByLot (va_wsS RX1 132 yX1_drawn wsX1_drawn) := goodIn_app (goodIn_of _ (by decide +kernel)) ggX1_allByLot_X1_drawn
set_option maxRecDepth 20000 in
theorem ggX1_allByLot_X3_passYears : GoodIn wsX1_allByLot wsX3_passYears := goodIn_r _ [39, 40, 41, 42, 14, 43, 25, 44, 26, 24, 23, 45, 46, 47, 48, 16, 49, 50, 51, 52, 53, 54, 55, 56, 22, 57, 58, 59, 60, 61, 62, 63, 64, 65, 66, 67, 68, 69, 70, 71, 72, 73, 74, 21, 75, 76, 77, 78, 79, 80, 81, 82, 83, 84, 85, 86, 87, 88, 89, 90, 91, 92, 93, 94, 95, 96, 97, 98, 99, 106, 107, 108, 109, 110, 111, 112, 113] (by decide +kernel) (by decide +kernel)
set_option maxRecDepth 20000 in
theorem gX1_allByLot_X3_passYears : GoodIn wsX1_allByLot (wsV RX1 64 RX3 yX3_passYears wsX3_passYears) := goodIn_app (goodIn_of _ (by decide +kernel)) ggX1_allByLot_X3_passYears
set_option maxRecDepth 20000 in
theorem ggX1_allByLot_X3_allBelief : GoodIn wsX1_allByLot wsX3_allBelief := goodIn_r _ [103, 25, 24, 106, 107, 108, 109, 110, 111, 112, 113] (by decide +kernel) (by decide +kernel)
set_option maxRecDepth 20000 in
theorem gX1_allByLot_X3_allBelief : GoodIn wsX1_allByLot (wsV RX1 135 RX3 yX3_allBelief wsX3_allBelief) := goodIn_app (goodIn_of _ (by decide +kernel)) ggX1_allByLot_X3_allBelief
theorem dX1_allByLot_0 : decode cX1_allByLot 0 = .ok (.iconst 0, 1) := by decide +kernel
theorem dX1_allByLot_1 : decode cX1_allByLot 1 = .ok (.istore 4, 2) := by decide +kernel
theorem dX1_allByLot_3 : decode cX1_allByLot 3 = .ok (.iload_n 2, 1) := by decide +kernel
theorem dX1_allByLot_4 : decode cX1_allByLot 4 = .ok (.istore 5, 2) := by decide +kernel
theorem dX1_allByLot_6 : decode cX1_allByLot 6 = .ok (.iconst 0, 1) := by decide +kernel
theorem dX1_allByLot_7 : decode cX1_allByLot 7 = .ok (.istore 6, 2) := by decide +kernel
theorem dX1_allByLot_9 : decode cX1_allByLot 9 = .ok (.iload 6, 2) := by decide +kernel
theorem dX1_allByLot_11 : decode cX1_allByLot 11 = .ok (.iload_n 1, 1) := by decide +kernel
theorem dX1_allByLot_12 : decode cX1_allByLot 12 = .ok (.if_icmp .ge 115, 3) := by decide +kernel
theorem dX1_allByLot_15 : decode cX1_allByLot 15 = .ok (.aload_n 0, 1) := by decide +kernel
theorem dX1_allByLot_16 : decode cX1_allByLot 16 = .ok (.invokevirtual 32, 3) := by decide +kernel
theorem dX1_allByLot_19 : decode cX1_allByLot 19 = .ok (.pop, 1) := by decide +kernel
theorem dX1_allByLot_20 : decode cX1_allByLot 20 = .ok (.iconst 0, 1) := by decide +kernel
theorem dX1_allByLot_21 : decode cX1_allByLot 21 = .ok (.istore 7, 2) := by decide +kernel
theorem dX1_allByLot_23 : decode cX1_allByLot 23 = .ok (.iload 7, 2) := by decide +kernel
theorem dX1_allByLot_25 : decode cX1_allByLot 25 = .ok (.aload_n 0, 1) := by decide +kernel
theorem dX1_allByLot_26 : decode cX1_allByLot 26 = .ok (.getfield 15, 3) := by decide +kernel
theorem dX1_allByLot_29 : decode cX1_allByLot 29 = .ok (.getfield 28, 3) := by decide +kernel
theorem dX1_allByLot_32 : decode cX1_allByLot 32 = .ok (.if_icmp .ge 57, 3) := by decide +kernel
theorem dX1_allByLot_35 : decode cX1_allByLot 35 = .ok (.iload 5, 2) := by decide +kernel
theorem dX1_allByLot_37 : decode cX1_allByLot 37 = .ok (.invokestatic 129, 3) := by decide +kernel
theorem dX1_allByLot_40 : decode cX1_allByLot 40 = .ok (.istore 5, 2) := by decide +kernel
theorem dX1_allByLot_42 : decode cX1_allByLot 42 = .ok (.aload_n 0, 1) := by decide +kernel
theorem dX1_allByLot_43 : decode cX1_allByLot 43 = .ok (.getfield 15, 3) := by decide +kernel
theorem dX1_allByLot_46 : decode cX1_allByLot 46 = .ok (.getfield 79, 3) := by decide +kernel
theorem dX1_allByLot_49 : decode cX1_allByLot 49 = .ok (.iload 7, 2) := by decide +kernel
theorem dX1_allByLot_51 : decode cX1_allByLot 51 = .ok (.iload 5, 2) := by decide +kernel
theorem dX1_allByLot_53 : decode cX1_allByLot 53 = .ok (.bipush 25, 2) := by decide +kernel
theorem dX1_allByLot_55 : decode cX1_allByLot 55 = .ok (.invokestatic 132, 3) := by decide +kernel
theorem dX1_allByLot_58 : decode cX1_allByLot 58 = .ok (.iastore, 1) := by decide +kernel
theorem dX1_allByLot_59 : decode cX1_allByLot 59 = .ok (.iload 5, 2) := by decide +kernel
theorem dX1_allByLot_61 : decode cX1_allByLot 61 = .ok (.invokestatic 129, 3) := by decide +kernel
theorem dX1_allByLot_64 : decode cX1_allByLot 64 = .ok (.istore 5, 2) := by decide +kernel
theorem dX1_allByLot_66 : decode cX1_allByLot 66 = .ok (.aload_n 0, 1) := by decide +kernel
theorem dX1_allByLot_67 : decode cX1_allByLot 67 = .ok (.getfield 15, 3) := by decide +kernel
theorem dX1_allByLot_70 : decode cX1_allByLot 70 = .ok (.getfield 60, 3) := by decide +kernel
theorem dX1_allByLot_73 : decode cX1_allByLot 73 = .ok (.iload 7, 2) := by decide +kernel
theorem dX1_allByLot_75 : decode cX1_allByLot 75 = .ok (.iload 5, 2) := by decide +kernel
theorem dX1_allByLot_77 : decode cX1_allByLot 77 = .ok (.bipush 10, 2) := by decide +kernel
theorem dX1_allByLot_79 : decode cX1_allByLot 79 = .ok (.invokestatic 132, 3) := by decide +kernel
theorem dX1_allByLot_82 : decode cX1_allByLot 82 = .ok (.iastore, 1) := by decide +kernel
theorem dX1_allByLot_83 : decode cX1_allByLot 83 = .ok (.iinc 7 1, 3) := by decide +kernel
theorem dX1_allByLot_86 : decode cX1_allByLot 86 = .ok (.goto (-63), 3) := by decide +kernel
theorem dX1_allByLot_89 : decode cX1_allByLot 89 = .ok (.aload_n 0, 1) := by decide +kernel
theorem dX1_allByLot_90 : decode cX1_allByLot 90 = .ok (.getfield 15, 3) := by decide +kernel
theorem dX1_allByLot_93 : decode cX1_allByLot 93 = .ok (.bipush 10, 2) := by decide +kernel
theorem dX1_allByLot_95 : decode cX1_allByLot 95 = .ok (.invokevirtual 64, 3) := by decide +kernel
theorem dX1_allByLot_98 : decode cX1_allByLot 98 = .ok (.istore 7, 2) := by decide +kernel
theorem dX1_allByLot_100 : decode cX1_allByLot 100 = .ok (.iload 4, 2) := by decide +kernel
theorem dX1_allByLot_102 : decode cX1_allByLot 102 = .ok (.iload_n 3, 1) := by decide +kernel
theorem dX1_allByLot_103 : decode cX1_allByLot 103 = .ok (.ifCond .ne 8, 3) := by decide +kernel
theorem dX1_allByLot_106 : decode cX1_allByLot 106 = .ok (.iload 7, 2) := by decide +kernel
theorem dX1_allByLot_108 : decode cX1_allByLot 108 = .ok (.goto 10, 3) := by decide +kernel
theorem dX1_allByLot_111 : decode cX1_allByLot 111 = .ok (.aload_n 0, 1) := by decide +kernel
theorem dX1_allByLot_112 : decode cX1_allByLot 112 = .ok (.getfield 15, 3) := by decide +kernel
theorem dX1_allByLot_115 : decode cX1_allByLot 115 = .ok (.invokevirtual 135, 3) := by decide +kernel
theorem dX1_allByLot_118 : decode cX1_allByLot 118 = .ok (.iadd, 1) := by decide +kernel
theorem dX1_allByLot_119 : decode cX1_allByLot 119 = .ok (.istore 4, 2) := by decide +kernel
theorem dX1_allByLot_121 : decode cX1_allByLot 121 = .ok (.iinc 6 1, 3) := by decide +kernel
theorem dX1_allByLot_124 : decode cX1_allByLot 124 = .ok (.goto (-115), 3) := by decide +kernel
theorem dX1_allByLot_127 : decode cX1_allByLot 127 = .ok (.iload 4, 2) := by decide +kernel
theorem dX1_allByLot_129 : decode cX1_allByLot 129 = .ok (.ireturn, 1) := by decide +kernel
theorem dX1_stirred_0 : decode cX1_stirred 0 = .ok (.iload_n 0, 1) := by decide +kernel
theorem dX1_stirred_1 : decode cX1_stirred 1 = .ok (.ldc 138, 2) := by decide +kernel
theorem dX1_stirred_3 : decode cX1_stirred 3 = .ok (.imul, 1) := by decide +kernel
theorem dX1_stirred_4 : decode cX1_stirred 4 = .ok (.ldc 139, 2) := by decide +kernel
theorem dX1_stirred_6 : decode cX1_stirred 6 = .ok (.iadd, 1) := by decide +kernel
theorem dX1_stirred_7 : decode cX1_stirred 7 = .ok (.ireturn, 1) := by decide +kernel
theorem dX1_drawn_0 : decode cX1_drawn 0 = .ok (.iload_n 0, 1) := by decide +kernel
theorem dX1_drawn_1 : decode cX1_drawn 1 = .ok (.ldc 140, 2) := by decide +kernel
theorem dX1_drawn_3 : decode cX1_drawn 3 = .ok (.iand, 1) := by decide +kernel
theorem dX1_drawn_4 : decode cX1_drawn 4 = .ok (.sipush 256, 3) := by decide +kernel
theorem dX1_drawn_7 : decode cX1_drawn 7 = .ok (.idiv, 1) := by decide +kernel
theorem dX1_drawn_8 : decode cX1_drawn 8 = .ok (.istore_n 2, 1) := by decide +kernel
theorem dX1_drawn_9 : decode cX1_drawn 9 = .ok (.iload_n 1, 1) := by decide +kernel
theorem dX1_drawn_10 : decode cX1_drawn 10 = .ok (.ifCond .le 9, 3) := by decide +kernel
theorem dX1_drawn_13 : decode cX1_drawn 13 = .ok (.iload_n 2, 1) := by decide +kernel
theorem dX1_drawn_14 : decode cX1_drawn 14 = .ok (.iload_n 1, 1) := by decide +kernel
theorem dX1_drawn_15 : decode cX1_drawn 15 = .ok (.irem, 1) := by decide +kernel
theorem dX1_drawn_16 : decode cX1_drawn 16 = .ok (.goto 4, 3) := by decide +kernel
theorem dX1_drawn_19 : decode cX1_drawn 19 = .ok (.iconst 0, 1) := by decide +kernel
theorem dX1_drawn_20 : decode cX1_drawn 20 = .ok (.ireturn, 1) := by decide +kernel
theorem dX2_init_0 : decode cX2_init 0 = .ok (.aload_n 0, 1) := by decide +kernel
theorem dX2_init_1 : decode cX2_init 1 = .ok (.invokespecial 3, 3) := by decide +kernel
theorem dX2_init_4 : decode cX2_init 4 = .ok (.aload_n 0, 1) := by decide +kernel
theorem dX2_init_5 : decode cX2_init 5 = .ok (.bipush 16, 2) := by decide +kernel
theorem dX2_init_7 : decode cX2_init 7 = .ok (.newarray .int, 2) := by decide +kernel
theorem dX2_init_9 : decode cX2_init 9 = .ok (.putfield 9, 3) := by decide +kernel
theorem dX2_init_12 : decode cX2_init 12 = .ok (.aload_n 0, 1) := by decide +kernel
theorem dX2_init_13 : decode cX2_init 13 = .ok (.iconst 0, 1) := by decide +kernel
theorem dX2_init_14 : decode cX2_init 14 = .ok (.putfield 15, 3) := by decide +kernel
theorem dX2_init_17 : decode cX2_init 17 = .ok (.return_, 1) := by decide +kernel
theorem dX2_isFull_0 : decode cX2_isFull 0 = .ok (.aload_n 0, 1) := by decide +kernel
theorem dX2_isFull_1 : decode cX2_isFull 1 = .ok (.getfield 15, 3) := by decide +kernel
theorem dX2_isFull_4 : decode cX2_isFull 4 = .ok (.bipush 16, 2) := by decide +kernel
theorem dX2_isFull_6 : decode cX2_isFull 6 = .ok (.if_icmp .lt 7, 3) := by decide +kernel
theorem dX2_isFull_9 : decode cX2_isFull 9 = .ok (.iconst 1, 1) := by decide +kernel
theorem dX2_isFull_10 : decode cX2_isFull 10 = .ok (.goto 4, 3) := by decide +kernel
theorem dX2_isFull_13 : decode cX2_isFull 13 = .ok (.iconst 0, 1) := by decide +kernel
theorem dX2_isFull_14 : decode cX2_isFull 14 = .ok (.ireturn, 1) := by decide +kernel
set_option maxRecDepth 20000 in
theorem ggX2_append_X2_isFull : GoodIn wsX2_append wsX2_isFull := goodIn_r _ [7, 2, 8, 9] (by decide +kernel) (by decide +kernel)
set_option maxRecDepth 20000 in
theorem gX2_append_X2_isFull : GoodIn wsX2_append (wsV RX2 19 RX2 yX2_isFull wsX2_isFull) := goodIn_app (goodIn_of _ (by decide +kernel)) ggX2_append_X2_isFull
theorem dX2_append_0 : decode cX2_append 0 = .ok (.aload_n 0, 1) := by decide +kernel
theorem dX2_append_1 : decode cX2_append 1 = .ok (.invokevirtual 19, 3) := by decide +kernel
theorem dX2_append_4 : decode cX2_append 4 = .ok (.ifCond .ne 23, 3) := by decide +kernel
theorem dX2_append_7 : decode cX2_append 7 = .ok (.aload_n 0, 1) := by decide +kernel
theorem dX2_append_8 : decode cX2_append 8 = .ok (.getfield 9, 3) := by decide +kernel
theorem dX2_append_11 : decode cX2_append 11 = .ok (.aload_n 0, 1) := by decide +kernel
theorem dX2_append_12 : decode cX2_append 12 = .ok (.getfield 15, 3) := by decide +kernel
theorem dX2_append_15 : decode cX2_append 15 = .ok (.iload_n 1, 1) := by decide +kernel
theorem dX2_append_16 : decode cX2_append 16 = .ok (.iastore, 1) := by decide +kernel
theorem dX2_append_17 : decode cX2_append 17 = .ok (.aload_n 0, 1) := by decide +kernel
theorem dX2_append_18 : decode cX2_append 18 = .ok (.dup, 1) := by decide +kernel
theorem dX2_append_19 : decode cX2_append 19 = .ok (.getfield 15, 3) := by decide +kernel
theorem dX2_append_22 : decode cX2_append 22 = .ok (.iconst 1, 1) := by decide +kernel
theorem dX2_append_23 : decode cX2_append 23 = .ok (.iadd, 1) := by decide +kernel
theorem dX2_append_24 : decode cX2_append 24 = .ok (.putfield 15, 3) := by decide +kernel
theorem dX2_append_27 : decode cX2_append 27 = .ok (.aload_n 0, 1) := by decide +kernel
theorem dX2_append_28 : decode cX2_append 28 = .ok (.getfield 15, 3) := by decide +kernel
theorem dX2_append_31 : decode cX2_append 31 = .ok (.ireturn, 1) := by decide +kernel
theorem dX2_empty_0 : decode cX2_empty 0 = .ok (.aload_n 0, 1) := by decide +kernel
theorem dX2_empty_1 : decode cX2_empty 1 = .ok (.getfield 15, 3) := by decide +kernel
theorem dX2_empty_4 : decode cX2_empty 4 = .ok (.istore_n 1, 1) := by decide +kernel
theorem dX2_empty_5 : decode cX2_empty 5 = .ok (.aload_n 0, 1) := by decide +kernel
theorem dX2_empty_6 : decode cX2_empty 6 = .ok (.iconst 0, 1) := by decide +kernel
theorem dX2_empty_7 : decode cX2_empty 7 = .ok (.putfield 15, 3) := by decide +kernel
theorem dX2_empty_10 : decode cX2_empty 10 = .ok (.iload_n 1, 1) := by decide +kernel
theorem dX2_empty_11 : decode cX2_empty 11 = .ok (.ireturn, 1) := by decide +kernel
