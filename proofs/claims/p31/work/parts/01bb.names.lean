set_option maxRecDepth 20000 in
theorem ggX3_higherNeighbors_X3_topOf : GoodIn wsX3_higherNeighbors wsX3_topOf := goodIn_r _ [10, 11, 12, 1, 2, 3, 4, 5, 6, 13, 14, 15, 16, 17] (by decide +kernel) (by decide +kernel)
set_option maxRecDepth 20000 in
theorem gX3_higherNeighbors_X3_topOf : GoodIn wsX3_higherNeighbors (wsV RX3 53 RX3 yX3_topOf wsX3_topOf) := goodIn_app (goodIn_of _ (by decide +kernel)) ggX3_higherNeighbors_X3_topOf
theorem dX3_higherNeighbors_0 : decode cX3_higherNeighbors 0 = .ok (.iconst 0, 1) := by decide +kernel
theorem dX3_higherNeighbors_1 : decode cX3_higherNeighbors 1 = .ok (.istore_n 2, 1) := by decide +kernel
theorem dX3_higherNeighbors_2 : decode cX3_higherNeighbors 2 = .ok (.iload_n 1, 1) := by decide +kernel
theorem dX3_higherNeighbors_3 : decode cX3_higherNeighbors 3 = .ok (.iconst 1, 1) := by decide +kernel
theorem dX3_higherNeighbors_4 : decode cX3_higherNeighbors 4 = .ok (.isub, 1) := by decide +kernel
theorem dX3_higherNeighbors_5 : decode cX3_higherNeighbors 5 = .ok (.istore_n 3, 1) := by decide +kernel
theorem dX3_higherNeighbors_6 : decode cX3_higherNeighbors 6 = .ok (.iload_n 3, 1) := by decide +kernel
theorem dX3_higherNeighbors_7 : decode cX3_higherNeighbors 7 = .ok (.iload_n 1, 1) := by decide +kernel
theorem dX3_higherNeighbors_8 : decode cX3_higherNeighbors 8 = .ok (.iconst 1, 1) := by decide +kernel
theorem dX3_higherNeighbors_9 : decode cX3_higherNeighbors 9 = .ok (.iadd, 1) := by decide +kernel
theorem dX3_higherNeighbors_10 : decode cX3_higherNeighbors 10 = .ok (.if_icmp .gt 33, 3) := by decide +kernel
theorem dX3_higherNeighbors_13 : decode cX3_higherNeighbors 13 = .ok (.aload_n 0, 1) := by decide +kernel
theorem dX3_higherNeighbors_14 : decode cX3_higherNeighbors 14 = .ok (.iload_n 3, 1) := by decide +kernel
theorem dX3_higherNeighbors_15 : decode cX3_higherNeighbors 15 = .ok (.invokevirtual 28, 3) := by decide +kernel
theorem dX3_higherNeighbors_18 : decode cX3_higherNeighbors 18 = .ok (.ifCond .eq 19, 3) := by decide +kernel
theorem dX3_higherNeighbors_21 : decode cX3_higherNeighbors 21 = .ok (.aload_n 0, 1) := by decide +kernel
theorem dX3_higherNeighbors_22 : decode cX3_higherNeighbors 22 = .ok (.iload_n 3, 1) := by decide +kernel
theorem dX3_higherNeighbors_23 : decode cX3_higherNeighbors 23 = .ok (.invokevirtual 53, 3) := by decide +kernel
theorem dX3_higherNeighbors_26 : decode cX3_higherNeighbors 26 = .ok (.aload_n 0, 1) := by decide +kernel
theorem dX3_higherNeighbors_27 : decode cX3_higherNeighbors 27 = .ok (.iload_n 1, 1) := by decide +kernel
theorem dX3_higherNeighbors_28 : decode cX3_higherNeighbors 28 = .ok (.invokevirtual 53, 3) := by decide +kernel
theorem dX3_higherNeighbors_31 : decode cX3_higherNeighbors 31 = .ok (.if_icmp .le 6, 3) := by decide +kernel
theorem dX3_higherNeighbors_34 : decode cX3_higherNeighbors 34 = .ok (.iinc 2 1, 3) := by decide +kernel
theorem dX3_higherNeighbors_37 : decode cX3_higherNeighbors 37 = .ok (.iinc 3 1, 3) := by decide +kernel
theorem dX3_higherNeighbors_40 : decode cX3_higherNeighbors 40 = .ok (.goto (-34), 3) := by decide +kernel
theorem dX3_higherNeighbors_43 : decode cX3_higherNeighbors 43 = .ok (.iload_n 2, 1) := by decide +kernel
theorem dX3_higherNeighbors_44 : decode cX3_higherNeighbors 44 = .ok (.ireturn, 1) := by decide +kernel
set_option maxRecDepth 20000 in
theorem ggX3_mostInTheWay_X3_topOf : GoodIn wsX3_mostInTheWay wsX3_topOf := goodIn_r _ [12, 13, 14, 15, 16, 17, 11, 18, 19, 28, 29, 30, 31, 32] (by decide +kernel) (by decide +kernel)
set_option maxRecDepth 20000 in
theorem gX3_mostInTheWay_X3_topOf : GoodIn wsX3_mostInTheWay (wsV RX3 53 RX3 yX3_topOf wsX3_topOf) := goodIn_app (goodIn_of _ (by decide +kernel)) ggX3_mostInTheWay_X3_topOf
set_option maxRecDepth 20000 in
theorem ggX3_mostInTheWay_X3_clearance : GoodIn wsX3_mostInTheWay wsX3_clearance := goodIn_r _ [23, 24, 25, 3, 26, 13, 27, 15, 16, 17, 11, 18, 19, 28, 29, 30, 31, 32] (by decide +kernel) (by decide +kernel)
set_option maxRecDepth 20000 in
theorem gX3_mostInTheWay_X3_clearance : GoodIn wsX3_mostInTheWay (wsV RX3 49 RX3 yX3_clearance wsX3_clearance) := goodIn_app (goodIn_of _ (by decide +kernel)) ggX3_mostInTheWay_X3_clearance
theorem dX3_mostInTheWay_0 : decode cX3_mostInTheWay 0 = .ok (.iconst (-1), 1) := by decide +kernel
theorem dX3_mostInTheWay_1 : decode cX3_mostInTheWay 1 = .ok (.istore_n 3, 1) := by decide +kernel
theorem dX3_mostInTheWay_2 : decode cX3_mostInTheWay 2 = .ok (.iconst 0, 1) := by decide +kernel
theorem dX3_mostInTheWay_3 : decode cX3_mostInTheWay 3 = .ok (.istore 4, 2) := by decide +kernel
theorem dX3_mostInTheWay_5 : decode cX3_mostInTheWay 5 = .ok (.iload_n 1, 1) := by decide +kernel
theorem dX3_mostInTheWay_6 : decode cX3_mostInTheWay 6 = .ok (.iload_n 2, 1) := by decide +kernel
theorem dX3_mostInTheWay_7 : decode cX3_mostInTheWay 7 = .ok (.invokestatic 42, 3) := by decide +kernel
theorem dX3_mostInTheWay_10 : decode cX3_mostInTheWay 10 = .ok (.istore 5, 2) := by decide +kernel
theorem dX3_mostInTheWay_12 : decode cX3_mostInTheWay 12 = .ok (.iload_n 1, 1) := by decide +kernel
theorem dX3_mostInTheWay_13 : decode cX3_mostInTheWay 13 = .ok (.iload_n 2, 1) := by decide +kernel
theorem dX3_mostInTheWay_14 : decode cX3_mostInTheWay 14 = .ok (.invokestatic 46, 3) := by decide +kernel
theorem dX3_mostInTheWay_17 : decode cX3_mostInTheWay 17 = .ok (.iconst 1, 1) := by decide +kernel
theorem dX3_mostInTheWay_18 : decode cX3_mostInTheWay 18 = .ok (.iadd, 1) := by decide +kernel
theorem dX3_mostInTheWay_19 : decode cX3_mostInTheWay 19 = .ok (.istore 6, 2) := by decide +kernel
theorem dX3_mostInTheWay_21 : decode cX3_mostInTheWay 21 = .ok (.iload 6, 2) := by decide +kernel
theorem dX3_mostInTheWay_23 : decode cX3_mostInTheWay 23 = .ok (.iload 5, 2) := by decide +kernel
theorem dX3_mostInTheWay_25 : decode cX3_mostInTheWay 25 = .ok (.if_icmp .ge 48, 3) := by decide +kernel
theorem dX3_mostInTheWay_28 : decode cX3_mostInTheWay 28 = .ok (.aload_n 0, 1) := by decide +kernel
theorem dX3_mostInTheWay_29 : decode cX3_mostInTheWay 29 = .ok (.iload_n 1, 1) := by decide +kernel
theorem dX3_mostInTheWay_30 : decode cX3_mostInTheWay 30 = .ok (.aload_n 0, 1) := by decide +kernel
theorem dX3_mostInTheWay_31 : decode cX3_mostInTheWay 31 = .ok (.iload_n 1, 1) := by decide +kernel
theorem dX3_mostInTheWay_32 : decode cX3_mostInTheWay 32 = .ok (.invokevirtual 53, 3) := by decide +kernel
theorem dX3_mostInTheWay_35 : decode cX3_mostInTheWay 35 = .ok (.iload_n 2, 1) := by decide +kernel
theorem dX3_mostInTheWay_36 : decode cX3_mostInTheWay 36 = .ok (.aload_n 0, 1) := by decide +kernel
theorem dX3_mostInTheWay_37 : decode cX3_mostInTheWay 37 = .ok (.iload_n 2, 1) := by decide +kernel
theorem dX3_mostInTheWay_38 : decode cX3_mostInTheWay 38 = .ok (.invokevirtual 53, 3) := by decide +kernel
theorem dX3_mostInTheWay_41 : decode cX3_mostInTheWay 41 = .ok (.iload 6, 2) := by decide +kernel
theorem dX3_mostInTheWay_43 : decode cX3_mostInTheWay 43 = .ok (.invokevirtual 49, 3) := by decide +kernel
theorem dX3_mostInTheWay_46 : decode cX3_mostInTheWay 46 = .ok (.istore 7, 2) := by decide +kernel
theorem dX3_mostInTheWay_48 : decode cX3_mostInTheWay 48 = .ok (.iload_n 3, 1) := by decide +kernel
theorem dX3_mostInTheWay_49 : decode cX3_mostInTheWay 49 = .ok (.iconst (-1), 1) := by decide +kernel
theorem dX3_mostInTheWay_50 : decode cX3_mostInTheWay 50 = .ok (.if_icmp .eq 10, 3) := by decide +kernel
theorem dX3_mostInTheWay_53 : decode cX3_mostInTheWay 53 = .ok (.iload 7, 2) := by decide +kernel
theorem dX3_mostInTheWay_55 : decode cX3_mostInTheWay 55 = .ok (.iload 4, 2) := by decide +kernel
theorem dX3_mostInTheWay_57 : decode cX3_mostInTheWay 57 = .ok (.if_icmp .ge 10, 3) := by decide +kernel
theorem dX3_mostInTheWay_60 : decode cX3_mostInTheWay 60 = .ok (.iload 6, 2) := by decide +kernel
theorem dX3_mostInTheWay_62 : decode cX3_mostInTheWay 62 = .ok (.istore_n 3, 1) := by decide +kernel
theorem dX3_mostInTheWay_63 : decode cX3_mostInTheWay 63 = .ok (.iload 7, 2) := by decide +kernel
theorem dX3_mostInTheWay_65 : decode cX3_mostInTheWay 65 = .ok (.istore 4, 2) := by decide +kernel
theorem dX3_mostInTheWay_67 : decode cX3_mostInTheWay 67 = .ok (.iinc 6 1, 3) := by decide +kernel
theorem dX3_mostInTheWay_70 : decode cX3_mostInTheWay 70 = .ok (.goto (-49), 3) := by decide +kernel
theorem dX3_mostInTheWay_73 : decode cX3_mostInTheWay 73 = .ok (.iload_n 3, 1) := by decide +kernel
theorem dX3_mostInTheWay_74 : decode cX3_mostInTheWay 74 = .ok (.ireturn, 1) := by decide +kernel
set_option maxRecDepth 20000 in
theorem ggX3_pairsWithin_X3_topsSee : GoodIn wsX3_pairsWithin wsX3_topsSee := goodIn_r _ [6, 7, 8, 9, 5, 10, 11, 12, 13, 14, 15, 16, 1, 17, 18, 19, 20, 21, 22, 23, 24, 25, 26, 27, 28, 29, 30, 31, 32, 33, 34, 35, 36, 37, 38, 39, 40] (by decide +kernel) (by decide +kernel)
set_option maxRecDepth 20000 in
theorem gX3_pairsWithin_X3_topsSee : GoodIn wsX3_pairsWithin (wsV RX3 64 RX3 yX3_topsSee wsX3_topsSee) := goodIn_app (goodIn_of _ (by decide +kernel)) ggX3_pairsWithin_X3_topsSee
theorem dX3_pairsWithin_0 : decode cX3_pairsWithin 0 = .ok (.iconst 0, 1) := by decide +kernel
theorem dX3_pairsWithin_1 : decode cX3_pairsWithin 1 = .ok (.istore_n 2, 1) := by decide +kernel
theorem dX3_pairsWithin_2 : decode cX3_pairsWithin 2 = .ok (.iconst 0, 1) := by decide +kernel
theorem dX3_pairsWithin_3 : decode cX3_pairsWithin 3 = .ok (.istore_n 3, 1) := by decide +kernel
theorem dX3_pairsWithin_4 : decode cX3_pairsWithin 4 = .ok (.iload_n 3, 1) := by decide +kernel
theorem dX3_pairsWithin_5 : decode cX3_pairsWithin 5 = .ok (.aload_n 0, 1) := by decide +kernel
theorem dX3_pairsWithin_6 : decode cX3_pairsWithin 6 = .ok (.getfield 18, 3) := by decide +kernel
theorem dX3_pairsWithin_9 : decode cX3_pairsWithin 9 = .ok (.if_icmp .ge 50, 3) := by decide +kernel
theorem dX3_pairsWithin_12 : decode cX3_pairsWithin 12 = .ok (.iload_n 3, 1) := by decide +kernel
theorem dX3_pairsWithin_13 : decode cX3_pairsWithin 13 = .ok (.iconst 1, 1) := by decide +kernel
theorem dX3_pairsWithin_14 : decode cX3_pairsWithin 14 = .ok (.iadd, 1) := by decide +kernel
theorem dX3_pairsWithin_15 : decode cX3_pairsWithin 15 = .ok (.istore 4, 2) := by decide +kernel
theorem dX3_pairsWithin_17 : decode cX3_pairsWithin 17 = .ok (.iload 4, 2) := by decide +kernel
theorem dX3_pairsWithin_19 : decode cX3_pairsWithin 19 = .ok (.aload_n 0, 1) := by decide +kernel
theorem dX3_pairsWithin_20 : decode cX3_pairsWithin 20 = .ok (.getfield 18, 3) := by decide +kernel
theorem dX3_pairsWithin_23 : decode cX3_pairsWithin 23 = .ok (.if_icmp .ge 30, 3) := by decide +kernel
theorem dX3_pairsWithin_26 : decode cX3_pairsWithin 26 = .ok (.iload 4, 2) := by decide +kernel
theorem dX3_pairsWithin_28 : decode cX3_pairsWithin 28 = .ok (.iload_n 3, 1) := by decide +kernel
theorem dX3_pairsWithin_29 : decode cX3_pairsWithin 29 = .ok (.isub, 1) := by decide +kernel
theorem dX3_pairsWithin_30 : decode cX3_pairsWithin 30 = .ok (.iload_n 1, 1) := by decide +kernel
theorem dX3_pairsWithin_31 : decode cX3_pairsWithin 31 = .ok (.if_icmp .gt 22, 3) := by decide +kernel
theorem dX3_pairsWithin_34 : decode cX3_pairsWithin 34 = .ok (.aload_n 0, 1) := by decide +kernel
theorem dX3_pairsWithin_35 : decode cX3_pairsWithin 35 = .ok (.iload_n 3, 1) := by decide +kernel
theorem dX3_pairsWithin_36 : decode cX3_pairsWithin 36 = .ok (.iload 4, 2) := by decide +kernel
theorem dX3_pairsWithin_38 : decode cX3_pairsWithin 38 = .ok (.invokevirtual 64, 3) := by decide +kernel
theorem dX3_pairsWithin_41 : decode cX3_pairsWithin 41 = .ok (.ifCond .eq 6, 3) := by decide +kernel
theorem dX3_pairsWithin_44 : decode cX3_pairsWithin 44 = .ok (.iinc 2 1, 3) := by decide +kernel
theorem dX3_pairsWithin_47 : decode cX3_pairsWithin 47 = .ok (.iinc 4 1, 3) := by decide +kernel
theorem dX3_pairsWithin_50 : decode cX3_pairsWithin 50 = .ok (.goto (-33), 3) := by decide +kernel
theorem dX3_pairsWithin_53 : decode cX3_pairsWithin 53 = .ok (.iinc 3 1, 3) := by decide +kernel
theorem dX3_pairsWithin_56 : decode cX3_pairsWithin 56 = .ok (.goto (-52), 3) := by decide +kernel
theorem dX3_pairsWithin_59 : decode cX3_pairsWithin 59 = .ok (.iload_n 2, 1) := by decide +kernel
theorem dX3_pairsWithin_60 : decode cX3_pairsWithin 60 = .ok (.ireturn, 1) := by decide +kernel
theorem dX3_countMasts_0 : decode cX3_countMasts 0 = .ok (.iconst 0, 1) := by decide +kernel
theorem dX3_countMasts_1 : decode cX3_countMasts 1 = .ok (.istore_n 1, 1) := by decide +kernel
theorem dX3_countMasts_2 : decode cX3_countMasts 2 = .ok (.iconst 0, 1) := by decide +kernel
theorem dX3_countMasts_3 : decode cX3_countMasts 3 = .ok (.istore_n 2, 1) := by decide +kernel
theorem dX3_countMasts_4 : decode cX3_countMasts 4 = .ok (.iload_n 2, 1) := by decide +kernel
theorem dX3_countMasts_5 : decode cX3_countMasts 5 = .ok (.aload_n 0, 1) := by decide +kernel
theorem dX3_countMasts_6 : decode cX3_countMasts 6 = .ok (.getfield 18, 3) := by decide +kernel
theorem dX3_countMasts_9 : decode cX3_countMasts 9 = .ok (.if_icmp .ge 21, 3) := by decide +kernel
theorem dX3_countMasts_12 : decode cX3_countMasts 12 = .ok (.aload_n 0, 1) := by decide +kernel
theorem dX3_countMasts_13 : decode cX3_countMasts 13 = .ok (.getfield 15, 3) := by decide +kernel
theorem dX3_countMasts_16 : decode cX3_countMasts 16 = .ok (.iload_n 2, 1) := by decide +kernel
theorem dX3_countMasts_17 : decode cX3_countMasts 17 = .ok (.iaload, 1) := by decide +kernel
theorem dX3_countMasts_18 : decode cX3_countMasts 18 = .ok (.ifCond .le 6, 3) := by decide +kernel
theorem dX3_countMasts_21 : decode cX3_countMasts 21 = .ok (.iinc 1 1, 3) := by decide +kernel
theorem dX3_countMasts_24 : decode cX3_countMasts 24 = .ok (.iinc 2 1, 3) := by decide +kernel
theorem dX3_countMasts_27 : decode cX3_countMasts 27 = .ok (.goto (-23), 3) := by decide +kernel
theorem dX3_countMasts_30 : decode cX3_countMasts 30 = .ok (.iload_n 1, 1) := by decide +kernel
theorem dX3_countMasts_31 : decode cX3_countMasts 31 = .ok (.ireturn, 1) := by decide +kernel
theorem dX3_sumOfMasts_0 : decode cX3_sumOfMasts 0 = .ok (.iconst 0, 1) := by decide +kernel
theorem dX3_sumOfMasts_1 : decode cX3_sumOfMasts 1 = .ok (.istore_n 1, 1) := by decide +kernel
theorem dX3_sumOfMasts_2 : decode cX3_sumOfMasts 2 = .ok (.iconst 0, 1) := by decide +kernel
theorem dX3_sumOfMasts_3 : decode cX3_sumOfMasts 3 = .ok (.istore_n 2, 1) := by decide +kernel
theorem dX3_sumOfMasts_4 : decode cX3_sumOfMasts 4 = .ok (.iload_n 2, 1) := by decide +kernel
theorem dX3_sumOfMasts_5 : decode cX3_sumOfMasts 5 = .ok (.aload_n 0, 1) := by decide +kernel
theorem dX3_sumOfMasts_6 : decode cX3_sumOfMasts 6 = .ok (.getfield 18, 3) := by decide +kernel
theorem dX3_sumOfMasts_9 : decode cX3_sumOfMasts 9 = .ok (.if_icmp .ge 18, 3) := by decide +kernel
theorem dX3_sumOfMasts_12 : decode cX3_sumOfMasts 12 = .ok (.iload_n 1, 1) := by decide +kernel
theorem dX3_sumOfMasts_13 : decode cX3_sumOfMasts 13 = .ok (.aload_n 0, 1) := by decide +kernel
theorem dX3_sumOfMasts_14 : decode cX3_sumOfMasts 14 = .ok (.getfield 15, 3) := by decide +kernel
theorem dX3_sumOfMasts_17 : decode cX3_sumOfMasts 17 = .ok (.iload_n 2, 1) := by decide +kernel
theorem dX3_sumOfMasts_18 : decode cX3_sumOfMasts 18 = .ok (.iaload, 1) := by decide +kernel
theorem dX3_sumOfMasts_19 : decode cX3_sumOfMasts 19 = .ok (.iadd, 1) := by decide +kernel
theorem dX3_sumOfMasts_20 : decode cX3_sumOfMasts 20 = .ok (.istore_n 1, 1) := by decide +kernel
theorem dX3_sumOfMasts_21 : decode cX3_sumOfMasts 21 = .ok (.iinc 2 1, 3) := by decide +kernel
theorem dX3_sumOfMasts_24 : decode cX3_sumOfMasts 24 = .ok (.goto (-20), 3) := by decide +kernel
theorem dX3_sumOfMasts_27 : decode cX3_sumOfMasts 27 = .ok (.iload_n 1, 1) := by decide +kernel
theorem dX3_sumOfMasts_28 : decode cX3_sumOfMasts 28 = .ok (.ireturn, 1) := by decide +kernel
theorem dX4_init_0 : decode cX4_init 0 = .ok (.aload_n 0, 1) := by decide +kernel
theorem dX4_init_1 : decode cX4_init 1 = .ok (.invokespecial 3, 3) := by decide +kernel
theorem dX4_init_4 : decode cX4_init 4 = .ok (.aload_n 0, 1) := by decide +kernel
theorem dX4_init_5 : decode cX4_init 5 = .ok (.bipush 20, 2) := by decide +kernel
theorem dX4_init_7 : decode cX4_init 7 = .ok (.newarray .int, 2) := by decide +kernel
theorem dX4_init_9 : decode cX4_init 9 = .ok (.putfield 9, 3) := by decide +kernel
theorem dX4_init_12 : decode cX4_init 12 = .ok (.aload_n 0, 1) := by decide +kernel
theorem dX4_init_13 : decode cX4_init 13 = .ok (.bipush 20, 2) := by decide +kernel
theorem dX4_init_15 : decode cX4_init 15 = .ok (.newarray .int, 2) := by decide +kernel
theorem dX4_init_17 : decode cX4_init 17 = .ok (.putfield 15, 3) := by decide +kernel
theorem dX4_init_20 : decode cX4_init 20 = .ok (.aload_n 0, 1) := by decide +kernel
theorem dX4_init_21 : decode cX4_init 21 = .ok (.bipush 20, 2) := by decide +kernel
theorem dX4_init_23 : decode cX4_init 23 = .ok (.newarray .int, 2) := by decide +kernel
theorem dX4_init_25 : decode cX4_init 25 = .ok (.putfield 18, 3) := by decide +kernel
theorem dX4_init_28 : decode cX4_init 28 = .ok (.aload_n 0, 1) := by decide +kernel
theorem dX4_init_29 : decode cX4_init 29 = .ok (.bipush 20, 2) := by decide +kernel
theorem dX4_init_31 : decode cX4_init 31 = .ok (.newarray .int, 2) := by decide +kernel
theorem dX4_init_33 : decode cX4_init 33 = .ok (.putfield 21, 3) := by decide +kernel
theorem dX4_init_36 : decode cX4_init 36 = .ok (.aload_n 0, 1) := by decide +kernel
theorem dX4_init_37 : decode cX4_init 37 = .ok (.iconst 0, 1) := by decide +kernel
theorem dX4_init_38 : decode cX4_init 38 = .ok (.putfield 24, 3) := by decide +kernel
theorem dX4_init_41 : decode cX4_init 41 = .ok (.aload_n 0, 1) := by decide +kernel
theorem dX4_init_42 : decode cX4_init 42 = .ok (.iconst 0, 1) := by decide +kernel
theorem dX4_init_43 : decode cX4_init 43 = .ok (.putfield 28, 3) := by decide +kernel
theorem dX4_init_46 : decode cX4_init 46 = .ok (.return_, 1) := by decide +kernel
set_option maxRecDepth 20000 in
theorem ggX4_survey_X3_topOf : GoodIn wsX4_survey wsX3_topOf := goodIn_r _ [12, 13, 14, 15, 16, 17, 11, 18, 19, 46, 47, 48, 49, 50] (by decide +kernel) (by decide +kernel)
set_option maxRecDepth 20000 in
theorem gX4_survey_X3_topOf : GoodIn wsX4_survey (wsV RX4 37 RX3 yX3_topOf wsX3_topOf) := goodIn_app (goodIn_of _ (by decide +kernel)) ggX4_survey_X3_topOf
set_option maxRecDepth 20000 in
theorem ggX4_survey_X4_linksOf : GoodIn wsX4_survey wsX4_linksOf := goodIn_r _ [24, 2, 25, 26, 27, 28, 29, 5, 30, 31, 32, 11, 33, 34, 35, 36, 37, 38, 39, 40, 41, 42, 43, 44, 13, 45, 15, 16, 17, 18, 19, 51, 52, 53, 54, 55, 56, 46, 47, 48, 49, 50] (by decide +kernel) (by decide +kernel)
set_option maxRecDepth 20000 in
theorem gX4_survey_X4_linksOf : GoodIn wsX4_survey (wsV RX4 41 RX4 yX4_linksOf wsX4_linksOf) := goodIn_app (goodIn_of _ (by decide +kernel)) ggX4_survey_X4_linksOf
theorem dX4_survey_0 : decode cX4_survey 0 = .ok (.aload_n 0, 1) := by decide +kernel
theorem dX4_survey_1 : decode cX4_survey 1 = .ok (.aload_n 1, 1) := by decide +kernel
theorem dX4_survey_2 : decode cX4_survey 2 = .ok (.getfield 31, 3) := by decide +kernel
theorem dX4_survey_5 : decode cX4_survey 5 = .ok (.putfield 24, 3) := by decide +kernel
theorem dX4_survey_8 : decode cX4_survey 8 = .ok (.aload_n 0, 1) := by decide +kernel
theorem dX4_survey_9 : decode cX4_survey 9 = .ok (.iconst 0, 1) := by decide +kernel
theorem dX4_survey_10 : decode cX4_survey 10 = .ok (.putfield 28, 3) := by decide +kernel
theorem dX4_survey_13 : decode cX4_survey 13 = .ok (.iconst 0, 1) := by decide +kernel
theorem dX4_survey_14 : decode cX4_survey 14 = .ok (.istore_n 3, 1) := by decide +kernel
theorem dX4_survey_15 : decode cX4_survey 15 = .ok (.iload_n 3, 1) := by decide +kernel
theorem dX4_survey_16 : decode cX4_survey 16 = .ok (.aload_n 0, 1) := by decide +kernel
theorem dX4_survey_17 : decode cX4_survey 17 = .ok (.getfield 24, 3) := by decide +kernel
theorem dX4_survey_20 : decode cX4_survey 20 = .ok (.if_icmp .ge 89, 3) := by decide +kernel
theorem dX4_survey_23 : decode cX4_survey 23 = .ok (.aload_n 1, 1) := by decide +kernel
theorem dX4_survey_24 : decode cX4_survey 24 = .ok (.getfield 34, 3) := by decide +kernel
theorem dX4_survey_27 : decode cX4_survey 27 = .ok (.iload_n 3, 1) := by decide +kernel
theorem dX4_survey_28 : decode cX4_survey 28 = .ok (.iaload, 1) := by decide +kernel
theorem dX4_survey_29 : decode cX4_survey 29 = .ok (.ifCond .ne 7, 3) := by decide +kernel
theorem dX4_survey_32 : decode cX4_survey 32 = .ok (.iconst 1, 1) := by decide +kernel
theorem dX4_survey_33 : decode cX4_survey 33 = .ok (.goto 4, 3) := by decide +kernel
theorem dX4_survey_36 : decode cX4_survey 36 = .ok (.iconst 0, 1) := by decide +kernel
theorem dX4_survey_37 : decode cX4_survey 37 = .ok (.istore 4, 2) := by decide +kernel
theorem dX4_survey_39 : decode cX4_survey 39 = .ok (.aload_n 0, 1) := by decide +kernel
theorem dX4_survey_40 : decode cX4_survey 40 = .ok (.getfield 9, 3) := by decide +kernel
theorem dX4_survey_43 : decode cX4_survey 43 = .ok (.iload_n 3, 1) := by decide +kernel
theorem dX4_survey_44 : decode cX4_survey 44 = .ok (.aload_n 1, 1) := by decide +kernel
theorem dX4_survey_45 : decode cX4_survey 45 = .ok (.iload_n 3, 1) := by decide +kernel
theorem dX4_survey_46 : decode cX4_survey 46 = .ok (.invokevirtual 37, 3) := by decide +kernel
theorem dX4_survey_49 : decode cX4_survey 49 = .ok (.iload 4, 2) := by decide +kernel
theorem dX4_survey_51 : decode cX4_survey 51 = .ok (.ifCond .eq 7, 3) := by decide +kernel
theorem dX4_survey_54 : decode cX4_survey 54 = .ok (.iload_n 2, 1) := by decide +kernel
theorem dX4_survey_55 : decode cX4_survey 55 = .ok (.goto 4, 3) := by decide +kernel
theorem dX4_survey_58 : decode cX4_survey 58 = .ok (.iconst 0, 1) := by decide +kernel
theorem dX4_survey_59 : decode cX4_survey 59 = .ok (.iadd, 1) := by decide +kernel
theorem dX4_survey_60 : decode cX4_survey 60 = .ok (.iastore, 1) := by decide +kernel
theorem dX4_survey_61 : decode cX4_survey 61 = .ok (.aload_n 0, 1) := by decide +kernel
theorem dX4_survey_62 : decode cX4_survey 62 = .ok (.getfield 18, 3) := by decide +kernel
theorem dX4_survey_65 : decode cX4_survey 65 = .ok (.iload_n 3, 1) := by decide +kernel
theorem dX4_survey_66 : decode cX4_survey 66 = .ok (.iload 4, 2) := by decide +kernel
theorem dX4_survey_68 : decode cX4_survey 68 = .ok (.ifCond .eq 12, 3) := by decide +kernel
theorem dX4_survey_71 : decode cX4_survey 71 = .ok (.iload_n 2, 1) := by decide +kernel
theorem dX4_survey_72 : decode cX4_survey 72 = .ok (.ifCond .le 8, 3) := by decide +kernel
theorem dX4_survey_75 : decode cX4_survey 75 = .ok (.bipush 33, 2) := by decide +kernel
theorem dX4_survey_77 : decode cX4_survey 77 = .ok (.goto 4, 3) := by decide +kernel
theorem dX4_survey_80 : decode cX4_survey 80 = .ok (.iconst 1, 1) := by decide +kernel
theorem dX4_survey_81 : decode cX4_survey 81 = .ok (.iastore, 1) := by decide +kernel
theorem dX4_survey_82 : decode cX4_survey 82 = .ok (.iload 4, 2) := by decide +kernel
theorem dX4_survey_84 : decode cX4_survey 84 = .ok (.ifCond .eq 7, 3) := by decide +kernel
theorem dX4_survey_87 : decode cX4_survey 87 = .ok (.iload_n 2, 1) := by decide +kernel
theorem dX4_survey_88 : decode cX4_survey 88 = .ok (.ifCond .le 15, 3) := by decide +kernel
theorem dX4_survey_91 : decode cX4_survey 91 = .ok (.aload_n 0, 1) := by decide +kernel
theorem dX4_survey_92 : decode cX4_survey 92 = .ok (.dup, 1) := by decide +kernel
theorem dX4_survey_93 : decode cX4_survey 93 = .ok (.getfield 28, 3) := by decide +kernel
theorem dX4_survey_96 : decode cX4_survey 96 = .ok (.iconst 1, 1) := by decide +kernel
theorem dX4_survey_97 : decode cX4_survey 97 = .ok (.iload_n 3, 1) := by decide +kernel
theorem dX4_survey_98 : decode cX4_survey 98 = .ok (.ishl, 1) := by decide +kernel
theorem dX4_survey_99 : decode cX4_survey 99 = .ok (.ior, 1) := by decide +kernel
theorem dX4_survey_100 : decode cX4_survey 100 = .ok (.putfield 28, 3) := by decide +kernel
theorem dX4_survey_103 : decode cX4_survey 103 = .ok (.iinc 3 1, 3) := by decide +kernel
theorem dX4_survey_106 : decode cX4_survey 106 = .ok (.goto (-91), 3) := by decide +kernel
theorem dX4_survey_109 : decode cX4_survey 109 = .ok (.iconst 0, 1) := by decide +kernel
theorem dX4_survey_110 : decode cX4_survey 110 = .ok (.istore_n 3, 1) := by decide +kernel
theorem dX4_survey_111 : decode cX4_survey 111 = .ok (.iload_n 3, 1) := by decide +kernel
theorem dX4_survey_112 : decode cX4_survey 112 = .ok (.aload_n 0, 1) := by decide +kernel
theorem dX4_survey_113 : decode cX4_survey 113 = .ok (.getfield 24, 3) := by decide +kernel
theorem dX4_survey_116 : decode cX4_survey 116 = .ok (.if_icmp .ge 21, 3) := by decide +kernel
theorem dX4_survey_119 : decode cX4_survey 119 = .ok (.aload_n 0, 1) := by decide +kernel
theorem dX4_survey_120 : decode cX4_survey 120 = .ok (.getfield 15, 3) := by decide +kernel
theorem dX4_survey_123 : decode cX4_survey 123 = .ok (.iload_n 3, 1) := by decide +kernel
theorem dX4_survey_124 : decode cX4_survey 124 = .ok (.aload_n 0, 1) := by decide +kernel
theorem dX4_survey_125 : decode cX4_survey 125 = .ok (.aload_n 1, 1) := by decide +kernel
theorem dX4_survey_126 : decode cX4_survey 126 = .ok (.iload_n 3, 1) := by decide +kernel
theorem dX4_survey_127 : decode cX4_survey 127 = .ok (.invokevirtual 41, 3) := by decide +kernel
theorem dX4_survey_130 : decode cX4_survey 130 = .ok (.iastore, 1) := by decide +kernel
theorem dX4_survey_131 : decode cX4_survey 131 = .ok (.iinc 3 1, 3) := by decide +kernel
theorem dX4_survey_134 : decode cX4_survey 134 = .ok (.goto (-23), 3) := by decide +kernel
theorem dX4_survey_137 : decode cX4_survey 137 = .ok (.return_, 1) := by decide +kernel
set_option maxRecDepth 20000 in
theorem ggX4_linksOf_X3_pointsSee : GoodIn wsX4_linksOf wsX3_pointsSee := goodIn_r _ [12, 13, 14, 4, 15, 16, 17, 18, 19, 20, 21, 11, 22, 23, 3, 5, 24, 25, 26, 27, 28, 29, 30, 37, 38, 39, 40, 41] (by decide +kernel) (by decide +kernel)
set_option maxRecDepth 20000 in
theorem gX4_linksOf_X3_pointsSee : GoodIn wsX4_linksOf (wsV RX4 53 RX3 yX3_pointsSee wsX3_pointsSee) := goodIn_app (goodIn_of _ (by decide +kernel)) ggX4_linksOf_X3_pointsSee
theorem dX4_linksOf_0 : decode cX4_linksOf 0 = .ok (.iconst 0, 1) := by decide +kernel
theorem dX4_linksOf_1 : decode cX4_linksOf 1 = .ok (.istore_n 3, 1) := by decide +kernel
theorem dX4_linksOf_2 : decode cX4_linksOf 2 = .ok (.iconst 0, 1) := by decide +kernel
theorem dX4_linksOf_3 : decode cX4_linksOf 3 = .ok (.istore 4, 2) := by decide +kernel
theorem dX4_linksOf_5 : decode cX4_linksOf 5 = .ok (.iload 4, 2) := by decide +kernel
theorem dX4_linksOf_7 : decode cX4_linksOf 7 = .ok (.aload_n 0, 1) := by decide +kernel
theorem dX4_linksOf_8 : decode cX4_linksOf 8 = .ok (.getfield 24, 3) := by decide +kernel
theorem dX4_linksOf_11 : decode cX4_linksOf 11 = .ok (.if_icmp .ge 71, 3) := by decide +kernel
theorem dX4_linksOf_14 : decode cX4_linksOf 14 = .ok (.iload 4, 2) := by decide +kernel
theorem dX4_linksOf_16 : decode cX4_linksOf 16 = .ok (.iload_n 2, 1) := by decide +kernel
theorem dX4_linksOf_17 : decode cX4_linksOf 17 = .ok (.if_icmp .eq 21, 3) := by decide +kernel
theorem dX4_linksOf_20 : decode cX4_linksOf 20 = .ok (.iload 4, 2) := by decide +kernel
theorem dX4_linksOf_22 : decode cX4_linksOf 22 = .ok (.iload_n 2, 1) := by decide +kernel
theorem dX4_linksOf_23 : decode cX4_linksOf 23 = .ok (.isub, 1) := by decide +kernel
theorem dX4_linksOf_24 : decode cX4_linksOf 24 = .ok (.invokestatic 45, 3) := by decide +kernel
theorem dX4_linksOf_27 : decode cX4_linksOf 27 = .ok (.aload_n 1, 1) := by decide +kernel
theorem dX4_linksOf_28 : decode cX4_linksOf 28 = .ok (.getfield 50, 3) := by decide +kernel
theorem dX4_linksOf_31 : decode cX4_linksOf 31 = .ok (.if_icmp .gt 7, 3) := by decide +kernel
theorem dX4_linksOf_34 : decode cX4_linksOf 34 = .ok (.iconst 1, 1) := by decide +kernel
theorem dX4_linksOf_35 : decode cX4_linksOf 35 = .ok (.goto 4, 3) := by decide +kernel
theorem dX4_linksOf_38 : decode cX4_linksOf 38 = .ok (.iconst 0, 1) := by decide +kernel
theorem dX4_linksOf_39 : decode cX4_linksOf 39 = .ok (.istore 5, 2) := by decide +kernel
theorem dX4_linksOf_41 : decode cX4_linksOf 41 = .ok (.iload 5, 2) := by decide +kernel
theorem dX4_linksOf_43 : decode cX4_linksOf 43 = .ok (.ifCond .eq 33, 3) := by decide +kernel
theorem dX4_linksOf_46 : decode cX4_linksOf 46 = .ok (.aload_n 1, 1) := by decide +kernel
theorem dX4_linksOf_47 : decode cX4_linksOf 47 = .ok (.iload_n 2, 1) := by decide +kernel
theorem dX4_linksOf_48 : decode cX4_linksOf 48 = .ok (.aload_n 0, 1) := by decide +kernel
theorem dX4_linksOf_49 : decode cX4_linksOf 49 = .ok (.getfield 9, 3) := by decide +kernel
theorem dX4_linksOf_52 : decode cX4_linksOf 52 = .ok (.iload_n 2, 1) := by decide +kernel
theorem dX4_linksOf_53 : decode cX4_linksOf 53 = .ok (.iaload, 1) := by decide +kernel
theorem dX4_linksOf_54 : decode cX4_linksOf 54 = .ok (.iload 4, 2) := by decide +kernel
theorem dX4_linksOf_56 : decode cX4_linksOf 56 = .ok (.aload_n 0, 1) := by decide +kernel
theorem dX4_linksOf_57 : decode cX4_linksOf 57 = .ok (.getfield 9, 3) := by decide +kernel
theorem dX4_linksOf_60 : decode cX4_linksOf 60 = .ok (.iload 4, 2) := by decide +kernel
theorem dX4_linksOf_62 : decode cX4_linksOf 62 = .ok (.iaload, 1) := by decide +kernel
theorem dX4_linksOf_63 : decode cX4_linksOf 63 = .ok (.invokevirtual 53, 3) := by decide +kernel
theorem dX4_linksOf_66 : decode cX4_linksOf 66 = .ok (.ifCond .eq 10, 3) := by decide +kernel
theorem dX4_linksOf_69 : decode cX4_linksOf 69 = .ok (.iload_n 3, 1) := by decide +kernel
theorem dX4_linksOf_70 : decode cX4_linksOf 70 = .ok (.iconst 1, 1) := by decide +kernel
theorem dX4_linksOf_71 : decode cX4_linksOf 71 = .ok (.iload 4, 2) := by decide +kernel
theorem dX4_linksOf_73 : decode cX4_linksOf 73 = .ok (.ishl, 1) := by decide +kernel
theorem dX4_linksOf_74 : decode cX4_linksOf 74 = .ok (.ior, 1) := by decide +kernel
theorem dX4_linksOf_75 : decode cX4_linksOf 75 = .ok (.istore_n 3, 1) := by decide +kernel
theorem dX4_linksOf_76 : decode cX4_linksOf 76 = .ok (.iinc 4 1, 3) := by decide +kernel
theorem dX4_linksOf_79 : decode cX4_linksOf 79 = .ok (.goto (-74), 3) := by decide +kernel
theorem dX4_linksOf_82 : decode cX4_linksOf 82 = .ok (.iload_n 3, 1) := by decide +kernel
theorem dX4_linksOf_83 : decode cX4_linksOf 83 = .ok (.ireturn, 1) := by decide +kernel
set_option maxRecDepth 20000 in
theorem ggX4_reached_X6_holds : GoodIn wsX4_reached wsX6_holds := goodIn_r _ [5] (by decide +kernel) (by decide +kernel)
set_option maxRecDepth 20000 in
theorem gX4_reached_X6_holds_n81 : GoodIn wsX4_reached (wsX6_holds) := ggX4_reached_X6_holds
theorem dX4_reached_0 : decode cX4_reached 0 = .ok (.iconst 1, 1) := by decide +kernel
theorem dX4_reached_1 : decode cX4_reached 1 = .ok (.iload_n 1, 1) := by decide +kernel
theorem dX4_reached_2 : decode cX4_reached 2 = .ok (.ishl, 1) := by decide +kernel
theorem dX4_reached_3 : decode cX4_reached 3 = .ok (.istore_n 3, 1) := by decide +kernel
theorem dX4_reached_4 : decode cX4_reached 4 = .ok (.iconst 0, 1) := by decide +kernel
theorem dX4_reached_5 : decode cX4_reached 5 = .ok (.istore 4, 2) := by decide +kernel
theorem dX4_reached_7 : decode cX4_reached 7 = .ok (.iload 4, 2) := by decide +kernel
theorem dX4_reached_9 : decode cX4_reached 9 = .ok (.aload_n 0, 1) := by decide +kernel
theorem dX4_reached_10 : decode cX4_reached 10 = .ok (.getfield 24, 3) := by decide +kernel
theorem dX4_reached_13 : decode cX4_reached 13 = .ok (.if_icmp .ge 54, 3) := by decide +kernel
theorem dX4_reached_16 : decode cX4_reached 16 = .ok (.iconst 0, 1) := by decide +kernel
theorem dX4_reached_17 : decode cX4_reached 17 = .ok (.istore 5, 2) := by decide +kernel
theorem dX4_reached_19 : decode cX4_reached 19 = .ok (.iload 5, 2) := by decide +kernel
theorem dX4_reached_21 : decode cX4_reached 21 = .ok (.aload_n 0, 1) := by decide +kernel
theorem dX4_reached_22 : decode cX4_reached 22 = .ok (.getfield 24, 3) := by decide +kernel
theorem dX4_reached_25 : decode cX4_reached 25 = .ok (.if_icmp .ge 36, 3) := by decide +kernel
theorem dX4_reached_28 : decode cX4_reached 28 = .ok (.iload 5, 2) := by decide +kernel
theorem dX4_reached_30 : decode cX4_reached 30 = .ok (.iload_n 1, 1) := by decide +kernel
theorem dX4_reached_31 : decode cX4_reached 31 = .ok (.if_icmp .eq 14, 3) := by decide +kernel
theorem dX4_reached_34 : decode cX4_reached 34 = .ok (.iload_n 3, 1) := by decide +kernel
theorem dX4_reached_35 : decode cX4_reached 35 = .ok (.iload_n 2, 1) := by decide +kernel
theorem dX4_reached_36 : decode cX4_reached 36 = .ok (.iand, 1) := by decide +kernel
theorem dX4_reached_37 : decode cX4_reached 37 = .ok (.iload 5, 2) := by decide +kernel
theorem dX4_reached_39 : decode cX4_reached 39 = .ok (.invokestatic 81, 3) := by decide +kernel
theorem dX4_reached_42 : decode cX4_reached 42 = .ok (.ifCond .eq 13, 3) := by decide +kernel
theorem dX4_reached_45 : decode cX4_reached 45 = .ok (.iload_n 3, 1) := by decide +kernel
theorem dX4_reached_46 : decode cX4_reached 46 = .ok (.aload_n 0, 1) := by decide +kernel
theorem dX4_reached_47 : decode cX4_reached 47 = .ok (.getfield 15, 3) := by decide +kernel
theorem dX4_reached_50 : decode cX4_reached 50 = .ok (.iload 5, 2) := by decide +kernel
theorem dX4_reached_52 : decode cX4_reached 52 = .ok (.iaload, 1) := by decide +kernel
theorem dX4_reached_53 : decode cX4_reached 53 = .ok (.ior, 1) := by decide +kernel
theorem dX4_reached_54 : decode cX4_reached 54 = .ok (.istore_n 3, 1) := by decide +kernel
theorem dX4_reached_55 : decode cX4_reached 55 = .ok (.iinc 5 1, 3) := by decide +kernel
theorem dX4_reached_58 : decode cX4_reached 58 = .ok (.goto (-39), 3) := by decide +kernel
theorem dX4_reached_61 : decode cX4_reached 61 = .ok (.iinc 4 1, 3) := by decide +kernel
theorem dX4_reached_64 : decode cX4_reached 64 = .ok (.goto (-57), 3) := by decide +kernel
theorem dX4_reached_67 : decode cX4_reached 67 = .ok (.iload_n 3, 1) := by decide +kernel
theorem dX4_reached_68 : decode cX4_reached 68 = .ok (.ireturn, 1) := by decide +kernel
set_option maxRecDepth 20000 in
theorem ggX4_countGroups_X6_holds : GoodIn wsX4_countGroups wsX6_holds := goodIn_r _ [4] (by decide +kernel) (by decide +kernel)
set_option maxRecDepth 20000 in
theorem gX4_countGroups_X6_holds_n81 : GoodIn wsX4_countGroups (wsX6_holds) := ggX4_countGroups_X6_holds
set_option maxRecDepth 20000 in
theorem ggX4_countGroups_X4_reached : GoodIn wsX4_countGroups wsX4_reached := goodIn_r _ [9, 1, 10, 2, 3, 4, 11, 12, 13, 14, 15, 16] (by decide +kernel) (by decide +kernel)
set_option maxRecDepth 20000 in
theorem gX4_countGroups_X4_reached : GoodIn wsX4_countGroups (wsV RX4 85 RX4 yX4_reached wsX4_reached) := goodIn_app (goodIn_of _ (by decide +kernel)) ggX4_countGroups_X4_reached
theorem dX4_countGroups_0 : decode cX4_countGroups 0 = .ok (.iconst 1, 1) := by decide +kernel
theorem dX4_countGroups_1 : decode cX4_countGroups 1 = .ok (.aload_n 0, 1) := by decide +kernel
theorem dX4_countGroups_2 : decode cX4_countGroups 2 = .ok (.getfield 24, 3) := by decide +kernel
theorem dX4_countGroups_5 : decode cX4_countGroups 5 = .ok (.ishl, 1) := by decide +kernel
theorem dX4_countGroups_6 : decode cX4_countGroups 6 = .ok (.iconst 1, 1) := by decide +kernel
theorem dX4_countGroups_7 : decode cX4_countGroups 7 = .ok (.isub, 1) := by decide +kernel
theorem dX4_countGroups_8 : decode cX4_countGroups 8 = .ok (.istore_n 1, 1) := by decide +kernel
theorem dX4_countGroups_9 : decode cX4_countGroups 9 = .ok (.iconst 0, 1) := by decide +kernel
theorem dX4_countGroups_10 : decode cX4_countGroups 10 = .ok (.istore_n 2, 1) := by decide +kernel
theorem dX4_countGroups_11 : decode cX4_countGroups 11 = .ok (.iconst 0, 1) := by decide +kernel
theorem dX4_countGroups_12 : decode cX4_countGroups 12 = .ok (.istore_n 3, 1) := by decide +kernel
theorem dX4_countGroups_13 : decode cX4_countGroups 13 = .ok (.iconst 0, 1) := by decide +kernel
theorem dX4_countGroups_14 : decode cX4_countGroups 14 = .ok (.istore 4, 2) := by decide +kernel
theorem dX4_countGroups_16 : decode cX4_countGroups 16 = .ok (.iload 4, 2) := by decide +kernel
theorem dX4_countGroups_18 : decode cX4_countGroups 18 = .ok (.aload_n 0, 1) := by decide +kernel
theorem dX4_countGroups_19 : decode cX4_countGroups 19 = .ok (.getfield 24, 3) := by decide +kernel
theorem dX4_countGroups_22 : decode cX4_countGroups 22 = .ok (.if_icmp .ge 31, 3) := by decide +kernel
theorem dX4_countGroups_25 : decode cX4_countGroups 25 = .ok (.iload_n 2, 1) := by decide +kernel
theorem dX4_countGroups_26 : decode cX4_countGroups 26 = .ok (.iload 4, 2) := by decide +kernel
theorem dX4_countGroups_28 : decode cX4_countGroups 28 = .ok (.invokestatic 81, 3) := by decide +kernel
theorem dX4_countGroups_31 : decode cX4_countGroups 31 = .ok (.ifCond .ne 16, 3) := by decide +kernel
theorem dX4_countGroups_34 : decode cX4_countGroups 34 = .ok (.iload_n 2, 1) := by decide +kernel
theorem dX4_countGroups_35 : decode cX4_countGroups 35 = .ok (.aload_n 0, 1) := by decide +kernel
theorem dX4_countGroups_36 : decode cX4_countGroups 36 = .ok (.iload 4, 2) := by decide +kernel
theorem dX4_countGroups_38 : decode cX4_countGroups 38 = .ok (.iload_n 1, 1) := by decide +kernel
theorem dX4_countGroups_39 : decode cX4_countGroups 39 = .ok (.invokevirtual 85, 3) := by decide +kernel
theorem dX4_countGroups_42 : decode cX4_countGroups 42 = .ok (.ior, 1) := by decide +kernel
theorem dX4_countGroups_43 : decode cX4_countGroups 43 = .ok (.istore_n 2, 1) := by decide +kernel
theorem dX4_countGroups_44 : decode cX4_countGroups 44 = .ok (.iinc 3 1, 3) := by decide +kernel
theorem dX4_countGroups_47 : decode cX4_countGroups 47 = .ok (.iinc 4 1, 3) := by decide +kernel
theorem dX4_countGroups_50 : decode cX4_countGroups 50 = .ok (.goto (-34), 3) := by decide +kernel
theorem dX4_countGroups_53 : decode cX4_countGroups 53 = .ok (.iload_n 3, 1) := by decide +kernel
theorem dX4_countGroups_54 : decode cX4_countGroups 54 = .ok (.ireturn, 1) := by decide +kernel
theorem dX5_init_0 : decode cX5_init 0 = .ok (.aload_n 0, 1) := by decide +kernel
theorem dX5_init_1 : decode cX5_init 1 = .ok (.invokespecial 3, 3) := by decide +kernel
theorem dX5_init_4 : decode cX5_init 4 = .ok (.aload_n 0, 1) := by decide +kernel
theorem dX5_init_5 : decode cX5_init 5 = .ok (.bipush 120, 2) := by decide +kernel
theorem dX5_init_7 : decode cX5_init 7 = .ok (.newarray .byte, 2) := by decide +kernel
theorem dX5_init_9 : decode cX5_init 9 = .ok (.putfield 9, 3) := by decide +kernel
theorem dX5_init_12 : decode cX5_init 12 = .ok (.aload_n 0, 1) := by decide +kernel
theorem dX5_init_13 : decode cX5_init 13 = .ok (.iconst 0, 1) := by decide +kernel
theorem dX5_init_14 : decode cX5_init 14 = .ok (.putfield 15, 3) := by decide +kernel
theorem dX5_init_17 : decode cX5_init 17 = .ok (.aload_n 0, 1) := by decide +kernel
theorem dX5_init_18 : decode cX5_init 18 = .ok (.iconst 0, 1) := by decide +kernel
theorem dX5_init_19 : decode cX5_init 19 = .ok (.putfield 19, 3) := by decide +kernel
theorem dX5_init_22 : decode cX5_init 22 = .ok (.aload_n 0, 1) := by decide +kernel
theorem dX5_init_23 : decode cX5_init 23 = .ok (.iconst (-1), 1) := by decide +kernel
theorem dX5_init_24 : decode cX5_init 24 = .ok (.putfield 22, 3) := by decide +kernel
theorem dX5_init_27 : decode cX5_init 27 = .ok (.return_, 1) := by decide +kernel
set_option maxRecDepth 20000 in
theorem ggX6_init_X3_init : GoodIn wsX6_init wsX3_init := goodIn_r _ [30, 31, 2, 3, 32, 33, 34, 35, 36, 37, 73, 74, 75, 76, 77] (by decide +kernel) (by decide +kernel)
set_option maxRecDepth 20000 in
theorem gX6_init_X3_init_n9 : GoodIn wsX6_init (wsX3_init) := ggX6_init_X3_init
set_option maxRecDepth 20000 in
theorem ggX6_init_X2_init : GoodIn wsX6_init wsX2_init := goodIn_r _ [40, 41, 2, 3, 42, 43, 44, 45, 5, 6, 29, 30, 31, 32, 33, 34, 35, 36, 37, 85, 86, 87, 73, 74, 75, 76, 77] (by decide +kernel) (by decide +kernel)
set_option maxRecDepth 20000 in
theorem gX6_init_X2_init : GoodIn wsX6_init (wsX2_init) := ggX6_init_X2_init
set_option maxRecDepth 20000 in
theorem ggX6_init_X5_init : GoodIn wsX6_init wsX5_init := goodIn_r _ [47, 48, 2, 3, 49, 50, 51, 52, 53, 88, 89, 90, 91] (by decide +kernel) (by decide +kernel)
set_option maxRecDepth 20000 in
theorem gX6_init_X5_init_n28 : GoodIn wsX6_init (wsX5_init) := ggX6_init_X5_init
set_option maxRecDepth 20000 in
theorem ggX6_init_X1_init : GoodIn wsX6_init wsX1_init := goodIn_r _ [55, 56, 2, 3, 32, 57, 58, 92, 93] (by decide +kernel) (by decide +kernel)
set_option maxRecDepth 20000 in
theorem gX6_init_X1_init_n35 : GoodIn wsX6_init (wsX1_init) := ggX6_init_X1_init
set_option maxRecDepth 20000 in
theorem ggX6_init_X4_init : GoodIn wsX6_init wsX4_init := goodIn_r _ [60, 61, 2, 3, 32, 62, 63, 64, 65, 66, 67, 94, 95, 96, 97, 98, 99] (by decide +kernel) (by decide +kernel)
set_option maxRecDepth 20000 in
theorem gX6_init_X4_init_n42 : GoodIn wsX6_init (wsX4_init) := ggX6_init_X4_init
set_option maxRecDepth 20000 in
theorem ggX6_init_X0_init : GoodIn wsX6_init wsX0_init := goodIn_r _ [69, 70, 2, 3, 32, 71, 72, 100, 101] (by decide +kernel) (by decide +kernel)
set_option maxRecDepth 20000 in
theorem gX6_init_X0_init_n49 : GoodIn wsX6_init (wsX0_init) := ggX6_init_X0_init
theorem dX6_init_0 : decode cX6_init 0 = .ok (.aload_n 0, 1) := by decide +kernel
theorem dX6_init_1 : decode cX6_init 1 = .ok (.invokespecial 1, 3) := by decide +kernel
theorem dX6_init_4 : decode cX6_init 4 = .ok (.aload_n 0, 1) := by decide +kernel
theorem dX6_init_5 : decode cX6_init 5 = .ok (.new 7, 3) := by decide +kernel
theorem dX6_init_8 : decode cX6_init 8 = .ok (.dup, 1) := by decide +kernel
theorem dX6_init_9 : decode cX6_init 9 = .ok (.invokespecial 9, 3) := by decide +kernel
theorem dX6_init_12 : decode cX6_init 12 = .ok (.putfield 10, 3) := by decide +kernel
theorem dX6_init_15 : decode cX6_init 15 = .ok (.aload_n 0, 1) := by decide +kernel
theorem dX6_init_16 : decode cX6_init 16 = .ok (.new 7, 3) := by decide +kernel
theorem dX6_init_19 : decode cX6_init 19 = .ok (.dup, 1) := by decide +kernel
theorem dX6_init_20 : decode cX6_init 20 = .ok (.invokespecial 9, 3) := by decide +kernel
theorem dX6_init_23 : decode cX6_init 23 = .ok (.putfield 16, 3) := by decide +kernel
theorem dX6_init_26 : decode cX6_init 26 = .ok (.aload_n 0, 1) := by decide +kernel
theorem dX6_init_27 : decode cX6_init 27 = .ok (.new 19, 3) := by decide +kernel
theorem dX6_init_30 : decode cX6_init 30 = .ok (.dup, 1) := by decide +kernel
theorem dX6_init_31 : decode cX6_init 31 = .ok (.invokespecial 21, 3) := by decide +kernel
theorem dX6_init_34 : decode cX6_init 34 = .ok (.putfield 22, 3) := by decide +kernel
theorem dX6_init_37 : decode cX6_init 37 = .ok (.aload_n 0, 1) := by decide +kernel
theorem dX6_init_38 : decode cX6_init 38 = .ok (.new 26, 3) := by decide +kernel
theorem dX6_init_41 : decode cX6_init 41 = .ok (.dup, 1) := by decide +kernel
theorem dX6_init_42 : decode cX6_init 42 = .ok (.invokespecial 28, 3) := by decide +kernel
theorem dX6_init_45 : decode cX6_init 45 = .ok (.putfield 29, 3) := by decide +kernel
theorem dX6_init_48 : decode cX6_init 48 = .ok (.aload_n 0, 1) := by decide +kernel
theorem dX6_init_49 : decode cX6_init 49 = .ok (.new 33, 3) := by decide +kernel
theorem dX6_init_52 : decode cX6_init 52 = .ok (.dup, 1) := by decide +kernel
theorem dX6_init_53 : decode cX6_init 53 = .ok (.invokespecial 35, 3) := by decide +kernel
theorem dX6_init_56 : decode cX6_init 56 = .ok (.putfield 36, 3) := by decide +kernel
theorem dX6_init_59 : decode cX6_init 59 = .ok (.aload_n 0, 1) := by decide +kernel
theorem dX6_init_60 : decode cX6_init 60 = .ok (.new 40, 3) := by decide +kernel
theorem dX6_init_63 : decode cX6_init 63 = .ok (.dup, 1) := by decide +kernel
theorem dX6_init_64 : decode cX6_init 64 = .ok (.invokespecial 42, 3) := by decide +kernel
theorem dX6_init_67 : decode cX6_init 67 = .ok (.putfield 43, 3) := by decide +kernel
theorem dX6_init_70 : decode cX6_init 70 = .ok (.aload_n 0, 1) := by decide +kernel
theorem dX6_init_71 : decode cX6_init 71 = .ok (.new 47, 3) := by decide +kernel
theorem dX6_init_74 : decode cX6_init 74 = .ok (.dup, 1) := by decide +kernel
theorem dX6_init_75 : decode cX6_init 75 = .ok (.invokespecial 49, 3) := by decide +kernel
theorem dX6_init_78 : decode cX6_init 78 = .ok (.putfield 50, 3) := by decide +kernel
theorem dX6_init_81 : decode cX6_init 81 = .ok (.return_, 1) := by decide +kernel
set_option maxRecDepth 20000 in
theorem ggX6_reset_X6_within : GoodIn wsX6_reset wsX6_within := goodIn_r _ [6] (by decide +kernel) (by decide +kernel)
set_option maxRecDepth 20000 in
theorem gX6_reset_X6_within : GoodIn wsX6_reset (va_wsS RX6 54 yX6_within wsX6_within) := goodIn_app (goodIn_of _ (by decide +kernel)) ggX6_reset_X6_within
set_option maxRecDepth 20000 in
theorem ggX6_reset_X2_keep : GoodIn wsX6_reset wsX2_keep := goodIn_r _ [11, 12, 13, 14, 15, 16, 17, 18, 19, 20, 21, 22, 23, 24, 25, 26, 27, 28, 29, 30, 31, 32, 48, 49, 50, 51, 52, 53, 54, 55] (by decide +kernel) (by decide +kernel)
set_option maxRecDepth 20000 in
theorem gX6_reset_X2_keep : GoodIn wsX6_reset (wsV RX6 58 RX2 yX2_keep wsX2_keep) := goodIn_app (goodIn_of _ (by decide +kernel)) ggX6_reset_X2_keep
set_option maxRecDepth 20000 in
theorem ggX6_reset_X3_clear : GoodIn wsX6_reset wsX3_clear := goodIn_r _ [36, 30, 51, 52, 53, 54, 55] (by decide +kernel) (by decide +kernel)
set_option maxRecDepth 20000 in
theorem gX6_reset_X3_clear : GoodIn wsX6_reset (wsV RX6 62 RX3 yX3_clear wsX3_clear) := goodIn_app (goodIn_of _ (by decide +kernel)) ggX6_reset_X3_clear
set_option maxRecDepth 20000 in
theorem ggX6_reset_X3_append : GoodIn wsX6_reset wsX3_append := goodIn_r _ [40, 30, 31, 32, 51, 52, 53, 54, 55] (by decide +kernel) (by decide +kernel)
set_option maxRecDepth 20000 in
theorem gX6_reset_X3_append : GoodIn wsX6_reset (wsV RX6 65 RX3 yX3_append wsX3_append) := goodIn_app (goodIn_of _ (by decide +kernel)) ggX6_reset_X3_append
theorem dX6_reset_0 : decode cX6_reset 0 = .ok (.iload_n 1, 1) := by decide +kernel
theorem dX6_reset_1 : decode cX6_reset 1 = .ok (.iconst 2, 1) := by decide +kernel
theorem dX6_reset_2 : decode cX6_reset 2 = .ok (.bipush 20, 2) := by decide +kernel
theorem dX6_reset_4 : decode cX6_reset 4 = .ok (.invokestatic 54, 3) := by decide +kernel
theorem dX6_reset_7 : decode cX6_reset 7 = .ok (.ifCond .eq 14, 3) := by decide +kernel
theorem dX6_reset_10 : decode cX6_reset 10 = .ok (.iload_n 2, 1) := by decide +kernel
theorem dX6_reset_11 : decode cX6_reset 11 = .ok (.iconst 0, 1) := by decide +kernel
theorem dX6_reset_12 : decode cX6_reset 12 = .ok (.sipush 999, 3) := by decide +kernel
theorem dX6_reset_15 : decode cX6_reset 15 = .ok (.invokestatic 54, 3) := by decide +kernel
theorem dX6_reset_18 : decode cX6_reset 18 = .ok (.ifCond .ne 6, 3) := by decide +kernel
theorem dX6_reset_21 : decode cX6_reset 21 = .ok (.bipush (-2), 2) := by decide +kernel
theorem dX6_reset_23 : decode cX6_reset 23 = .ok (.ireturn, 1) := by decide +kernel
theorem dX6_reset_24 : decode cX6_reset 24 = .ok (.aload_n 0, 1) := by decide +kernel
theorem dX6_reset_25 : decode cX6_reset 25 = .ok (.getfield 22, 3) := by decide +kernel
theorem dX6_reset_28 : decode cX6_reset 28 = .ok (.aload_n 0, 1) := by decide +kernel
theorem dX6_reset_29 : decode cX6_reset 29 = .ok (.getfield 10, 3) := by decide +kernel
theorem dX6_reset_32 : decode cX6_reset 32 = .ok (.invokevirtual 58, 3) := by decide +kernel
theorem dX6_reset_35 : decode cX6_reset 35 = .ok (.aload_n 0, 1) := by decide +kernel
theorem dX6_reset_36 : decode cX6_reset 36 = .ok (.getfield 10, 3) := by decide +kernel
theorem dX6_reset_39 : decode cX6_reset 39 = .ok (.invokevirtual 62, 3) := by decide +kernel
theorem dX6_reset_42 : decode cX6_reset 42 = .ok (.aload_n 0, 1) := by decide +kernel
theorem dX6_reset_43 : decode cX6_reset 43 = .ok (.getfield 10, 3) := by decide +kernel
theorem dX6_reset_46 : decode cX6_reset 46 = .ok (.iload_n 1, 1) := by decide +kernel
theorem dX6_reset_47 : decode cX6_reset 47 = .ok (.iload_n 2, 1) := by decide +kernel
theorem dX6_reset_48 : decode cX6_reset 48 = .ok (.iconst 0, 1) := by decide +kernel
theorem dX6_reset_49 : decode cX6_reset 49 = .ok (.invokevirtual 65, 3) := by decide +kernel
theorem dX6_reset_52 : decode cX6_reset 52 = .ok (.iload_n 1, 1) := by decide +kernel
theorem dX6_reset_53 : decode cX6_reset 53 = .ok (.ireturn, 1) := by decide +kernel
set_option maxRecDepth 20000 in
theorem ggX6_setGround_X3_has : GoodIn wsX6_setGround wsX3_has := goodIn_r _ [8, 9, 45, 46, 47, 48, 49] (by decide +kernel) (by decide +kernel)
set_option maxRecDepth 20000 in
theorem gX6_setGround_X3_has : GoodIn wsX6_setGround (wsV RX6 69 RX3 yX3_has wsX3_has) := goodIn_app (goodIn_of _ (by decide +kernel)) ggX6_setGround_X3_has
set_option maxRecDepth 20000 in
theorem ggX6_setGround_X6_within : GoodIn wsX6_setGround wsX6_within := goodIn_r _ [13] (by decide +kernel) (by decide +kernel)
set_option maxRecDepth 20000 in
theorem gX6_setGround_X6_within : GoodIn wsX6_setGround (va_wsS RX6 54 yX6_within wsX6_within) := goodIn_app (goodIn_of _ (by decide +kernel)) ggX6_setGround_X6_within
set_option maxRecDepth 20000 in
theorem ggX6_setGround_X2_keep : GoodIn wsX6_setGround wsX2_keep := goodIn_r _ [18, 19, 20, 21, 22, 23, 24, 25, 26, 27, 28, 7, 29, 30, 31, 32, 33, 34, 35, 9, 36, 37, 50, 51, 52, 45, 46, 47, 48, 49] (by decide +kernel) (by decide +kernel)
set_option maxRecDepth 20000 in
theorem gX6_setGround_X2_keep : GoodIn wsX6_setGround (wsV RX6 58 RX2 yX2_keep wsX2_keep) := goodIn_app (goodIn_of _ (by decide +kernel)) ggX6_setGround_X2_keep
theorem dX6_setGround_0 : decode cX6_setGround 0 = .ok (.aload_n 0, 1) := by decide +kernel
theorem dX6_setGround_1 : decode cX6_setGround 1 = .ok (.getfield 10, 3) := by decide +kernel
theorem dX6_setGround_4 : decode cX6_setGround 4 = .ok (.iload_n 1, 1) := by decide +kernel
theorem dX6_setGround_5 : decode cX6_setGround 5 = .ok (.invokevirtual 69, 3) := by decide +kernel
theorem dX6_setGround_8 : decode cX6_setGround 8 = .ok (.ifCond .eq 14, 3) := by decide +kernel
theorem dX6_setGround_11 : decode cX6_setGround 11 = .ok (.iload_n 2, 1) := by decide +kernel
theorem dX6_setGround_12 : decode cX6_setGround 12 = .ok (.iconst 0, 1) := by decide +kernel
theorem dX6_setGround_13 : decode cX6_setGround 13 = .ok (.sipush 999, 3) := by decide +kernel
theorem dX6_setGround_16 : decode cX6_setGround 16 = .ok (.invokestatic 54, 3) := by decide +kernel
theorem dX6_setGround_19 : decode cX6_setGround 19 = .ok (.ifCond .ne 6, 3) := by decide +kernel
theorem dX6_setGround_22 : decode cX6_setGround 22 = .ok (.bipush (-2), 2) := by decide +kernel
theorem dX6_setGround_24 : decode cX6_setGround 24 = .ok (.ireturn, 1) := by decide +kernel
theorem dX6_setGround_25 : decode cX6_setGround 25 = .ok (.aload_n 0, 1) := by decide +kernel
theorem dX6_setGround_26 : decode cX6_setGround 26 = .ok (.getfield 22, 3) := by decide +kernel
theorem dX6_setGround_29 : decode cX6_setGround 29 = .ok (.aload_n 0, 1) := by decide +kernel
theorem dX6_setGround_30 : decode cX6_setGround 30 = .ok (.getfield 10, 3) := by decide +kernel
theorem dX6_setGround_33 : decode cX6_setGround 33 = .ok (.invokevirtual 58, 3) := by decide +kernel
theorem dX6_setGround_36 : decode cX6_setGround 36 = .ok (.aload_n 0, 1) := by decide +kernel
theorem dX6_setGround_37 : decode cX6_setGround 37 = .ok (.getfield 10, 3) := by decide +kernel
theorem dX6_setGround_40 : decode cX6_setGround 40 = .ok (.getfield 73, 3) := by decide +kernel
theorem dX6_setGround_43 : decode cX6_setGround 43 = .ok (.iload_n 1, 1) := by decide +kernel
theorem dX6_setGround_44 : decode cX6_setGround 44 = .ok (.iaload, 1) := by decide +kernel
theorem dX6_setGround_45 : decode cX6_setGround 45 = .ok (.istore_n 3, 1) := by decide +kernel
theorem dX6_setGround_46 : decode cX6_setGround 46 = .ok (.aload_n 0, 1) := by decide +kernel
theorem dX6_setGround_47 : decode cX6_setGround 47 = .ok (.getfield 10, 3) := by decide +kernel
theorem dX6_setGround_50 : decode cX6_setGround 50 = .ok (.getfield 73, 3) := by decide +kernel
theorem dX6_setGround_53 : decode cX6_setGround 53 = .ok (.iload_n 1, 1) := by decide +kernel
theorem dX6_setGround_54 : decode cX6_setGround 54 = .ok (.iload_n 2, 1) := by decide +kernel
theorem dX6_setGround_55 : decode cX6_setGround 55 = .ok (.iastore, 1) := by decide +kernel
theorem dX6_setGround_56 : decode cX6_setGround 56 = .ok (.iload_n 3, 1) := by decide +kernel
theorem dX6_setGround_57 : decode cX6_setGround 57 = .ok (.ireturn, 1) := by decide +kernel
set_option maxRecDepth 20000 in
theorem ggX6_slope_X3_has : GoodIn wsX6_slope wsX3_has := goodIn_r _ [7, 8, 45, 46, 47, 48, 49] (by decide +kernel) (by decide +kernel)
