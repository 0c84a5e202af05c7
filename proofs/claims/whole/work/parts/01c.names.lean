theorem dX4_notToBeMissed_0 : decode cX4_notToBeMissed 0 = .ok (.iconst 0, 1) := by decide +kernel
theorem dX4_notToBeMissed_1 : decode cX4_notToBeMissed 1 = .ok (.istore_n 3, 1) := by decide +kernel
theorem dX4_notToBeMissed_2 : decode cX4_notToBeMissed 2 = .ok (.iconst 0, 1) := by decide +kernel
theorem dX4_notToBeMissed_3 : decode cX4_notToBeMissed 3 = .ok (.istore 4, 2) := by decide +kernel
theorem dX4_notToBeMissed_5 : decode cX4_notToBeMissed 5 = .ok (.iload 4, 2) := by decide +kernel
theorem dX4_notToBeMissed_7 : decode cX4_notToBeMissed 7 = .ok (.aload_n 0, 1) := by decide +kernel
theorem dX4_notToBeMissed_8 : decode cX4_notToBeMissed 8 = .ok (.getfield 24, 3) := by decide +kernel
theorem dX4_notToBeMissed_11 : decode cX4_notToBeMissed 11 = .ok (.if_icmp .ge 72, 3) := by decide +kernel
theorem dX4_notToBeMissed_14 : decode cX4_notToBeMissed 14 = .ok (.iload 4, 2) := by decide +kernel
theorem dX4_notToBeMissed_16 : decode cX4_notToBeMissed 16 = .ok (.iload_n 1, 1) := by decide +kernel
theorem dX4_notToBeMissed_17 : decode cX4_notToBeMissed 17 = .ok (.if_icmp .eq 25, 3) := by decide +kernel
theorem dX4_notToBeMissed_20 : decode cX4_notToBeMissed 20 = .ok (.iload 4, 2) := by decide +kernel
theorem dX4_notToBeMissed_22 : decode cX4_notToBeMissed 22 = .ok (.iload_n 2, 1) := by decide +kernel
theorem dX4_notToBeMissed_23 : decode cX4_notToBeMissed 23 = .ok (.if_icmp .eq 19, 3) := by decide +kernel
theorem dX4_notToBeMissed_26 : decode cX4_notToBeMissed 26 = .ok (.aload_n 0, 1) := by decide +kernel
theorem dX4_notToBeMissed_27 : decode cX4_notToBeMissed 27 = .ok (.getfield 28, 3) := by decide +kernel
theorem dX4_notToBeMissed_30 : decode cX4_notToBeMissed 30 = .ok (.iload 4, 2) := by decide +kernel
theorem dX4_notToBeMissed_32 : decode cX4_notToBeMissed 32 = .ok (.invokestatic 81, 3) := by decide +kernel
theorem dX4_notToBeMissed_35 : decode cX4_notToBeMissed 35 = .ok (.ifCond .eq 7, 3) := by decide +kernel
theorem dX4_notToBeMissed_38 : decode cX4_notToBeMissed 38 = .ok (.iconst 1, 1) := by decide +kernel
theorem dX4_notToBeMissed_39 : decode cX4_notToBeMissed 39 = .ok (.goto 4, 3) := by decide +kernel
theorem dX4_notToBeMissed_42 : decode cX4_notToBeMissed 42 = .ok (.iconst 0, 1) := by decide +kernel
theorem dX4_notToBeMissed_43 : decode cX4_notToBeMissed 43 = .ok (.istore 5, 2) := by decide +kernel
theorem dX4_notToBeMissed_45 : decode cX4_notToBeMissed 45 = .ok (.iload 5, 2) := by decide +kernel
theorem dX4_notToBeMissed_47 : decode cX4_notToBeMissed 47 = .ok (.ifCond .eq 30, 3) := by decide +kernel
theorem dX4_notToBeMissed_50 : decode cX4_notToBeMissed 50 = .ok (.aload_n 0, 1) := by decide +kernel
theorem dX4_notToBeMissed_51 : decode cX4_notToBeMissed 51 = .ok (.iload_n 1, 1) := by decide +kernel
theorem dX4_notToBeMissed_52 : decode cX4_notToBeMissed 52 = .ok (.iload_n 2, 1) := by decide +kernel
theorem dX4_notToBeMissed_53 : decode cX4_notToBeMissed 53 = .ok (.aload_n 0, 1) := by decide +kernel
theorem dX4_notToBeMissed_54 : decode cX4_notToBeMissed 54 = .ok (.getfield 28, 3) := by decide +kernel
theorem dX4_notToBeMissed_57 : decode cX4_notToBeMissed 57 = .ok (.iconst 1, 1) := by decide +kernel
theorem dX4_notToBeMissed_58 : decode cX4_notToBeMissed 58 = .ok (.iload 4, 2) := by decide +kernel
theorem dX4_notToBeMissed_60 : decode cX4_notToBeMissed 60 = .ok (.ishl, 1) := by decide +kernel
theorem dX4_notToBeMissed_61 : decode cX4_notToBeMissed 61 = .ok (.iconst (-1), 1) := by decide +kernel
theorem dX4_notToBeMissed_62 : decode cX4_notToBeMissed 62 = .ok (.ixor, 1) := by decide +kernel
theorem dX4_notToBeMissed_63 : decode cX4_notToBeMissed 63 = .ok (.iand, 1) := by decide +kernel
theorem dX4_notToBeMissed_64 : decode cX4_notToBeMissed 64 = .ok (.invokevirtual 88, 3) := by decide +kernel
theorem dX4_notToBeMissed_67 : decode cX4_notToBeMissed 67 = .ok (.ifCond .ne 10, 3) := by decide +kernel
theorem dX4_notToBeMissed_70 : decode cX4_notToBeMissed 70 = .ok (.iload_n 3, 1) := by decide +kernel
theorem dX4_notToBeMissed_71 : decode cX4_notToBeMissed 71 = .ok (.iconst 1, 1) := by decide +kernel
theorem dX4_notToBeMissed_72 : decode cX4_notToBeMissed 72 = .ok (.iload 4, 2) := by decide +kernel
theorem dX4_notToBeMissed_74 : decode cX4_notToBeMissed 74 = .ok (.ishl, 1) := by decide +kernel
theorem dX4_notToBeMissed_75 : decode cX4_notToBeMissed 75 = .ok (.ior, 1) := by decide +kernel
theorem dX4_notToBeMissed_76 : decode cX4_notToBeMissed 76 = .ok (.istore_n 3, 1) := by decide +kernel
theorem dX4_notToBeMissed_77 : decode cX4_notToBeMissed 77 = .ok (.iinc 4 1, 3) := by decide +kernel
theorem dX4_notToBeMissed_80 : decode cX4_notToBeMissed 80 = .ok (.goto (-75), 3) := by decide +kernel
theorem dX4_notToBeMissed_83 : decode cX4_notToBeMissed 83 = .ok (.iload_n 3, 1) := by decide +kernel
theorem dX4_notToBeMissed_84 : decode cX4_notToBeMissed 84 = .ok (.ireturn, 1) := by decide +kernel
set_option maxRecDepth 20000 in
theorem ggX4_countGroups_X6_holds : GoodIn wsX4_countGroups wsX6_holds := goodIn_r _ [4] (by decide +kernel) (by decide +kernel)
set_option maxRecDepth 20000 in
theorem gX4_countGroups_X6_holds_n81 : GoodIn wsX4_countGroups (wsX6_holds) := ggX4_countGroups_X6_holds
set_option maxRecDepth 20000 in
theorem ggX4_countGroups_X4_reached : GoodIn wsX4_countGroups wsX4_reached := goodIn_r _ [9, 1, 10, 2, 3, 4, 11, 12, 13, 14, 15, 16] (by decide +kernel) (by decide +kernel)
set_option maxRecDepth 20000 in
theorem gX4_countGroups_X4_reached : GoodIn wsX4_countGroups (wsV RX4 85 RX4 yX4_reached wsX4_reached) := goodIn_app (goodIn_of _ (by decide +kernel)) ggX4_countGroups_X4_reached
theorem dX4_countGroups_0 : decode cX4_countGroups 0 = .ok (.iconst 1, 1) := by decide +kernel
theorem dX4_countGroups_1 : decode cX4_countGroups 1 = .ok (.aload_n 0, 1) := by decide +kernel
theorem dX4_countGroups_2 : decode cX4_countGroups 2 = .ok (.getfield 24, 3) := by decide +kernel
theorem dX4_countGroups_5 : decode cX4_countGroups 5 = .ok (.ishl, 1) := by decide +kernel
theorem dX4_countGroups_6 : decode cX4_countGroups 6 = .ok (.iconst 1, 1) := by decide +kernel
theorem dX4_countGroups_7 : decode cX4_countGroups 7 = .ok (.isub, 1) := by decide +kernel
theorem dX4_countGroups_8 : decode cX4_countGroups 8 = .ok (.istore_n 1, 1) := by decide +kernel
theorem dX4_countGroups_9 : decode cX4_countGroups 9 = .ok (.iconst 0, 1) := by decide +kernel
theorem dX4_countGroups_10 : decode cX4_countGroups 10 = .ok (.istore_n 2, 1) := by decide +kernel
theorem dX4_countGroups_11 : decode cX4_countGroups 11 = .ok (.iconst 0, 1) := by decide +kernel
theorem dX4_countGroups_12 : decode cX4_countGroups 12 = .ok (.istore_n 3, 1) := by decide +kernel
theorem dX4_countGroups_13 : decode cX4_countGroups 13 = .ok (.iconst 0, 1) := by decide +kernel
theorem dX4_countGroups_14 : decode cX4_countGroups 14 = .ok (.istore 4, 2) := by decide +kernel
theorem dX4_countGroups_16 : decode cX4_countGroups 16 = .ok (.iload 4, 2) := by decide +kernel
theorem dX4_countGroups_18 : decode cX4_countGroups 18 = .ok (.aload_n 0, 1) := by decide +kernel
theorem dX4_countGroups_19 : decode cX4_countGroups 19 = .ok (.getfield 24, 3) := by decide +kernel
theorem dX4_countGroups_22 : decode cX4_countGroups 22 = .ok (.if_icmp .ge 31, 3) := by decide +kernel
theorem dX4_countGroups_25 : decode cX4_countGroups 25 = .ok (.iload_n 2, 1) := by decide +kernel
theorem dX4_countGroups_26 : decode cX4_countGroups 26 = .ok (.iload 4, 2) := by decide +kernel
theorem dX4_countGroups_28 : decode cX4_countGroups 28 = .ok (.invokestatic 81, 3) := by decide +kernel
theorem dX4_countGroups_31 : decode cX4_countGroups 31 = .ok (.ifCond .ne 16, 3) := by decide +kernel
theorem dX4_countGroups_34 : decode cX4_countGroups 34 = .ok (.iload_n 2, 1) := by decide +kernel
theorem dX4_countGroups_35 : decode cX4_countGroups 35 = .ok (.aload_n 0, 1) := by decide +kernel
theorem dX4_countGroups_36 : decode cX4_countGroups 36 = .ok (.iload 4, 2) := by decide +kernel
theorem dX4_countGroups_38 : decode cX4_countGroups 38 = .ok (.iload_n 1, 1) := by decide +kernel
theorem dX4_countGroups_39 : decode cX4_countGroups 39 = .ok (.invokevirtual 85, 3) := by decide +kernel
theorem dX4_countGroups_42 : decode cX4_countGroups 42 = .ok (.ior, 1) := by decide +kernel
theorem dX4_countGroups_43 : decode cX4_countGroups 43 = .ok (.istore_n 2, 1) := by decide +kernel
theorem dX4_countGroups_44 : decode cX4_countGroups 44 = .ok (.iinc 3 1, 3) := by decide +kernel
theorem dX4_countGroups_47 : decode cX4_countGroups 47 = .ok (.iinc 4 1, 3) := by decide +kernel
theorem dX4_countGroups_50 : decode cX4_countGroups 50 = .ok (.goto (-34), 3) := by decide +kernel
theorem dX4_countGroups_53 : decode cX4_countGroups 53 = .ok (.iload_n 3, 1) := by decide +kernel
theorem dX4_countGroups_54 : decode cX4_countGroups 54 = .ok (.ireturn, 1) := by decide +kernel
theorem dX5_init_0 : decode cX5_init 0 = .ok (.aload_n 0, 1) := by decide +kernel
theorem dX5_init_1 : decode cX5_init 1 = .ok (.invokespecial 3, 3) := by decide +kernel
theorem dX5_init_4 : decode cX5_init 4 = .ok (.aload_n 0, 1) := by decide +kernel
theorem dX5_init_5 : decode cX5_init 5 = .ok (.bipush 120, 2) := by decide +kernel
theorem dX5_init_7 : decode cX5_init 7 = .ok (.newarray .byte, 2) := by decide +kernel
theorem dX5_init_9 : decode cX5_init 9 = .ok (.putfield 9, 3) := by decide +kernel
theorem dX5_init_12 : decode cX5_init 12 = .ok (.aload_n 0, 1) := by decide +kernel
theorem dX5_init_13 : decode cX5_init 13 = .ok (.iconst 0, 1) := by decide +kernel
theorem dX5_init_14 : decode cX5_init 14 = .ok (.putfield 15, 3) := by decide +kernel
theorem dX5_init_17 : decode cX5_init 17 = .ok (.aload_n 0, 1) := by decide +kernel
theorem dX5_init_18 : decode cX5_init 18 = .ok (.iconst 0, 1) := by decide +kernel
theorem dX5_init_19 : decode cX5_init 19 = .ok (.putfield 19, 3) := by decide +kernel
theorem dX5_init_22 : decode cX5_init 22 = .ok (.aload_n 0, 1) := by decide +kernel
theorem dX5_init_23 : decode cX5_init 23 = .ok (.iconst (-1), 1) := by decide +kernel
theorem dX5_init_24 : decode cX5_init 24 = .ok (.putfield 22, 3) := by decide +kernel
theorem dX5_init_27 : decode cX5_init 27 = .ok (.return_, 1) := by decide +kernel
theorem dX5_append_0 : decode cX5_append 0 = .ok (.aload_n 0, 1) := by decide +kernel
theorem dX5_append_1 : decode cX5_append 1 = .ok (.getfield 15, 3) := by decide +kernel
theorem dX5_append_4 : decode cX5_append 4 = .ok (.bipush 120, 2) := by decide +kernel
theorem dX5_append_6 : decode cX5_append 6 = .ok (.if_icmp .lt 5, 3) := by decide +kernel
theorem dX5_append_9 : decode cX5_append 9 = .ok (.iconst 0, 1) := by decide +kernel
theorem dX5_append_10 : decode cX5_append 10 = .ok (.ireturn, 1) := by decide +kernel
theorem dX5_append_11 : decode cX5_append 11 = .ok (.aload_n 0, 1) := by decide +kernel
theorem dX5_append_12 : decode cX5_append 12 = .ok (.getfield 9, 3) := by decide +kernel
theorem dX5_append_15 : decode cX5_append 15 = .ok (.aload_n 0, 1) := by decide +kernel
theorem dX5_append_16 : decode cX5_append 16 = .ok (.getfield 15, 3) := by decide +kernel
theorem dX5_append_19 : decode cX5_append 19 = .ok (.iload_n 1, 1) := by decide +kernel
theorem dX5_append_20 : decode cX5_append 20 = .ok (.i2b, 1) := by decide +kernel
theorem dX5_append_21 : decode cX5_append 21 = .ok (.bastore, 1) := by decide +kernel
theorem dX5_append_22 : decode cX5_append 22 = .ok (.aload_n 0, 1) := by decide +kernel
theorem dX5_append_23 : decode cX5_append 23 = .ok (.dup, 1) := by decide +kernel
theorem dX5_append_24 : decode cX5_append 24 = .ok (.getfield 15, 3) := by decide +kernel
theorem dX5_append_27 : decode cX5_append 27 = .ok (.iconst 1, 1) := by decide +kernel
theorem dX5_append_28 : decode cX5_append 28 = .ok (.iadd, 1) := by decide +kernel
theorem dX5_append_29 : decode cX5_append 29 = .ok (.putfield 15, 3) := by decide +kernel
theorem dX5_append_32 : decode cX5_append 32 = .ok (.iconst 1, 1) := by decide +kernel
theorem dX5_append_33 : decode cX5_append 33 = .ok (.ireturn, 1) := by decide +kernel
set_option maxRecDepth 20000 in
theorem ggX5_read_X3_clear : GoodIn wsX5_read wsX3_clear := goodIn_r _ [8, 9, 46, 47, 48, 49, 50] (by decide +kernel) (by decide +kernel)
set_option maxRecDepth 20000 in
theorem gX5_read_X3_clear : GoodIn wsX5_read (wsV RX5 25 RX3 yX3_clear wsX3_clear) := goodIn_app (goodIn_of _ (by decide +kernel)) ggX5_read_X3_clear
set_option maxRecDepth 20000 in
theorem ggX5_read_X5_skipBlanks : GoodIn wsX5_read wsX5_skipBlanks := goodIn_r _ [14, 1, 3, 15, 16, 17, 13, 18, 19, 42, 43, 44, 45] (by decide +kernel) (by decide +kernel)
set_option maxRecDepth 20000 in
theorem gX5_read_X5_skipBlanks : GoodIn wsX5_read (wsV RX5 30 RX5 yX5_skipBlanks wsX5_skipBlanks) := goodIn_app (goodIn_of _ (by decide +kernel)) ggX5_read_X5_skipBlanks
set_option maxRecDepth 20000 in
theorem ggX5_read_X5_readStations : GoodIn wsX5_read wsX5_readStations := goodIn_r _ [23, 24, 2, 25, 26, 27, 13, 28, 1, 15, 16, 17, 18, 3, 19, 29, 30, 31, 10, 11, 12, 14, 32, 33, 34, 35, 36, 37, 38, 7, 39, 9, 40, 41, 46, 47, 48, 49, 50, 42, 43, 44, 45] (by decide +kernel) (by decide +kernel)
set_option maxRecDepth 20000 in
theorem gX5_read_X5_readStations : GoodIn wsX5_read (wsV RX5 33 RX5 yX5_readStations wsX5_readStations) := goodIn_app (goodIn_of _ (by decide +kernel)) ggX5_read_X5_readStations
set_option maxRecDepth 20000 in
theorem ggX5_read_X5_accept : GoodIn wsX5_read wsX5_accept := goodIn_r _ [35, 1, 15, 16, 17, 13, 18, 3, 19, 10, 11, 12, 14, 42, 43, 44, 45] (by decide +kernel) (by decide +kernel)
set_option maxRecDepth 20000 in
theorem gX5_read_X5_accept : GoodIn wsX5_read (wsV RX5 37 RX5 yX5_accept wsX5_accept) := goodIn_app (goodIn_of _ (by decide +kernel)) ggX5_read_X5_accept
theorem dX5_read_0 : decode cX5_read 0 = .ok (.aload_n 1, 1) := by decide +kernel
theorem dX5_read_1 : decode cX5_read 1 = .ok (.invokevirtual 25, 3) := by decide +kernel
theorem dX5_read_4 : decode cX5_read 4 = .ok (.aload_n 0, 1) := by decide +kernel
theorem dX5_read_5 : decode cX5_read 5 = .ok (.iconst 0, 1) := by decide +kernel
theorem dX5_read_6 : decode cX5_read 6 = .ok (.putfield 19, 3) := by decide +kernel
theorem dX5_read_9 : decode cX5_read 9 = .ok (.aload_n 0, 1) := by decide +kernel
theorem dX5_read_10 : decode cX5_read 10 = .ok (.iconst (-1), 1) := by decide +kernel
theorem dX5_read_11 : decode cX5_read 11 = .ok (.putfield 22, 3) := by decide +kernel
theorem dX5_read_14 : decode cX5_read 14 = .ok (.aload_n 0, 1) := by decide +kernel
theorem dX5_read_15 : decode cX5_read 15 = .ok (.invokevirtual 30, 3) := by decide +kernel
theorem dX5_read_18 : decode cX5_read 18 = .ok (.iconst 0, 1) := by decide +kernel
theorem dX5_read_19 : decode cX5_read 19 = .ok (.istore_n 2, 1) := by decide +kernel
theorem dX5_read_20 : decode cX5_read 20 = .ok (.iload_n 2, 1) := by decide +kernel
theorem dX5_read_21 : decode cX5_read 21 = .ok (.bipush 120, 2) := by decide +kernel
theorem dX5_read_23 : decode cX5_read 23 = .ok (.if_icmp .ge 67, 3) := by decide +kernel
theorem dX5_read_26 : decode cX5_read 26 = .ok (.aload_n 0, 1) := by decide +kernel
theorem dX5_read_27 : decode cX5_read 27 = .ok (.getfield 22, 3) := by decide +kernel
theorem dX5_read_30 : decode cX5_read 30 = .ok (.iconst (-1), 1) := by decide +kernel
theorem dX5_read_31 : decode cX5_read 31 = .ok (.if_icmp .ne 59, 3) := by decide +kernel
theorem dX5_read_34 : decode cX5_read 34 = .ok (.aload_n 0, 1) := by decide +kernel
theorem dX5_read_35 : decode cX5_read 35 = .ok (.aload_n 1, 1) := by decide +kernel
theorem dX5_read_36 : decode cX5_read 36 = .ok (.invokevirtual 33, 3) := by decide +kernel
theorem dX5_read_39 : decode cX5_read 39 = .ok (.iload_n 2, 1) := by decide +kernel
theorem dX5_read_40 : decode cX5_read 40 = .ok (.ifCond .le 19, 3) := by decide +kernel
theorem dX5_read_43 : decode cX5_read 43 = .ok (.aload_n 0, 1) := by decide +kernel
theorem dX5_read_44 : decode cX5_read 44 = .ok (.getfield 19, 3) := by decide +kernel
theorem dX5_read_47 : decode cX5_read 47 = .ok (.aload_n 0, 1) := by decide +kernel
theorem dX5_read_48 : decode cX5_read 48 = .ok (.getfield 15, 3) := by decide +kernel
theorem dX5_read_51 : decode cX5_read 51 = .ok (.if_icmp .ne 8, 3) := by decide +kernel
theorem dX5_read_54 : decode cX5_read 54 = .ok (.aload_n 0, 1) := by decide +kernel
theorem dX5_read_55 : decode cX5_read 55 = .ok (.getfield 22, 3) := by decide +kernel
theorem dX5_read_58 : decode cX5_read 58 = .ok (.ireturn, 1) := by decide +kernel
theorem dX5_read_59 : decode cX5_read 59 = .ok (.aload_n 0, 1) := by decide +kernel
theorem dX5_read_60 : decode cX5_read 60 = .ok (.getfield 22, 3) := by decide +kernel
theorem dX5_read_63 : decode cX5_read 63 = .ok (.iconst (-1), 1) := by decide +kernel
theorem dX5_read_64 : decode cX5_read 64 = .ok (.if_icmp .ne 20, 3) := by decide +kernel
theorem dX5_read_67 : decode cX5_read 67 = .ok (.aload_n 0, 1) := by decide +kernel
theorem dX5_read_68 : decode cX5_read 68 = .ok (.bipush 44, 2) := by decide +kernel
theorem dX5_read_70 : decode cX5_read 70 = .ok (.invokevirtual 37, 3) := by decide +kernel
theorem dX5_read_73 : decode cX5_read 73 = .ok (.ifCond .ne 11, 3) := by decide +kernel
theorem dX5_read_76 : decode cX5_read 76 = .ok (.aload_n 0, 1) := by decide +kernel
theorem dX5_read_77 : decode cX5_read 77 = .ok (.aload_n 0, 1) := by decide +kernel
theorem dX5_read_78 : decode cX5_read 78 = .ok (.getfield 19, 3) := by decide +kernel
theorem dX5_read_81 : decode cX5_read 81 = .ok (.putfield 22, 3) := by decide +kernel
theorem dX5_read_84 : decode cX5_read 84 = .ok (.iinc 2 1, 3) := by decide +kernel
theorem dX5_read_87 : decode cX5_read 87 = .ok (.goto (-67), 3) := by decide +kernel
theorem dX5_read_90 : decode cX5_read 90 = .ok (.aload_n 0, 1) := by decide +kernel
theorem dX5_read_91 : decode cX5_read 91 = .ok (.getfield 22, 3) := by decide +kernel
theorem dX5_read_94 : decode cX5_read 94 = .ok (.ireturn, 1) := by decide +kernel
set_option maxRecDepth 20000 in
theorem ggX5_readStations_X5_readNumber : GoodIn wsX5_readStations wsX5_readNumber := goodIn_r _ [7, 8, 2, 9, 10, 11, 6, 12, 13, 14, 15, 16, 17, 18, 19, 20, 21, 39, 40, 41, 42] (by decide +kernel) (by decide +kernel)
set_option maxRecDepth 20000 in
theorem gX5_readStations_X5_readNumber : GoodIn wsX5_readStations (wsV RX5 44 RX5 yX5_readNumber wsX5_readNumber) := goodIn_app (goodIn_of _ (by decide +kernel)) ggX5_readStations_X5_readNumber
set_option maxRecDepth 20000 in
theorem ggX5_readStations_X5_accept : GoodIn wsX5_readStations wsX5_accept := goodIn_r _ [25, 8, 9, 10, 11, 6, 12, 13, 14, 18, 19, 20, 21, 39, 40, 41, 42] (by decide +kernel) (by decide +kernel)
set_option maxRecDepth 20000 in
theorem gX5_readStations_X5_accept : GoodIn wsX5_readStations (wsV RX5 37 RX5 yX5_accept wsX5_accept) := goodIn_app (goodIn_of _ (by decide +kernel)) ggX5_readStations_X5_accept
set_option maxRecDepth 20000 in
theorem ggX5_readStations_X3_append : GoodIn wsX5_readStations wsX3_append := goodIn_r _ [30, 31, 32, 33, 34, 35, 36, 37, 38] (by decide +kernel) (by decide +kernel)
set_option maxRecDepth 20000 in
theorem gX5_readStations_X3_append : GoodIn wsX5_readStations (wsV RX5 48 RX3 yX3_append wsX3_append) := goodIn_app (goodIn_of _ (by decide +kernel)) ggX5_readStations_X3_append
theorem dX5_readStations_0 : decode cX5_readStations 0 = .ok (.bipush 20, 2) := by decide +kernel
theorem dX5_readStations_2 : decode cX5_readStations 2 = .ok (.aload_n 1, 1) := by decide +kernel
theorem dX5_readStations_3 : decode cX5_readStations 3 = .ok (.getfield 41, 3) := by decide +kernel
theorem dX5_readStations_6 : decode cX5_readStations 6 = .ok (.isub, 1) := by decide +kernel
theorem dX5_readStations_7 : decode cX5_readStations 7 = .ok (.istore_n 2, 1) := by decide +kernel
theorem dX5_readStations_8 : decode cX5_readStations 8 = .ok (.aload_n 0, 1) := by decide +kernel
theorem dX5_readStations_9 : decode cX5_readStations 9 = .ok (.iconst 0, 1) := by decide +kernel
theorem dX5_readStations_10 : decode cX5_readStations 10 = .ok (.iload_n 2, 1) := by decide +kernel
theorem dX5_readStations_11 : decode cX5_readStations 11 = .ok (.ifCond .le 9, 3) := by decide +kernel
theorem dX5_readStations_14 : decode cX5_readStations 14 = .ok (.sipush 999, 3) := by decide +kernel
theorem dX5_readStations_17 : decode cX5_readStations 17 = .ok (.goto 4, 3) := by decide +kernel
theorem dX5_readStations_20 : decode cX5_readStations 20 = .ok (.iconst (-1), 1) := by decide +kernel
theorem dX5_readStations_21 : decode cX5_readStations 21 = .ok (.invokevirtual 44, 3) := by decide +kernel
theorem dX5_readStations_24 : decode cX5_readStations 24 = .ok (.istore_n 3, 1) := by decide +kernel
theorem dX5_readStations_25 : decode cX5_readStations 25 = .ok (.aload_n 0, 1) := by decide +kernel
theorem dX5_readStations_26 : decode cX5_readStations 26 = .ok (.bipush 42, 2) := by decide +kernel
theorem dX5_readStations_28 : decode cX5_readStations 28 = .ok (.invokevirtual 37, 3) := by decide +kernel
theorem dX5_readStations_31 : decode cX5_readStations 31 = .ok (.ifCond .eq 12, 3) := by decide +kernel
theorem dX5_readStations_34 : decode cX5_readStations 34 = .ok (.aload_n 0, 1) := by decide +kernel
theorem dX5_readStations_35 : decode cX5_readStations 35 = .ok (.iconst 1, 1) := by decide +kernel
theorem dX5_readStations_36 : decode cX5_readStations 36 = .ok (.iload_n 2, 1) := by decide +kernel
theorem dX5_readStations_37 : decode cX5_readStations 37 = .ok (.invokevirtual 44, 3) := by decide +kernel
theorem dX5_readStations_40 : decode cX5_readStations 40 = .ok (.goto 4, 3) := by decide +kernel
theorem dX5_readStations_43 : decode cX5_readStations 43 = .ok (.iconst 1, 1) := by decide +kernel
theorem dX5_readStations_44 : decode cX5_readStations 44 = .ok (.istore 4, 2) := by decide +kernel
theorem dX5_readStations_46 : decode cX5_readStations 46 = .ok (.aload_n 0, 1) := by decide +kernel
theorem dX5_readStations_47 : decode cX5_readStations 47 = .ok (.bipush 109, 2) := by decide +kernel
theorem dX5_readStations_49 : decode cX5_readStations 49 = .ok (.invokevirtual 37, 3) := by decide +kernel
theorem dX5_readStations_52 : decode cX5_readStations 52 = .ok (.ifCond .eq 14, 3) := by decide +kernel
theorem dX5_readStations_55 : decode cX5_readStations 55 = .ok (.aload_n 0, 1) := by decide +kernel
theorem dX5_readStations_56 : decode cX5_readStations 56 = .ok (.iconst 1, 1) := by decide +kernel
theorem dX5_readStations_57 : decode cX5_readStations 57 = .ok (.sipush 200, 3) := by decide +kernel
theorem dX5_readStations_60 : decode cX5_readStations 60 = .ok (.invokevirtual 44, 3) := by decide +kernel
theorem dX5_readStations_63 : decode cX5_readStations 63 = .ok (.goto 4, 3) := by decide +kernel
theorem dX5_readStations_66 : decode cX5_readStations 66 = .ok (.iconst 0, 1) := by decide +kernel
theorem dX5_readStations_67 : decode cX5_readStations 67 = .ok (.istore 5, 2) := by decide +kernel
theorem dX5_readStations_69 : decode cX5_readStations 69 = .ok (.aload_n 0, 1) := by decide +kernel
theorem dX5_readStations_70 : decode cX5_readStations 70 = .ok (.getfield 22, 3) := by decide +kernel
theorem dX5_readStations_73 : decode cX5_readStations 73 = .ok (.iconst (-1), 1) := by decide +kernel
theorem dX5_readStations_74 : decode cX5_readStations 74 = .ok (.if_icmp .ne 12, 3) := by decide +kernel
theorem dX5_readStations_77 : decode cX5_readStations 77 = .ok (.aload_n 1, 1) := by decide +kernel
theorem dX5_readStations_78 : decode cX5_readStations 78 = .ok (.iload 4, 2) := by decide +kernel
theorem dX5_readStations_80 : decode cX5_readStations 80 = .ok (.iload_n 3, 1) := by decide +kernel
theorem dX5_readStations_81 : decode cX5_readStations 81 = .ok (.iload 5, 2) := by decide +kernel
theorem dX5_readStations_83 : decode cX5_readStations 83 = .ok (.invokevirtual 48, 3) := by decide +kernel
theorem dX5_readStations_86 : decode cX5_readStations 86 = .ok (.return_, 1) := by decide +kernel
set_option maxRecDepth 20000 in
theorem ggX5_readNumber_X5_peek : GoodIn wsX5_readNumber wsX5_peek := goodIn_r _ [7, 1, 8, 9, 17, 18, 19, 20] (by decide +kernel) (by decide +kernel)
set_option maxRecDepth 20000 in
theorem gX5_readNumber_X5_peek : GoodIn wsX5_readNumber (wsV RX5 52 RX5 yX5_peek wsX5_peek) := goodIn_app (goodIn_of _ (by decide +kernel)) ggX5_readNumber_X5_peek
set_option maxRecDepth 20000 in
theorem ggX5_readNumber_X6_within : GoodIn wsX5_readNumber wsX6_within := goodIn_r _ [12] (by decide +kernel) (by decide +kernel)
set_option maxRecDepth 20000 in
theorem gX5_readNumber_X6_within_n56 : GoodIn wsX5_readNumber (wsX6_within) := ggX5_readNumber_X6_within
set_option maxRecDepth 20000 in
theorem ggX5_readNumber_X5_skipBlanks : GoodIn wsX5_readNumber wsX5_skipBlanks := goodIn_r _ [16, 1, 8, 3, 4, 5, 6, 7, 9, 17, 18, 19, 20] (by decide +kernel) (by decide +kernel)
set_option maxRecDepth 20000 in
theorem gX5_readNumber_X5_skipBlanks : GoodIn wsX5_readNumber (wsV RX5 30 RX5 yX5_skipBlanks wsX5_skipBlanks) := goodIn_app (goodIn_of _ (by decide +kernel)) ggX5_readNumber_X5_skipBlanks
theorem dX5_readNumber_0 : decode cX5_readNumber 0 = .ok (.aload_n 0, 1) := by decide +kernel
theorem dX5_readNumber_1 : decode cX5_readNumber 1 = .ok (.getfield 19, 3) := by decide +kernel
theorem dX5_readNumber_4 : decode cX5_readNumber 4 = .ok (.istore_n 3, 1) := by decide +kernel
theorem dX5_readNumber_5 : decode cX5_readNumber 5 = .ok (.iconst 0, 1) := by decide +kernel
theorem dX5_readNumber_6 : decode cX5_readNumber 6 = .ok (.istore 4, 2) := by decide +kernel
theorem dX5_readNumber_8 : decode cX5_readNumber 8 = .ok (.iconst 0, 1) := by decide +kernel
theorem dX5_readNumber_9 : decode cX5_readNumber 9 = .ok (.istore 5, 2) := by decide +kernel
theorem dX5_readNumber_11 : decode cX5_readNumber 11 = .ok (.iload 5, 2) := by decide +kernel
theorem dX5_readNumber_13 : decode cX5_readNumber 13 = .ok (.iconst 3, 1) := by decide +kernel
theorem dX5_readNumber_14 : decode cX5_readNumber 14 = .ok (.if_icmp .ge 48, 3) := by decide +kernel
theorem dX5_readNumber_17 : decode cX5_readNumber 17 = .ok (.aload_n 0, 1) := by decide +kernel
theorem dX5_readNumber_18 : decode cX5_readNumber 18 = .ok (.invokevirtual 52, 3) := by decide +kernel
theorem dX5_readNumber_21 : decode cX5_readNumber 21 = .ok (.bipush 48, 2) := by decide +kernel
theorem dX5_readNumber_23 : decode cX5_readNumber 23 = .ok (.bipush 57, 2) := by decide +kernel
theorem dX5_readNumber_25 : decode cX5_readNumber 25 = .ok (.invokestatic 56, 3) := by decide +kernel
theorem dX5_readNumber_28 : decode cX5_readNumber 28 = .ok (.ifCond .eq 34, 3) := by decide +kernel
theorem dX5_readNumber_31 : decode cX5_readNumber 31 = .ok (.bipush 10, 2) := by decide +kernel
theorem dX5_readNumber_33 : decode cX5_readNumber 33 = .ok (.iload 4, 2) := by decide +kernel
theorem dX5_readNumber_35 : decode cX5_readNumber 35 = .ok (.imul, 1) := by decide +kernel
theorem dX5_readNumber_36 : decode cX5_readNumber 36 = .ok (.aload_n 0, 1) := by decide +kernel
theorem dX5_readNumber_37 : decode cX5_readNumber 37 = .ok (.invokevirtual 52, 3) := by decide +kernel
theorem dX5_readNumber_40 : decode cX5_readNumber 40 = .ok (.iadd, 1) := by decide +kernel
theorem dX5_readNumber_41 : decode cX5_readNumber 41 = .ok (.bipush 48, 2) := by decide +kernel
theorem dX5_readNumber_43 : decode cX5_readNumber 43 = .ok (.isub, 1) := by decide +kernel
theorem dX5_readNumber_44 : decode cX5_readNumber 44 = .ok (.istore 4, 2) := by decide +kernel
theorem dX5_readNumber_46 : decode cX5_readNumber 46 = .ok (.aload_n 0, 1) := by decide +kernel
theorem dX5_readNumber_47 : decode cX5_readNumber 47 = .ok (.dup, 1) := by decide +kernel
theorem dX5_readNumber_48 : decode cX5_readNumber 48 = .ok (.getfield 19, 3) := by decide +kernel
theorem dX5_readNumber_51 : decode cX5_readNumber 51 = .ok (.iconst 1, 1) := by decide +kernel
theorem dX5_readNumber_52 : decode cX5_readNumber 52 = .ok (.iadd, 1) := by decide +kernel
theorem dX5_readNumber_53 : decode cX5_readNumber 53 = .ok (.putfield 19, 3) := by decide +kernel
theorem dX5_readNumber_56 : decode cX5_readNumber 56 = .ok (.iinc 5 1, 3) := by decide +kernel
theorem dX5_readNumber_59 : decode cX5_readNumber 59 = .ok (.goto (-48), 3) := by decide +kernel
theorem dX5_readNumber_62 : decode cX5_readNumber 62 = .ok (.aload_n 0, 1) := by decide +kernel
theorem dX5_readNumber_63 : decode cX5_readNumber 63 = .ok (.getfield 22, 3) := by decide +kernel
theorem dX5_readNumber_66 : decode cX5_readNumber 66 = .ok (.iconst (-1), 1) := by decide +kernel
theorem dX5_readNumber_67 : decode cX5_readNumber 67 = .ok (.if_icmp .ne 26, 3) := by decide +kernel
theorem dX5_readNumber_70 : decode cX5_readNumber 70 = .ok (.aload_n 0, 1) := by decide +kernel
theorem dX5_readNumber_71 : decode cX5_readNumber 71 = .ok (.getfield 19, 3) := by decide +kernel
theorem dX5_readNumber_74 : decode cX5_readNumber 74 = .ok (.iload_n 3, 1) := by decide +kernel
theorem dX5_readNumber_75 : decode cX5_readNumber 75 = .ok (.if_icmp .eq 13, 3) := by decide +kernel
theorem dX5_readNumber_78 : decode cX5_readNumber 78 = .ok (.iload 4, 2) := by decide +kernel
theorem dX5_readNumber_80 : decode cX5_readNumber 80 = .ok (.iload_n 1, 1) := by decide +kernel
theorem dX5_readNumber_81 : decode cX5_readNumber 81 = .ok (.iload_n 2, 1) := by decide +kernel
theorem dX5_readNumber_82 : decode cX5_readNumber 82 = .ok (.invokestatic 56, 3) := by decide +kernel
theorem dX5_readNumber_85 : decode cX5_readNumber 85 = .ok (.ifCond .ne 8, 3) := by decide +kernel
theorem dX5_readNumber_88 : decode cX5_readNumber 88 = .ok (.aload_n 0, 1) := by decide +kernel
theorem dX5_readNumber_89 : decode cX5_readNumber 89 = .ok (.iload_n 3, 1) := by decide +kernel
theorem dX5_readNumber_90 : decode cX5_readNumber 90 = .ok (.putfield 22, 3) := by decide +kernel
theorem dX5_readNumber_93 : decode cX5_readNumber 93 = .ok (.aload_n 0, 1) := by decide +kernel
theorem dX5_readNumber_94 : decode cX5_readNumber 94 = .ok (.invokevirtual 30, 3) := by decide +kernel
theorem dX5_readNumber_97 : decode cX5_readNumber 97 = .ok (.iload 4, 2) := by decide +kernel
theorem dX5_readNumber_99 : decode cX5_readNumber 99 = .ok (.ireturn, 1) := by decide +kernel
set_option maxRecDepth 20000 in
theorem ggX5_accept_X5_peek : GoodIn wsX5_accept wsX5_peek := goodIn_r _ [6, 1, 7, 8, 13, 14, 15, 16] (by decide +kernel) (by decide +kernel)
set_option maxRecDepth 20000 in
theorem gX5_accept_X5_peek : GoodIn wsX5_accept (wsV RX5 52 RX5 yX5_peek wsX5_peek) := goodIn_app (goodIn_of _ (by decide +kernel)) ggX5_accept_X5_peek
set_option maxRecDepth 20000 in
theorem ggX5_accept_X5_skipBlanks : GoodIn wsX5_accept wsX5_skipBlanks := goodIn_r _ [12, 1, 7, 2, 3, 4, 5, 6, 8, 13, 14, 15, 16] (by decide +kernel) (by decide +kernel)
set_option maxRecDepth 20000 in
theorem gX5_accept_X5_skipBlanks : GoodIn wsX5_accept (wsV RX5 30 RX5 yX5_skipBlanks wsX5_skipBlanks) := goodIn_app (goodIn_of _ (by decide +kernel)) ggX5_accept_X5_skipBlanks
theorem dX5_accept_0 : decode cX5_accept 0 = .ok (.aload_n 0, 1) := by decide +kernel
theorem dX5_accept_1 : decode cX5_accept 1 = .ok (.invokevirtual 52, 3) := by decide +kernel
theorem dX5_accept_4 : decode cX5_accept 4 = .ok (.iload_n 1, 1) := by decide +kernel
theorem dX5_accept_5 : decode cX5_accept 5 = .ok (.if_icmp .eq 5, 3) := by decide +kernel
theorem dX5_accept_8 : decode cX5_accept 8 = .ok (.iconst 0, 1) := by decide +kernel
theorem dX5_accept_9 : decode cX5_accept 9 = .ok (.ireturn, 1) := by decide +kernel
theorem dX5_accept_10 : decode cX5_accept 10 = .ok (.aload_n 0, 1) := by decide +kernel
theorem dX5_accept_11 : decode cX5_accept 11 = .ok (.dup, 1) := by decide +kernel
theorem dX5_accept_12 : decode cX5_accept 12 = .ok (.getfield 19, 3) := by decide +kernel
theorem dX5_accept_15 : decode cX5_accept 15 = .ok (.iconst 1, 1) := by decide +kernel
theorem dX5_accept_16 : decode cX5_accept 16 = .ok (.iadd, 1) := by decide +kernel
theorem dX5_accept_17 : decode cX5_accept 17 = .ok (.putfield 19, 3) := by decide +kernel
theorem dX5_accept_20 : decode cX5_accept 20 = .ok (.aload_n 0, 1) := by decide +kernel
theorem dX5_accept_21 : decode cX5_accept 21 = .ok (.invokevirtual 30, 3) := by decide +kernel
theorem dX5_accept_24 : decode cX5_accept 24 = .ok (.iconst 1, 1) := by decide +kernel
theorem dX5_accept_25 : decode cX5_accept 25 = .ok (.ireturn, 1) := by decide +kernel
set_option maxRecDepth 20000 in
theorem ggX5_skipBlanks_X5_peek : GoodIn wsX5_skipBlanks wsX5_peek := goodIn_r _ [7, 1, 2, 8, 9, 10, 11, 12] (by decide +kernel) (by decide +kernel)
set_option maxRecDepth 20000 in
theorem gX5_skipBlanks_X5_peek : GoodIn wsX5_skipBlanks (wsV RX5 52 RX5 yX5_peek wsX5_peek) := goodIn_app (goodIn_of _ (by decide +kernel)) ggX5_skipBlanks_X5_peek
theorem dX5_skipBlanks_0 : decode cX5_skipBlanks 0 = .ok (.aload_n 0, 1) := by decide +kernel
theorem dX5_skipBlanks_1 : decode cX5_skipBlanks 1 = .ok (.getfield 19, 3) := by decide +kernel
theorem dX5_skipBlanks_4 : decode cX5_skipBlanks 4 = .ok (.istore_n 1, 1) := by decide +kernel
theorem dX5_skipBlanks_5 : decode cX5_skipBlanks 5 = .ok (.iload_n 1, 1) := by decide +kernel
theorem dX5_skipBlanks_6 : decode cX5_skipBlanks 6 = .ok (.aload_n 0, 1) := by decide +kernel
theorem dX5_skipBlanks_7 : decode cX5_skipBlanks 7 = .ok (.getfield 15, 3) := by decide +kernel
theorem dX5_skipBlanks_10 : decode cX5_skipBlanks 10 = .ok (.if_icmp .ge 28, 3) := by decide +kernel
theorem dX5_skipBlanks_13 : decode cX5_skipBlanks 13 = .ok (.aload_n 0, 1) := by decide +kernel
theorem dX5_skipBlanks_14 : decode cX5_skipBlanks 14 = .ok (.invokevirtual 52, 3) := by decide +kernel
theorem dX5_skipBlanks_17 : decode cX5_skipBlanks 17 = .ok (.bipush 32, 2) := by decide +kernel
theorem dX5_skipBlanks_19 : decode cX5_skipBlanks 19 = .ok (.if_icmp .ne 19, 3) := by decide +kernel
theorem dX5_skipBlanks_22 : decode cX5_skipBlanks 22 = .ok (.aload_n 0, 1) := by decide +kernel
theorem dX5_skipBlanks_23 : decode cX5_skipBlanks 23 = .ok (.dup, 1) := by decide +kernel
theorem dX5_skipBlanks_24 : decode cX5_skipBlanks 24 = .ok (.getfield 19, 3) := by decide +kernel
theorem dX5_skipBlanks_27 : decode cX5_skipBlanks 27 = .ok (.iconst 1, 1) := by decide +kernel
theorem dX5_skipBlanks_28 : decode cX5_skipBlanks 28 = .ok (.iadd, 1) := by decide +kernel
theorem dX5_skipBlanks_29 : decode cX5_skipBlanks 29 = .ok (.putfield 19, 3) := by decide +kernel
theorem dX5_skipBlanks_32 : decode cX5_skipBlanks 32 = .ok (.iinc 1 1, 3) := by decide +kernel
theorem dX5_skipBlanks_35 : decode cX5_skipBlanks 35 = .ok (.goto (-30), 3) := by decide +kernel
theorem dX5_skipBlanks_38 : decode cX5_skipBlanks 38 = .ok (.return_, 1) := by decide +kernel
theorem dX5_peek_0 : decode cX5_peek 0 = .ok (.aload_n 0, 1) := by decide +kernel
theorem dX5_peek_1 : decode cX5_peek 1 = .ok (.getfield 19, 3) := by decide +kernel
theorem dX5_peek_4 : decode cX5_peek 4 = .ok (.ifCond .lt 26, 3) := by decide +kernel
theorem dX5_peek_7 : decode cX5_peek 7 = .ok (.aload_n 0, 1) := by decide +kernel
theorem dX5_peek_8 : decode cX5_peek 8 = .ok (.getfield 19, 3) := by decide +kernel
theorem dX5_peek_11 : decode cX5_peek 11 = .ok (.aload_n 0, 1) := by decide +kernel
theorem dX5_peek_12 : decode cX5_peek 12 = .ok (.getfield 15, 3) := by decide +kernel
theorem dX5_peek_15 : decode cX5_peek 15 = .ok (.if_icmp .ge 15, 3) := by decide +kernel
theorem dX5_peek_18 : decode cX5_peek 18 = .ok (.aload_n 0, 1) := by decide +kernel
theorem dX5_peek_19 : decode cX5_peek 19 = .ok (.getfield 9, 3) := by decide +kernel
theorem dX5_peek_22 : decode cX5_peek 22 = .ok (.aload_n 0, 1) := by decide +kernel
theorem dX5_peek_23 : decode cX5_peek 23 = .ok (.getfield 19, 3) := by decide +kernel
theorem dX5_peek_26 : decode cX5_peek 26 = .ok (.baload, 1) := by decide +kernel
theorem dX5_peek_27 : decode cX5_peek 27 = .ok (.goto 4, 3) := by decide +kernel
theorem dX5_peek_30 : decode cX5_peek 30 = .ok (.iconst (-1), 1) := by decide +kernel
theorem dX5_peek_31 : decode cX5_peek 31 = .ok (.ireturn, 1) := by decide +kernel
set_option maxRecDepth 20000 in
theorem ggX6_init_X3_init : GoodIn wsX6_init wsX3_init := goodIn_r _ [30, 31, 2, 3, 32, 33, 34, 35, 36, 37, 73, 74, 75, 76, 77] (by decide +kernel) (by decide +kernel)
set_option maxRecDepth 20000 in
theorem gX6_init_X3_init_n9 : GoodIn wsX6_init (wsX3_init) := ggX6_init_X3_init
set_option maxRecDepth 20000 in
theorem ggX6_init_X2_init : GoodIn wsX6_init wsX2_init := goodIn_r _ [40, 41, 2, 3, 42, 43, 44, 45, 5, 6, 29, 30, 31, 32, 33, 34, 35, 36, 37, 85, 86, 87, 73, 74, 75, 76, 77] (by decide +kernel) (by decide +kernel)
set_option maxRecDepth 20000 in
theorem gX6_init_X2_init : GoodIn wsX6_init (wsX2_init) := ggX6_init_X2_init
set_option maxRecDepth 20000 in
theorem ggX6_init_X5_init : GoodIn wsX6_init wsX5_init := goodIn_r _ [47, 48, 2, 3, 49, 50, 51, 52, 53, 88, 89, 90, 91] (by decide +kernel) (by decide +kernel)
set_option maxRecDepth 20000 in
theorem gX6_init_X5_init_n28 : GoodIn wsX6_init (wsX5_init) := ggX6_init_X5_init
set_option maxRecDepth 20000 in
theorem ggX6_init_X1_init : GoodIn wsX6_init wsX1_init := goodIn_r _ [55, 56, 2, 3, 32, 57, 58, 92, 93] (by decide +kernel) (by decide +kernel)
set_option maxRecDepth 20000 in
theorem gX6_init_X1_init_n35 : GoodIn wsX6_init (wsX1_init) := ggX6_init_X1_init
set_option maxRecDepth 20000 in
theorem ggX6_init_X4_init : GoodIn wsX6_init wsX4_init := goodIn_r _ [60, 61, 2, 3, 32, 62, 63, 64, 65, 66, 67, 94, 95, 96, 97, 98, 99] (by decide +kernel) (by decide +kernel)
set_option maxRecDepth 20000 in
theorem gX6_init_X4_init_n42 : GoodIn wsX6_init (wsX4_init) := ggX6_init_X4_init
set_option maxRecDepth 20000 in
theorem ggX6_init_X0_init : GoodIn wsX6_init wsX0_init := goodIn_r _ [69, 70, 2, 3, 32, 71, 72, 100, 101] (by decide +kernel) (by decide +kernel)
set_option maxRecDepth 20000 in
theorem gX6_init_X0_init_n49 : GoodIn wsX6_init (wsX0_init) := ggX6_init_X0_init
theorem dX6_init_0 : decode cX6_init 0 = .ok (.aload_n 0, 1) := by decide +kernel
theorem dX6_init_1 : decode cX6_init 1 = .ok (.invokespecial 1, 3) := by decide +kernel
theorem dX6_init_4 : decode cX6_init 4 = .ok (.aload_n 0, 1) := by decide +kernel
theorem dX6_init_5 : decode cX6_init 5 = .ok (.new 7, 3) := by decide +kernel
theorem dX6_init_8 : decode cX6_init 8 = .ok (.dup, 1) := by decide +kernel
theorem dX6_init_9 : decode cX6_init 9 = .ok (.invokespecial 9, 3) := by decide +kernel
theorem dX6_init_12 : decode cX6_init 12 = .ok (.putfield 10, 3) := by decide +kernel
theorem dX6_init_15 : decode cX6_init 15 = .ok (.aload_n 0, 1) := by decide +kernel
theorem dX6_init_16 : decode cX6_init 16 = .ok (.new 7, 3) := by decide +kernel
theorem dX6_init_19 : decode cX6_init 19 = .ok (.dup, 1) := by decide +kernel
theorem dX6_init_20 : decode cX6_init 20 = .ok (.invokespecial 9, 3) := by decide +kernel
theorem dX6_init_23 : decode cX6_init 23 = .ok (.putfield 16, 3) := by decide +kernel
theorem dX6_init_26 : decode cX6_init 26 = .ok (.aload_n 0, 1) := by decide +kernel
theorem dX6_init_27 : decode cX6_init 27 = .ok (.new 19, 3) := by decide +kernel
theorem dX6_init_30 : decode cX6_init 30 = .ok (.dup, 1) := by decide +kernel
theorem dX6_init_31 : decode cX6_init 31 = .ok (.invokespecial 21, 3) := by decide +kernel
theorem dX6_init_34 : decode cX6_init 34 = .ok (.putfield 22, 3) := by decide +kernel
theorem dX6_init_37 : decode cX6_init 37 = .ok (.aload_n 0, 1) := by decide +kernel
theorem dX6_init_38 : decode cX6_init 38 = .ok (.new 26, 3) := by decide +kernel
theorem dX6_init_41 : decode cX6_init 41 = .ok (.dup, 1) := by decide +kernel
theorem dX6_init_42 : decode cX6_init 42 = .ok (.invokespecial 28, 3) := by decide +kernel
theorem dX6_init_45 : decode cX6_init 45 = .ok (.putfield 29, 3) := by decide +kernel
theorem dX6_init_48 : decode cX6_init 48 = .ok (.aload_n 0, 1) := by decide +kernel
theorem dX6_init_49 : decode cX6_init 49 = .ok (.new 33, 3) := by decide +kernel
theorem dX6_init_52 : decode cX6_init 52 = .ok (.dup, 1) := by decide +kernel
theorem dX6_init_53 : decode cX6_init 53 = .ok (.invokespecial 35, 3) := by decide +kernel
theorem dX6_init_56 : decode cX6_init 56 = .ok (.putfield 36, 3) := by decide +kernel
theorem dX6_init_59 : decode cX6_init 59 = .ok (.aload_n 0, 1) := by decide +kernel
theorem dX6_init_60 : decode cX6_init 60 = .ok (.new 40, 3) := by decide +kernel
theorem dX6_init_63 : decode cX6_init 63 = .ok (.dup, 1) := by decide +kernel
theorem dX6_init_64 : decode cX6_init 64 = .ok (.invokespecial 42, 3) := by decide +kernel
theorem dX6_init_67 : decode cX6_init 67 = .ok (.putfield 43, 3) := by decide +kernel
theorem dX6_init_70 : decode cX6_init 70 = .ok (.aload_n 0, 1) := by decide +kernel
theorem dX6_init_71 : decode cX6_init 71 = .ok (.new 47, 3) := by decide +kernel
theorem dX6_init_74 : decode cX6_init 74 = .ok (.dup, 1) := by decide +kernel
theorem dX6_init_75 : decode cX6_init 75 = .ok (.invokespecial 49, 3) := by decide +kernel
theorem dX6_init_78 : decode cX6_init 78 = .ok (.putfield 50, 3) := by decide +kernel
theorem dX6_init_81 : decode cX6_init 81 = .ok (.return_, 1) := by decide +kernel
set_option maxRecDepth 20000 in
theorem ggX6_reset_X6_within : GoodIn wsX6_reset wsX6_within := goodIn_r _ [6] (by decide +kernel) (by decide +kernel)
set_option maxRecDepth 20000 in
theorem gX6_reset_X6_within : GoodIn wsX6_reset (va_wsS RX6 54 yX6_within wsX6_within) := goodIn_app (goodIn_of _ (by decide +kernel)) ggX6_reset_X6_within
set_option maxRecDepth 20000 in
theorem ggX6_reset_X2_keep : GoodIn wsX6_reset wsX2_keep := goodIn_r _ [11, 12, 13, 14, 15, 16, 17, 18, 19, 20, 21, 22, 23, 24, 25, 26, 27, 28, 29, 30, 31, 32, 48, 49, 50, 51, 52, 53, 54, 55] (by decide +kernel) (by decide +kernel)
set_option maxRecDepth 20000 in
theorem gX6_reset_X2_keep : GoodIn wsX6_reset (wsV RX6 58 RX2 yX2_keep wsX2_keep) := goodIn_app (goodIn_of _ (by decide +kernel)) ggX6_reset_X2_keep
set_option maxRecDepth 20000 in
theorem ggX6_reset_X3_clear : GoodIn wsX6_reset wsX3_clear := goodIn_r _ [36, 30, 51, 52, 53, 54, 55] (by decide +kernel) (by decide +kernel)
set_option maxRecDepth 20000 in
theorem gX6_reset_X3_clear : GoodIn wsX6_reset (wsV RX6 62 RX3 yX3_clear wsX3_clear) := goodIn_app (goodIn_of _ (by decide +kernel)) ggX6_reset_X3_clear
set_option maxRecDepth 20000 in
theorem ggX6_reset_X3_append : GoodIn wsX6_reset wsX3_append := goodIn_r _ [40, 30, 31, 32, 51, 52, 53, 54, 55] (by decide +kernel) (by decide +kernel)
set_option maxRecDepth 20000 in
theorem gX6_reset_X3_append : GoodIn wsX6_reset (wsV RX6 65 RX3 yX3_append wsX3_append) := goodIn_app (goodIn_of _ (by decide +kernel)) ggX6_reset_X3_append
theorem dX6_reset_0 : decode cX6_reset 0 = .ok (.iload_n 1, 1) := by decide +kernel
theorem dX6_reset_1 : decode cX6_reset 1 = .ok (.iconst 2, 1) := by decide +kernel
theorem dX6_reset_2 : decode cX6_reset 2 = .ok (.bipush 20, 2) := by decide +kernel
theorem dX6_reset_4 : decode cX6_reset 4 = .ok (.invokestatic 54, 3) := by decide +kernel
theorem dX6_reset_7 : decode cX6_reset 7 = .ok (.ifCond .eq 14, 3) := by decide +kernel
theorem dX6_reset_10 : decode cX6_reset 10 = .ok (.iload_n 2, 1) := by decide +kernel
theorem dX6_reset_11 : decode cX6_reset 11 = .ok (.iconst 0, 1) := by decide +kernel
theorem dX6_reset_12 : decode cX6_reset 12 = .ok (.sipush 999, 3) := by decide +kernel
theorem dX6_reset_15 : decode cX6_reset 15 = .ok (.invokestatic 54, 3) := by decide +kernel
theorem dX6_reset_18 : decode cX6_reset 18 = .ok (.ifCond .ne 6, 3) := by decide +kernel
theorem dX6_reset_21 : decode cX6_reset 21 = .ok (.bipush (-2), 2) := by decide +kernel
theorem dX6_reset_23 : decode cX6_reset 23 = .ok (.ireturn, 1) := by decide +kernel
theorem dX6_reset_24 : decode cX6_reset 24 = .ok (.aload_n 0, 1) := by decide +kernel
theorem dX6_reset_25 : decode cX6_reset 25 = .ok (.getfield 22, 3) := by decide +kernel
theorem dX6_reset_28 : decode cX6_reset 28 = .ok (.aload_n 0, 1) := by decide +kernel
theorem dX6_reset_29 : decode cX6_reset 29 = .ok (.getfield 10, 3) := by decide +kernel
theorem dX6_reset_32 : decode cX6_reset 32 = .ok (.invokevirtual 58, 3) := by decide +kernel
theorem dX6_reset_35 : decode cX6_reset 35 = .ok (.aload_n 0, 1) := by decide +kernel
theorem dX6_reset_36 : decode cX6_reset 36 = .ok (.getfield 10, 3) := by decide +kernel
theorem dX6_reset_39 : decode cX6_reset 39 = .ok (.invokevirtual 62, 3) := by decide +kernel
theorem dX6_reset_42 : decode cX6_reset 42 = .ok (.aload_n 0, 1) := by decide +kernel
theorem dX6_reset_43 : decode cX6_reset 43 = .ok (.getfield 10, 3) := by decide +kernel
theorem dX6_reset_46 : decode cX6_reset 46 = .ok (.iload_n 1, 1) := by decide +kernel
theorem dX6_reset_47 : decode cX6_reset 47 = .ok (.iload_n 2, 1) := by decide +kernel
theorem dX6_reset_48 : decode cX6_reset 48 = .ok (.iconst 0, 1) := by decide +kernel
theorem dX6_reset_49 : decode cX6_reset 49 = .ok (.invokevirtual 65, 3) := by decide +kernel
theorem dX6_reset_52 : decode cX6_reset 52 = .ok (.iload_n 1, 1) := by decide +kernel
theorem dX6_reset_53 : decode cX6_reset 53 = .ok (.ireturn, 1) := by decide +kernel
set_option maxRecDepth 20000 in
theorem ggX6_setGround_X3_has : GoodIn wsX6_setGround wsX3_has := goodIn_r _ [8, 9, 45, 46, 47, 48, 49] (by decide +kernel) (by decide +kernel)
set_option maxRecDepth 20000 in
theorem gX6_setGround_X3_has : GoodIn wsX6_setGround (wsV RX6 69 RX3 yX3_has wsX3_has) := goodIn_app (goodIn_of _ (by decide +kernel)) ggX6_setGround_X3_has
set_option maxRecDepth 20000 in
theorem ggX6_setGround_X6_within : GoodIn wsX6_setGround wsX6_within := goodIn_r _ [13] (by decide +kernel) (by decide +kernel)
set_option maxRecDepth 20000 in
theorem gX6_setGround_X6_within : GoodIn wsX6_setGround (va_wsS RX6 54 yX6_within wsX6_within) := goodIn_app (goodIn_of _ (by decide +kernel)) ggX6_setGround_X6_within
set_option maxRecDepth 20000 in
theorem ggX6_setGround_X2_keep : GoodIn wsX6_setGround wsX2_keep := goodIn_r _ [18, 19, 20, 21, 22, 23, 24, 25, 26, 27, 28, 7, 29, 30, 31, 32, 33, 34, 35, 9, 36, 37, 50, 51, 52, 45, 46, 47, 48, 49] (by decide +kernel) (by decide +kernel)
set_option maxRecDepth 20000 in
theorem gX6_setGround_X2_keep : GoodIn wsX6_setGround (wsV RX6 58 RX2 yX2_keep wsX2_keep) := goodIn_app (goodIn_of _ (by decide +kernel)) ggX6_setGround_X2_keep
theorem dX6_setGround_0 : decode cX6_setGround 0 = .ok (.aload_n 0, 1) := by decide +kernel
theorem dX6_setGround_1 : decode cX6_setGround 1 = .ok (.getfield 10, 3) := by decide +kernel
theorem dX6_setGround_4 : decode cX6_setGround 4 = .ok (.iload_n 1, 1) := by decide +kernel
theorem dX6_setGround_5 : decode cX6_setGround 5 = .ok (.invokevirtual 69, 3) := by decide +kernel
theorem dX6_setGround_8 : decode cX6_setGround 8 = .ok (.ifCond .eq 14, 3) := by decide +kernel
theorem dX6_setGround_11 : decode cX6_setGround 11 = .ok (.iload_n 2, 1) := by decide +kernel
theorem dX6_setGround_12 : decode cX6_setGround 12 = .ok (.iconst 0, 1) := by decide +kernel
theorem dX6_setGround_13 : decode cX6_setGround 13 = .ok (.sipush 999, 3) := by decide +kernel
theorem dX6_setGround_16 : decode cX6_setGround 16 = .ok (.invokestatic 54, 3) := by decide +kernel
theorem dX6_setGround_19 : decode cX6_setGround 19 = .ok (.ifCond .ne 6, 3) := by decide +kernel
theorem dX6_setGround_22 : decode cX6_setGround 22 = .ok (.bipush (-2), 2) := by decide +kernel
theorem dX6_setGround_24 : decode cX6_setGround 24 = .ok (.ireturn, 1) := by decide +kernel
theorem dX6_setGround_25 : decode cX6_setGround 25 = .ok (.aload_n 0, 1) := by decide +kernel
theorem dX6_setGround_26 : decode cX6_setGround 26 = .ok (.getfield 22, 3) := by decide +kernel
theorem dX6_setGround_29 : decode cX6_setGround 29 = .ok (.aload_n 0, 1) := by decide +kernel
theorem dX6_setGround_30 : decode cX6_setGround 30 = .ok (.getfield 10, 3) := by decide +kernel
theorem dX6_setGround_33 : decode cX6_setGround 33 = .ok (.invokevirtual 58, 3) := by decide +kernel
theorem dX6_setGround_36 : decode cX6_setGround 36 = .ok (.aload_n 0, 1) := by decide +kernel
theorem dX6_setGround_37 : decode cX6_setGround 37 = .ok (.getfield 10, 3) := by decide +kernel
theorem dX6_setGround_40 : decode cX6_setGround 40 = .ok (.getfield 73, 3) := by decide +kernel
theorem dX6_setGround_43 : decode cX6_setGround 43 = .ok (.iload_n 1, 1) := by decide +kernel
theorem dX6_setGround_44 : decode cX6_setGround 44 = .ok (.iaload, 1) := by decide +kernel
theorem dX6_setGround_45 : decode cX6_setGround 45 = .ok (.istore_n 3, 1) := by decide +kernel
theorem dX6_setGround_46 : decode cX6_setGround 46 = .ok (.aload_n 0, 1) := by decide +kernel
theorem dX6_setGround_47 : decode cX6_setGround 47 = .ok (.getfield 10, 3) := by decide +kernel
theorem dX6_setGround_50 : decode cX6_setGround 50 = .ok (.getfield 73, 3) := by decide +kernel
theorem dX6_setGround_53 : decode cX6_setGround 53 = .ok (.iload_n 1, 1) := by decide +kernel
theorem dX6_setGround_54 : decode cX6_setGround 54 = .ok (.iload_n 2, 1) := by decide +kernel
theorem dX6_setGround_55 : decode cX6_setGround 55 = .ok (.iastore, 1) := by decide +kernel
theorem dX6_setGround_56 : decode cX6_setGround 56 = .ok (.iload_n 3, 1) := by decide +kernel
theorem dX6_setGround_57 : decode cX6_setGround 57 = .ok (.ireturn, 1) := by decide +kernel
set_option maxRecDepth 20000 in
theorem ggX6_slope_X3_has : GoodIn wsX6_slope wsX3_has := goodIn_r _ [7, 8, 45, 46, 47, 48, 49] (by decide +kernel) (by decide +kernel)
set_option maxRecDepth 20000 in
theorem gX6_slope_X3_has : GoodIn wsX6_slope (wsV RX6 69 RX3 yX3_has wsX3_has) := goodIn_app (goodIn_of _ (by decide +kernel)) ggX6_slope_X3_has
set_option maxRecDepth 20000 in
theorem ggX6_slope_X2_keep : GoodIn wsX6_slope wsX2_keep := goodIn_r _ [13, 14, 15, 16, 17, 18, 19, 20, 21, 22, 23, 6, 24, 25, 26, 27, 28, 29, 30, 8, 31, 32, 50, 51, 52, 45, 46, 47, 48, 49] (by decide +kernel) (by decide +kernel)
set_option maxRecDepth 20000 in
theorem gX6_slope_X2_keep : GoodIn wsX6_slope (wsV RX6 58 RX2 yX2_keep wsX2_keep) := goodIn_app (goodIn_of _ (by decide +kernel)) ggX6_slope_X2_keep
set_option maxRecDepth 20000 in
theorem ggX6_slope_X3_even : GoodIn wsX6_slope wsX3_even := goodIn_r _ [36, 31, 37, 4, 5, 6, 7, 8, 45, 46, 47, 48, 49] (by decide +kernel) (by decide +kernel)
set_option maxRecDepth 20000 in
theorem gX6_slope_X3_even : GoodIn wsX6_slope (wsV RX6 77 RX3 yX3_even wsX3_even) := goodIn_app (goodIn_of _ (by decide +kernel)) ggX6_slope_X3_even
theorem dX6_slope_0 : decode cX6_slope 0 = .ok (.aload_n 0, 1) := by decide +kernel
theorem dX6_slope_1 : decode cX6_slope 1 = .ok (.getfield 10, 3) := by decide +kernel
theorem dX6_slope_4 : decode cX6_slope 4 = .ok (.iload_n 1, 1) := by decide +kernel
theorem dX6_slope_5 : decode cX6_slope 5 = .ok (.invokevirtual 69, 3) := by decide +kernel
theorem dX6_slope_8 : decode cX6_slope 8 = .ok (.ifCond .eq 19, 3) := by decide +kernel
theorem dX6_slope_11 : decode cX6_slope 11 = .ok (.aload_n 0, 1) := by decide +kernel
theorem dX6_slope_12 : decode cX6_slope 12 = .ok (.getfield 10, 3) := by decide +kernel
theorem dX6_slope_15 : decode cX6_slope 15 = .ok (.iload_n 2, 1) := by decide +kernel
theorem dX6_slope_16 : decode cX6_slope 16 = .ok (.invokevirtual 69, 3) := by decide +kernel
theorem dX6_slope_19 : decode cX6_slope 19 = .ok (.ifCond .eq 8, 3) := by decide +kernel
theorem dX6_slope_22 : decode cX6_slope 22 = .ok (.iload_n 1, 1) := by decide +kernel
theorem dX6_slope_23 : decode cX6_slope 23 = .ok (.iload_n 2, 1) := by decide +kernel
theorem dX6_slope_24 : decode cX6_slope 24 = .ok (.if_icmp .lt 6, 3) := by decide +kernel
theorem dX6_slope_27 : decode cX6_slope 27 = .ok (.bipush (-2), 2) := by decide +kernel
theorem dX6_slope_29 : decode cX6_slope 29 = .ok (.ireturn, 1) := by decide +kernel
theorem dX6_slope_30 : decode cX6_slope 30 = .ok (.aload_n 0, 1) := by decide +kernel
theorem dX6_slope_31 : decode cX6_slope 31 = .ok (.getfield 22, 3) := by decide +kernel
theorem dX6_slope_34 : decode cX6_slope 34 = .ok (.aload_n 0, 1) := by decide +kernel
theorem dX6_slope_35 : decode cX6_slope 35 = .ok (.getfield 10, 3) := by decide +kernel
theorem dX6_slope_38 : decode cX6_slope 38 = .ok (.invokevirtual 58, 3) := by decide +kernel
theorem dX6_slope_41 : decode cX6_slope 41 = .ok (.aload_n 0, 1) := by decide +kernel
theorem dX6_slope_42 : decode cX6_slope 42 = .ok (.getfield 10, 3) := by decide +kernel
theorem dX6_slope_45 : decode cX6_slope 45 = .ok (.iload_n 1, 1) := by decide +kernel
theorem dX6_slope_46 : decode cX6_slope 46 = .ok (.iload_n 2, 1) := by decide +kernel
theorem dX6_slope_47 : decode cX6_slope 47 = .ok (.invokevirtual 77, 3) := by decide +kernel
theorem dX6_slope_50 : decode cX6_slope 50 = .ok (.ireturn, 1) := by decide +kernel
set_option maxRecDepth 20000 in
theorem ggX6_mast_X3_has : GoodIn wsX6_mast wsX3_has := goodIn_r _ [8, 9, 45, 46, 47, 48, 49] (by decide +kernel) (by decide +kernel)
set_option maxRecDepth 20000 in
theorem gX6_mast_X3_has : GoodIn wsX6_mast (wsV RX6 69 RX3 yX3_has wsX3_has) := goodIn_app (goodIn_of _ (by decide +kernel)) ggX6_mast_X3_has
set_option maxRecDepth 20000 in
theorem ggX6_mast_X6_within : GoodIn wsX6_mast wsX6_within := goodIn_r _ [13] (by decide +kernel) (by decide +kernel)
set_option maxRecDepth 20000 in
theorem gX6_mast_X6_within : GoodIn wsX6_mast (va_wsS RX6 54 yX6_within wsX6_within) := goodIn_app (goodIn_of _ (by decide +kernel)) ggX6_mast_X6_within
set_option maxRecDepth 20000 in
theorem ggX6_mast_X2_keep : GoodIn wsX6_mast wsX2_keep := goodIn_r _ [18, 19, 20, 21, 22, 23, 24, 25, 26, 27, 28, 7, 29, 30, 31, 32, 33, 34, 35, 9, 36, 37, 50, 51, 52, 45, 46, 47, 48, 49] (by decide +kernel) (by decide +kernel)
set_option maxRecDepth 20000 in
theorem gX6_mast_X2_keep : GoodIn wsX6_mast (wsV RX6 58 RX2 yX2_keep wsX2_keep) := goodIn_app (goodIn_of _ (by decide +kernel)) ggX6_mast_X2_keep
theorem dX6_mast_0 : decode cX6_mast 0 = .ok (.aload_n 0, 1) := by decide +kernel
theorem dX6_mast_1 : decode cX6_mast 1 = .ok (.getfield 10, 3) := by decide +kernel
theorem dX6_mast_4 : decode cX6_mast 4 = .ok (.iload_n 1, 1) := by decide +kernel
theorem dX6_mast_5 : decode cX6_mast 5 = .ok (.invokevirtual 69, 3) := by decide +kernel
theorem dX6_mast_8 : decode cX6_mast 8 = .ok (.ifCond .eq 14, 3) := by decide +kernel
theorem dX6_mast_11 : decode cX6_mast 11 = .ok (.iload_n 2, 1) := by decide +kernel
theorem dX6_mast_12 : decode cX6_mast 12 = .ok (.iconst 0, 1) := by decide +kernel
theorem dX6_mast_13 : decode cX6_mast 13 = .ok (.sipush 200, 3) := by decide +kernel
theorem dX6_mast_16 : decode cX6_mast 16 = .ok (.invokestatic 54, 3) := by decide +kernel
theorem dX6_mast_19 : decode cX6_mast 19 = .ok (.ifCond .ne 6, 3) := by decide +kernel
theorem dX6_mast_22 : decode cX6_mast 22 = .ok (.bipush (-2), 2) := by decide +kernel
theorem dX6_mast_24 : decode cX6_mast 24 = .ok (.ireturn, 1) := by decide +kernel
theorem dX6_mast_25 : decode cX6_mast 25 = .ok (.aload_n 0, 1) := by decide +kernel
theorem dX6_mast_26 : decode cX6_mast 26 = .ok (.getfield 22, 3) := by decide +kernel
theorem dX6_mast_29 : decode cX6_mast 29 = .ok (.aload_n 0, 1) := by decide +kernel
theorem dX6_mast_30 : decode cX6_mast 30 = .ok (.getfield 10, 3) := by decide +kernel
theorem dX6_mast_33 : decode cX6_mast 33 = .ok (.invokevirtual 58, 3) := by decide +kernel
theorem dX6_mast_36 : decode cX6_mast 36 = .ok (.aload_n 0, 1) := by decide +kernel
theorem dX6_mast_37 : decode cX6_mast 37 = .ok (.getfield 10, 3) := by decide +kernel
theorem dX6_mast_40 : decode cX6_mast 40 = .ok (.getfield 81, 3) := by decide +kernel
theorem dX6_mast_43 : decode cX6_mast 43 = .ok (.iload_n 1, 1) := by decide +kernel
theorem dX6_mast_44 : decode cX6_mast 44 = .ok (.iaload, 1) := by decide +kernel
theorem dX6_mast_45 : decode cX6_mast 45 = .ok (.istore_n 3, 1) := by decide +kernel
theorem dX6_mast_46 : decode cX6_mast 46 = .ok (.aload_n 0, 1) := by decide +kernel
theorem dX6_mast_47 : decode cX6_mast 47 = .ok (.getfield 10, 3) := by decide +kernel
theorem dX6_mast_50 : decode cX6_mast 50 = .ok (.getfield 81, 3) := by decide +kernel
theorem dX6_mast_53 : decode cX6_mast 53 = .ok (.iload_n 1, 1) := by decide +kernel
theorem dX6_mast_54 : decode cX6_mast 54 = .ok (.iload_n 2, 1) := by decide +kernel
theorem dX6_mast_55 : decode cX6_mast 55 = .ok (.iastore, 1) := by decide +kernel
theorem dX6_mast_56 : decode cX6_mast 56 = .ok (.iload_n 3, 1) := by decide +kernel
theorem dX6_mast_57 : decode cX6_mast 57 = .ok (.ireturn, 1) := by decide +kernel
set_option maxRecDepth 20000 in
theorem ggX6_reverse_X2_keep : GoodIn wsX6_reverse wsX2_keep := goodIn_r _ [8, 9, 10, 11, 12, 13, 14, 15, 16, 17, 18, 19, 20, 21, 22, 23, 24, 25, 26, 27, 28, 29, 42, 43, 44, 45, 46, 47, 48, 49] (by decide +kernel) (by decide +kernel)
set_option maxRecDepth 20000 in
theorem gX6_reverse_X2_keep : GoodIn wsX6_reverse (wsV RX6 58 RX2 yX2_keep wsX2_keep) := goodIn_app (goodIn_of _ (by decide +kernel)) ggX6_reverse_X2_keep
set_option maxRecDepth 20000 in
theorem ggX6_reverse_X3_copyFrom : GoodIn wsX6_reverse wsX3_copyFrom := goodIn_r _ [20, 21, 22, 23, 24, 25, 19, 26, 27, 28, 29, 45, 46, 47, 48, 49] (by decide +kernel) (by decide +kernel)
set_option maxRecDepth 20000 in
theorem gX6_reverse_X3_copyFrom : GoodIn wsX6_reverse (wsV RX6 84 RX3 yX3_copyFrom wsX3_copyFrom) := goodIn_app (goodIn_of _ (by decide +kernel)) ggX6_reverse_X3_copyFrom
set_option maxRecDepth 20000 in
theorem ggX6_reverse_X3_takeReversed : GoodIn wsX6_reverse wsX3_takeReversed := goodIn_r _ [34, 27, 28, 29, 45, 46, 47, 48, 49] (by decide +kernel) (by decide +kernel)
set_option maxRecDepth 20000 in
theorem gX6_reverse_X3_takeReversed : GoodIn wsX6_reverse (wsV RX6 87 RX3 yX3_takeReversed wsX3_takeReversed) := goodIn_app (goodIn_of _ (by decide +kernel)) ggX6_reverse_X3_takeReversed
theorem dX6_reverse_0 : decode cX6_reverse 0 = .ok (.aload_n 0, 1) := by decide +kernel
theorem dX6_reverse_1 : decode cX6_reverse 1 = .ok (.getfield 22, 3) := by decide +kernel
theorem dX6_reverse_4 : decode cX6_reverse 4 = .ok (.aload_n 0, 1) := by decide +kernel
theorem dX6_reverse_5 : decode cX6_reverse 5 = .ok (.getfield 10, 3) := by decide +kernel
theorem dX6_reverse_8 : decode cX6_reverse 8 = .ok (.invokevirtual 58, 3) := by decide +kernel
theorem dX6_reverse_11 : decode cX6_reverse 11 = .ok (.aload_n 0, 1) := by decide +kernel
theorem dX6_reverse_12 : decode cX6_reverse 12 = .ok (.getfield 16, 3) := by decide +kernel
theorem dX6_reverse_15 : decode cX6_reverse 15 = .ok (.aload_n 0, 1) := by decide +kernel
theorem dX6_reverse_16 : decode cX6_reverse 16 = .ok (.getfield 10, 3) := by decide +kernel
theorem dX6_reverse_19 : decode cX6_reverse 19 = .ok (.invokevirtual 84, 3) := by decide +kernel
theorem dX6_reverse_22 : decode cX6_reverse 22 = .ok (.aload_n 0, 1) := by decide +kernel
theorem dX6_reverse_23 : decode cX6_reverse 23 = .ok (.getfield 10, 3) := by decide +kernel
theorem dX6_reverse_26 : decode cX6_reverse 26 = .ok (.aload_n 0, 1) := by decide +kernel
theorem dX6_reverse_27 : decode cX6_reverse 27 = .ok (.getfield 16, 3) := by decide +kernel
theorem dX6_reverse_30 : decode cX6_reverse 30 = .ok (.invokevirtual 87, 3) := by decide +kernel
theorem dX6_reverse_33 : decode cX6_reverse 33 = .ok (.ireturn, 1) := by decide +kernel
set_option maxRecDepth 20000 in
theorem ggX6_setRange_X6_within : GoodIn wsX6_setRange wsX6_within := goodIn_r _ [7] (by decide +kernel) (by decide +kernel)
set_option maxRecDepth 20000 in
theorem gX6_setRange_X6_within : GoodIn wsX6_setRange (va_wsS RX6 54 yX6_within wsX6_within) := goodIn_app (goodIn_of _ (by decide +kernel)) ggX6_setRange_X6_within
set_option maxRecDepth 20000 in
theorem ggX6_setRange_X2_keep : GoodIn wsX6_setRange wsX2_keep := goodIn_r _ [12, 13, 14, 15, 16, 17, 18, 19, 20, 21, 22, 23, 24, 25, 26, 27, 28, 29, 30, 31, 32, 33, 46, 47, 48, 41, 42, 43, 44, 45] (by decide +kernel) (by decide +kernel)
set_option maxRecDepth 20000 in
theorem gX6_setRange_X2_keep : GoodIn wsX6_setRange (wsV RX6 58 RX2 yX2_keep wsX2_keep) := goodIn_app (goodIn_of _ (by decide +kernel)) ggX6_setRange_X2_keep
theorem dX6_setRange_0 : decode cX6_setRange 0 = .ok (.iload_n 1, 1) := by decide +kernel
theorem dX6_setRange_1 : decode cX6_setRange 1 = .ok (.iconst 1, 1) := by decide +kernel
theorem dX6_setRange_2 : decode cX6_setRange 2 = .ok (.bipush 19, 2) := by decide +kernel
theorem dX6_setRange_4 : decode cX6_setRange 4 = .ok (.invokestatic 54, 3) := by decide +kernel
theorem dX6_setRange_7 : decode cX6_setRange 7 = .ok (.ifCond .ne 6, 3) := by decide +kernel
theorem dX6_setRange_10 : decode cX6_setRange 10 = .ok (.bipush (-2), 2) := by decide +kernel
theorem dX6_setRange_12 : decode cX6_setRange 12 = .ok (.ireturn, 1) := by decide +kernel
theorem dX6_setRange_13 : decode cX6_setRange 13 = .ok (.aload_n 0, 1) := by decide +kernel
theorem dX6_setRange_14 : decode cX6_setRange 14 = .ok (.getfield 22, 3) := by decide +kernel
theorem dX6_setRange_17 : decode cX6_setRange 17 = .ok (.aload_n 0, 1) := by decide +kernel
theorem dX6_setRange_18 : decode cX6_setRange 18 = .ok (.getfield 10, 3) := by decide +kernel
theorem dX6_setRange_21 : decode cX6_setRange 21 = .ok (.invokevirtual 58, 3) := by decide +kernel
theorem dX6_setRange_24 : decode cX6_setRange 24 = .ok (.aload_n 0, 1) := by decide +kernel
theorem dX6_setRange_25 : decode cX6_setRange 25 = .ok (.getfield 10, 3) := by decide +kernel
theorem dX6_setRange_28 : decode cX6_setRange 28 = .ok (.getfield 91, 3) := by decide +kernel
theorem dX6_setRange_31 : decode cX6_setRange 31 = .ok (.istore_n 2, 1) := by decide +kernel
theorem dX6_setRange_32 : decode cX6_setRange 32 = .ok (.aload_n 0, 1) := by decide +kernel
theorem dX6_setRange_33 : decode cX6_setRange 33 = .ok (.getfield 10, 3) := by decide +kernel
theorem dX6_setRange_36 : decode cX6_setRange 36 = .ok (.iload_n 1, 1) := by decide +kernel
theorem dX6_setRange_37 : decode cX6_setRange 37 = .ok (.putfield 91, 3) := by decide +kernel
theorem dX6_setRange_40 : decode cX6_setRange 40 = .ok (.iload_n 2, 1) := by decide +kernel
theorem dX6_setRange_41 : decode cX6_setRange 41 = .ok (.ireturn, 1) := by decide +kernel
set_option maxRecDepth 20000 in
theorem ggX6_setBulge_X6_within : GoodIn wsX6_setBulge wsX6_within := goodIn_r _ [7] (by decide +kernel) (by decide +kernel)
set_option maxRecDepth 20000 in
theorem gX6_setBulge_X6_within : GoodIn wsX6_setBulge (va_wsS RX6 54 yX6_within wsX6_within) := goodIn_app (goodIn_of _ (by decide +kernel)) ggX6_setBulge_X6_within
set_option maxRecDepth 20000 in
theorem ggX6_setBulge_X2_keep : GoodIn wsX6_setBulge wsX2_keep := goodIn_r _ [12, 13, 14, 15, 16, 17, 18, 19, 20, 21, 22, 23, 24, 25, 26, 27, 28, 29, 30, 31, 32, 33, 46, 47, 48, 41, 42, 43, 44, 45] (by decide +kernel) (by decide +kernel)
set_option maxRecDepth 20000 in
theorem gX6_setBulge_X2_keep : GoodIn wsX6_setBulge (wsV RX6 58 RX2 yX2_keep wsX2_keep) := goodIn_app (goodIn_of _ (by decide +kernel)) ggX6_setBulge_X2_keep
theorem dX6_setBulge_0 : decode cX6_setBulge 0 = .ok (.iload_n 1, 1) := by decide +kernel
theorem dX6_setBulge_1 : decode cX6_setBulge 1 = .ok (.iconst 0, 1) := by decide +kernel
theorem dX6_setBulge_2 : decode cX6_setBulge 2 = .ok (.bipush 9, 2) := by decide +kernel
theorem dX6_setBulge_4 : decode cX6_setBulge 4 = .ok (.invokestatic 54, 3) := by decide +kernel
theorem dX6_setBulge_7 : decode cX6_setBulge 7 = .ok (.ifCond .ne 6, 3) := by decide +kernel
theorem dX6_setBulge_10 : decode cX6_setBulge 10 = .ok (.bipush (-2), 2) := by decide +kernel
theorem dX6_setBulge_12 : decode cX6_setBulge 12 = .ok (.ireturn, 1) := by decide +kernel
theorem dX6_setBulge_13 : decode cX6_setBulge 13 = .ok (.aload_n 0, 1) := by decide +kernel
theorem dX6_setBulge_14 : decode cX6_setBulge 14 = .ok (.getfield 22, 3) := by decide +kernel
theorem dX6_setBulge_17 : decode cX6_setBulge 17 = .ok (.aload_n 0, 1) := by decide +kernel
theorem dX6_setBulge_18 : decode cX6_setBulge 18 = .ok (.getfield 10, 3) := by decide +kernel
theorem dX6_setBulge_21 : decode cX6_setBulge 21 = .ok (.invokevirtual 58, 3) := by decide +kernel
theorem dX6_setBulge_24 : decode cX6_setBulge 24 = .ok (.aload_n 0, 1) := by decide +kernel
theorem dX6_setBulge_25 : decode cX6_setBulge 25 = .ok (.getfield 10, 3) := by decide +kernel
theorem dX6_setBulge_28 : decode cX6_setBulge 28 = .ok (.getfield 95, 3) := by decide +kernel
theorem dX6_setBulge_31 : decode cX6_setBulge 31 = .ok (.istore_n 2, 1) := by decide +kernel
theorem dX6_setBulge_32 : decode cX6_setBulge 32 = .ok (.aload_n 0, 1) := by decide +kernel
theorem dX6_setBulge_33 : decode cX6_setBulge 33 = .ok (.getfield 10, 3) := by decide +kernel
theorem dX6_setBulge_36 : decode cX6_setBulge 36 = .ok (.iload_n 1, 1) := by decide +kernel
theorem dX6_setBulge_37 : decode cX6_setBulge 37 = .ok (.putfield 95, 3) := by decide +kernel
theorem dX6_setBulge_40 : decode cX6_setBulge 40 = .ok (.iload_n 2, 1) := by decide +kernel
theorem dX6_setBulge_41 : decode cX6_setBulge 41 = .ok (.ireturn, 1) := by decide +kernel
set_option maxRecDepth 20000 in
theorem ggX6_undo_X2_restore : GoodIn wsX6_undo wsX2_restore := goodIn_r _ [8, 9, 10, 11, 12, 13, 14, 15, 16, 17, 18, 19, 20, 21, 22, 23, 24, 25, 33, 34, 35, 36, 37, 38, 39, 40] (by decide +kernel) (by decide +kernel)
set_option maxRecDepth 20000 in
theorem gX6_undo_X2_restore : GoodIn wsX6_undo (wsV RX6 101 RX2 yX2_restore wsX2_restore) := goodIn_app (goodIn_of _ (by decide +kernel)) ggX6_undo_X2_restore
theorem dX6_undo_0 : decode cX6_undo 0 = .ok (.aload_n 0, 1) := by decide +kernel
theorem dX6_undo_1 : decode cX6_undo 1 = .ok (.getfield 22, 3) := by decide +kernel
theorem dX6_undo_4 : decode cX6_undo 4 = .ok (.getfield 98, 3) := by decide +kernel
theorem dX6_undo_7 : decode cX6_undo 7 = .ok (.ifCond .ne 6, 3) := by decide +kernel
theorem dX6_undo_10 : decode cX6_undo 10 = .ok (.bipush (-3), 2) := by decide +kernel
theorem dX6_undo_12 : decode cX6_undo 12 = .ok (.ireturn, 1) := by decide +kernel
theorem dX6_undo_13 : decode cX6_undo 13 = .ok (.aload_n 0, 1) := by decide +kernel
theorem dX6_undo_14 : decode cX6_undo 14 = .ok (.getfield 22, 3) := by decide +kernel
theorem dX6_undo_17 : decode cX6_undo 17 = .ok (.aload_n 0, 1) := by decide +kernel
theorem dX6_undo_18 : decode cX6_undo 18 = .ok (.getfield 10, 3) := by decide +kernel
theorem dX6_undo_21 : decode cX6_undo 21 = .ok (.invokevirtual 101, 3) := by decide +kernel
theorem dX6_undo_24 : decode cX6_undo 24 = .ok (.aload_n 0, 1) := by decide +kernel
theorem dX6_undo_25 : decode cX6_undo 25 = .ok (.getfield 22, 3) := by decide +kernel
theorem dX6_undo_28 : decode cX6_undo 28 = .ok (.getfield 98, 3) := by decide +kernel
theorem dX6_undo_31 : decode cX6_undo 31 = .ok (.ireturn, 1) := by decide +kernel
set_option maxRecDepth 20000 in
theorem ggX6_type_X6_within : GoodIn wsX6_type wsX6_within := goodIn_r _ [6] (by decide +kernel) (by decide +kernel)
set_option maxRecDepth 20000 in
theorem gX6_type_X6_within : GoodIn wsX6_type (va_wsS RX6 54 yX6_within wsX6_within) := goodIn_app (goodIn_of _ (by decide +kernel)) ggX6_type_X6_within
set_option maxRecDepth 20000 in
theorem ggX6_type_X5_append : GoodIn wsX6_type wsX5_append := goodIn_r _ [11, 12, 13, 21, 22, 23, 24] (by decide +kernel) (by decide +kernel)
set_option maxRecDepth 20000 in
theorem gX6_type_X5_append : GoodIn wsX6_type (wsV RX6 104 RX5 yX5_append wsX5_append) := goodIn_app (goodIn_of _ (by decide +kernel)) ggX6_type_X5_append
theorem dX6_type_0 : decode cX6_type 0 = .ok (.iload_n 1, 1) := by decide +kernel
theorem dX6_type_1 : decode cX6_type 1 = .ok (.iconst 0, 1) := by decide +kernel
theorem dX6_type_2 : decode cX6_type 2 = .ok (.bipush 127, 2) := by decide +kernel
theorem dX6_type_4 : decode cX6_type 4 = .ok (.invokestatic 54, 3) := by decide +kernel
theorem dX6_type_7 : decode cX6_type 7 = .ok (.ifCond .ne 6, 3) := by decide +kernel
theorem dX6_type_10 : decode cX6_type 10 = .ok (.bipush (-2), 2) := by decide +kernel
theorem dX6_type_12 : decode cX6_type 12 = .ok (.ireturn, 1) := by decide +kernel
theorem dX6_type_13 : decode cX6_type 13 = .ok (.aload_n 0, 1) := by decide +kernel
theorem dX6_type_14 : decode cX6_type 14 = .ok (.getfield 29, 3) := by decide +kernel
theorem dX6_type_17 : decode cX6_type 17 = .ok (.iload_n 1, 1) := by decide +kernel
theorem dX6_type_18 : decode cX6_type 18 = .ok (.invokevirtual 104, 3) := by decide +kernel
theorem dX6_type_21 : decode cX6_type 21 = .ok (.ifCond .eq 13, 3) := by decide +kernel
theorem dX6_type_24 : decode cX6_type 24 = .ok (.aload_n 0, 1) := by decide +kernel
theorem dX6_type_25 : decode cX6_type 25 = .ok (.getfield 29, 3) := by decide +kernel
theorem dX6_type_28 : decode cX6_type 28 = .ok (.getfield 106, 3) := by decide +kernel
theorem dX6_type_31 : decode cX6_type 31 = .ok (.goto 5, 3) := by decide +kernel
theorem dX6_type_34 : decode cX6_type 34 = .ok (.bipush (-4), 2) := by decide +kernel
theorem dX6_type_36 : decode cX6_type 36 = .ok (.ireturn, 1) := by decide +kernel
theorem dX6_clearText_0 : decode cX6_clearText 0 = .ok (.aload_n 0, 1) := by decide +kernel
theorem dX6_clearText_1 : decode cX6_clearText 1 = .ok (.getfield 29, 3) := by decide +kernel
theorem dX6_clearText_4 : decode cX6_clearText 4 = .ok (.getfield 106, 3) := by decide +kernel
theorem dX6_clearText_7 : decode cX6_clearText 7 = .ok (.istore_n 1, 1) := by decide +kernel
theorem dX6_clearText_8 : decode cX6_clearText 8 = .ok (.aload_n 0, 1) := by decide +kernel
theorem dX6_clearText_9 : decode cX6_clearText 9 = .ok (.getfield 29, 3) := by decide +kernel
theorem dX6_clearText_12 : decode cX6_clearText 12 = .ok (.iconst 0, 1) := by decide +kernel
theorem dX6_clearText_13 : decode cX6_clearText 13 = .ok (.putfield 106, 3) := by decide +kernel
theorem dX6_clearText_16 : decode cX6_clearText 16 = .ok (.iload_n 1, 1) := by decide +kernel
theorem dX6_clearText_17 : decode cX6_clearText 17 = .ok (.ireturn, 1) := by decide +kernel
set_option maxRecDepth 20000 in
theorem ggX6_fault_X5_read : GoodIn wsX6_fault wsX5_read := goodIn_r _ [7, 8, 9, 10, 11, 12, 13, 14, 15, 16, 17, 18, 19, 6, 20, 21, 22, 23, 24, 25, 26, 27, 28, 29, 30, 31, 32, 33, 34, 35, 36, 37, 38, 39, 40, 41, 42, 43, 44, 45, 46, 47, 55, 56, 57, 58, 59, 60, 61, 62, 63] (by decide +kernel) (by decide +kernel)
set_option maxRecDepth 20000 in
theorem gX6_fault_X5_read : GoodIn wsX6_fault (wsV RX6 109 RX5 yX5_read wsX5_read) := goodIn_app (goodIn_of _ (by decide +kernel)) ggX6_fault_X5_read
theorem dX6_fault_0 : decode cX6_fault 0 = .ok (.aload_n 0, 1) := by decide +kernel
theorem dX6_fault_1 : decode cX6_fault 1 = .ok (.getfield 29, 3) := by decide +kernel
theorem dX6_fault_4 : decode cX6_fault 4 = .ok (.aload_n 0, 1) := by decide +kernel
theorem dX6_fault_5 : decode cX6_fault 5 = .ok (.getfield 16, 3) := by decide +kernel
theorem dX6_fault_8 : decode cX6_fault 8 = .ok (.invokevirtual 109, 3) := by decide +kernel
theorem dX6_fault_11 : decode cX6_fault 11 = .ok (.ireturn, 1) := by decide +kernel
set_option maxRecDepth 20000 in
theorem ggX6_load_X5_read : GoodIn wsX6_load wsX5_read := goodIn_r _ [11, 12, 13, 14, 15, 16, 17, 18, 19, 20, 21, 22, 23, 10, 24, 25, 26, 27, 28, 29, 30, 31, 32, 33, 34, 35, 36, 37, 38, 39, 40, 41, 42, 43, 44, 45, 46, 47, 48, 49, 50, 51, 82, 83, 84, 85, 86, 87, 88, 89, 90] (by decide +kernel) (by decide +kernel)
set_option maxRecDepth 20000 in
theorem gX6_load_X5_read : GoodIn wsX6_load (wsV RX6 109 RX5 yX5_read wsX5_read) := goodIn_app (goodIn_of _ (by decide +kernel)) ggX6_load_X5_read
set_option maxRecDepth 20000 in
theorem ggX6_load_X2_keep : GoodIn wsX6_load wsX2_keep := goodIn_r _ [56, 57, 58, 59, 60, 61, 62, 63, 64, 65, 66, 18, 67, 68, 69, 70, 71, 72, 73, 20, 50, 51, 91, 92, 93, 86, 87, 88, 89, 90] (by decide +kernel) (by decide +kernel)
set_option maxRecDepth 20000 in
theorem gX6_load_X2_keep : GoodIn wsX6_load (wsV RX6 58 RX2 yX2_keep wsX2_keep) := goodIn_app (goodIn_of _ (by decide +kernel)) ggX6_load_X2_keep
set_option maxRecDepth 20000 in
theorem ggX6_load_X3_takeStations : GoodIn wsX6_load wsX3_takeStations := goodIn_r _ [73, 20, 50, 51, 86, 87, 88, 89, 90] (by decide +kernel) (by decide +kernel)
set_option maxRecDepth 20000 in
theorem gX6_load_X3_takeStations : GoodIn wsX6_load (wsV RX6 112 RX3 yX3_takeStations wsX3_takeStations) := goodIn_app (goodIn_of _ (by decide +kernel)) ggX6_load_X3_takeStations
theorem dX6_load_0 : decode cX6_load 0 = .ok (.aload_n 0, 1) := by decide +kernel
theorem dX6_load_1 : decode cX6_load 1 = .ok (.getfield 29, 3) := by decide +kernel
theorem dX6_load_4 : decode cX6_load 4 = .ok (.aload_n 0, 1) := by decide +kernel
theorem dX6_load_5 : decode cX6_load 5 = .ok (.getfield 16, 3) := by decide +kernel
theorem dX6_load_8 : decode cX6_load 8 = .ok (.invokevirtual 109, 3) := by decide +kernel
theorem dX6_load_11 : decode cX6_load 11 = .ok (.iconst (-1), 1) := by decide +kernel
theorem dX6_load_12 : decode cX6_load 12 = .ok (.if_icmp .eq 6, 3) := by decide +kernel
theorem dX6_load_15 : decode cX6_load 15 = .ok (.bipush (-3), 2) := by decide +kernel
theorem dX6_load_17 : decode cX6_load 17 = .ok (.ireturn, 1) := by decide +kernel
theorem dX6_load_18 : decode cX6_load 18 = .ok (.aload_n 0, 1) := by decide +kernel
theorem dX6_load_19 : decode cX6_load 19 = .ok (.getfield 22, 3) := by decide +kernel
theorem dX6_load_22 : decode cX6_load 22 = .ok (.aload_n 0, 1) := by decide +kernel
theorem dX6_load_23 : decode cX6_load 23 = .ok (.getfield 10, 3) := by decide +kernel
theorem dX6_load_26 : decode cX6_load 26 = .ok (.invokevirtual 58, 3) := by decide +kernel
theorem dX6_load_29 : decode cX6_load 29 = .ok (.aload_n 0, 1) := by decide +kernel
theorem dX6_load_30 : decode cX6_load 30 = .ok (.getfield 10, 3) := by decide +kernel
theorem dX6_load_33 : decode cX6_load 33 = .ok (.aload_n 0, 1) := by decide +kernel
theorem dX6_load_34 : decode cX6_load 34 = .ok (.getfield 16, 3) := by decide +kernel
theorem dX6_load_37 : decode cX6_load 37 = .ok (.invokevirtual 112, 3) := by decide +kernel
theorem dX6_load_40 : decode cX6_load 40 = .ok (.aload_n 0, 1) := by decide +kernel
theorem dX6_load_41 : decode cX6_load 41 = .ok (.getfield 29, 3) := by decide +kernel
theorem dX6_load_44 : decode cX6_load 44 = .ok (.iconst 0, 1) := by decide +kernel
theorem dX6_load_45 : decode cX6_load 45 = .ok (.putfield 106, 3) := by decide +kernel
theorem dX6_load_48 : decode cX6_load 48 = .ok (.aload_n 0, 1) := by decide +kernel
theorem dX6_load_49 : decode cX6_load 49 = .ok (.getfield 10, 3) := by decide +kernel
theorem dX6_load_52 : decode cX6_load 52 = .ok (.getfield 115, 3) := by decide +kernel
theorem dX6_load_55 : decode cX6_load 55 = .ok (.ireturn, 1) := by decide +kernel
set_option maxRecDepth 20000 in
theorem ggX6_station_X3_has : GoodIn wsX6_station wsX3_has := goodIn_r _ [8, 9, 61, 62, 63, 64, 65] (by decide +kernel) (by decide +kernel)
set_option maxRecDepth 20000 in
theorem gX6_station_X3_has : GoodIn wsX6_station (wsV RX6 69 RX3 yX3_has wsX3_has) := goodIn_app (goodIn_of _ (by decide +kernel)) ggX6_station_X3_has
set_option maxRecDepth 20000 in
theorem ggX6_station_X3_topOf : GoodIn wsX6_station wsX3_topOf := goodIn_r _ [13, 14, 15, 16, 5, 6, 7, 8, 9, 61, 62, 63, 64, 65] (by decide +kernel) (by decide +kernel)
set_option maxRecDepth 20000 in
theorem gX6_station_X3_topOf : GoodIn wsX6_station (wsV RX6 118 RX3 yX3_topOf wsX3_topOf) := goodIn_app (goodIn_of _ (by decide +kernel)) ggX6_station_X3_topOf
set_option maxRecDepth 20000 in
theorem ggX6_station_X3_contacts : GoodIn wsX6_station wsX3_contacts := goodIn_r _ [20, 9, 21, 22, 23, 7, 24, 25, 26, 27, 28, 29, 30, 11, 12, 13, 14, 15, 16, 5, 6, 8, 31, 32, 33, 34, 35, 36, 37, 38, 39, 40, 41, 42, 43, 44, 45, 61, 62, 63, 64, 65] (by decide +kernel) (by decide +kernel)
set_option maxRecDepth 20000 in
theorem gX6_station_X3_contacts : GoodIn wsX6_station (wsV RX6 122 RX3 yX3_contacts wsX3_contacts) := goodIn_app (goodIn_of _ (by decide +kernel)) ggX6_station_X3_contacts
set_option maxRecDepth 20000 in
theorem ggX6_station_X3_groundsSeen : GoodIn wsX6_station wsX3_groundsSeen := goodIn_r _ [49, 9, 14, 31, 32, 33, 7, 34, 35, 36, 27, 37, 38, 39, 40, 41, 42, 43, 44, 25, 26, 28, 45, 16, 5, 6, 8, 61, 62, 63, 64, 65] (by decide +kernel) (by decide +kernel)
set_option maxRecDepth 20000 in
theorem gX6_station_X3_groundsSeen : GoodIn wsX6_station (wsV RX6 125 RX3 yX3_groundsSeen wsX3_groundsSeen) := goodIn_app (goodIn_of _ (by decide +kernel)) ggX6_station_X3_groundsSeen
set_option maxRecDepth 20000 in
theorem ggX6_station_X3_higherNeighbors : GoodIn wsX6_station wsX3_higherNeighbors := goodIn_r _ [53, 16, 5, 6, 7, 8, 9, 30, 11, 12, 13, 14, 15, 61, 62, 63, 64, 65] (by decide +kernel) (by decide +kernel)
set_option maxRecDepth 20000 in
theorem gX6_station_X3_higherNeighbors : GoodIn wsX6_station (wsV RX6 128 RX3 yX3_higherNeighbors wsX3_higherNeighbors) := goodIn_app (goodIn_of _ (by decide +kernel)) ggX6_station_X3_higherNeighbors
theorem dX6_station_0 : decode cX6_station 0 = .ok (.aload_n 0, 1) := by decide +kernel
theorem dX6_station_1 : decode cX6_station 1 = .ok (.getfield 10, 3) := by decide +kernel
theorem dX6_station_4 : decode cX6_station 4 = .ok (.iload_n 1, 1) := by decide +kernel
theorem dX6_station_5 : decode cX6_station 5 = .ok (.invokevirtual 69, 3) := by decide +kernel
theorem dX6_station_8 : decode cX6_station 8 = .ok (.ifCond .ne 6, 3) := by decide +kernel
theorem dX6_station_11 : decode cX6_station 11 = .ok (.bipush (-2), 2) := by decide +kernel
theorem dX6_station_13 : decode cX6_station 13 = .ok (.ireturn, 1) := by decide +kernel
theorem dX6_station_14 : decode cX6_station 14 = .ok (.iload_n 2, 1) := by decide +kernel
theorem dX6_station_15 : decode cX6_station 15 = .ok (.tableswitch 101 0 5 #[37, 47, 57, 66, 75, 92], 37) := by decide +kernel
theorem dX6_station_52 : decode cX6_station 52 = .ok (.aload_n 0, 1) := by decide +kernel
theorem dX6_station_53 : decode cX6_station 53 = .ok (.getfield 10, 3) := by decide +kernel
theorem dX6_station_56 : decode cX6_station 56 = .ok (.getfield 73, 3) := by decide +kernel
theorem dX6_station_59 : decode cX6_station 59 = .ok (.iload_n 1, 1) := by decide +kernel
theorem dX6_station_60 : decode cX6_station 60 = .ok (.iaload, 1) := by decide +kernel
theorem dX6_station_61 : decode cX6_station 61 = .ok (.ireturn, 1) := by decide +kernel
theorem dX6_station_62 : decode cX6_station 62 = .ok (.aload_n 0, 1) := by decide +kernel
theorem dX6_station_63 : decode cX6_station 63 = .ok (.getfield 10, 3) := by decide +kernel
theorem dX6_station_66 : decode cX6_station 66 = .ok (.getfield 81, 3) := by decide +kernel
theorem dX6_station_69 : decode cX6_station 69 = .ok (.iload_n 1, 1) := by decide +kernel
theorem dX6_station_70 : decode cX6_station 70 = .ok (.iaload, 1) := by decide +kernel
theorem dX6_station_71 : decode cX6_station 71 = .ok (.ireturn, 1) := by decide +kernel
theorem dX6_station_72 : decode cX6_station 72 = .ok (.aload_n 0, 1) := by decide +kernel
theorem dX6_station_73 : decode cX6_station 73 = .ok (.getfield 10, 3) := by decide +kernel
theorem dX6_station_76 : decode cX6_station 76 = .ok (.iload_n 1, 1) := by decide +kernel
theorem dX6_station_77 : decode cX6_station 77 = .ok (.invokevirtual 118, 3) := by decide +kernel
theorem dX6_station_80 : decode cX6_station 80 = .ok (.ireturn, 1) := by decide +kernel
theorem dX6_station_81 : decode cX6_station 81 = .ok (.aload_n 0, 1) := by decide +kernel
theorem dX6_station_82 : decode cX6_station 82 = .ok (.getfield 10, 3) := by decide +kernel
theorem dX6_station_85 : decode cX6_station 85 = .ok (.iload_n 1, 1) := by decide +kernel
theorem dX6_station_86 : decode cX6_station 86 = .ok (.invokevirtual 122, 3) := by decide +kernel
theorem dX6_station_89 : decode cX6_station 89 = .ok (.ireturn, 1) := by decide +kernel
theorem dX6_station_90 : decode cX6_station 90 = .ok (.aload_n 0, 1) := by decide +kernel
theorem dX6_station_91 : decode cX6_station 91 = .ok (.getfield 10, 3) := by decide +kernel
theorem dX6_station_94 : decode cX6_station 94 = .ok (.iload_n 1, 1) := by decide +kernel
theorem dX6_station_95 : decode cX6_station 95 = .ok (.aload_n 0, 1) := by decide +kernel
theorem dX6_station_96 : decode cX6_station 96 = .ok (.getfield 10, 3) := by decide +kernel
theorem dX6_station_99 : decode cX6_station 99 = .ok (.iload_n 1, 1) := by decide +kernel
theorem dX6_station_100 : decode cX6_station 100 = .ok (.invokevirtual 118, 3) := by decide +kernel
theorem dX6_station_103 : decode cX6_station 103 = .ok (.invokevirtual 125, 3) := by decide +kernel
theorem dX6_station_106 : decode cX6_station 106 = .ok (.ireturn, 1) := by decide +kernel
theorem dX6_station_107 : decode cX6_station 107 = .ok (.aload_n 0, 1) := by decide +kernel
theorem dX6_station_108 : decode cX6_station 108 = .ok (.getfield 10, 3) := by decide +kernel
theorem dX6_station_111 : decode cX6_station 111 = .ok (.iload_n 1, 1) := by decide +kernel
theorem dX6_station_112 : decode cX6_station 112 = .ok (.invokevirtual 128, 3) := by decide +kernel
theorem dX6_station_115 : decode cX6_station 115 = .ok (.ireturn, 1) := by decide +kernel
theorem dX6_station_116 : decode cX6_station 116 = .ok (.bipush (-2), 2) := by decide +kernel
theorem dX6_station_118 : decode cX6_station 118 = .ok (.ireturn, 1) := by decide +kernel
set_option maxRecDepth 20000 in
theorem ggX6_sees_X3_has : GoodIn wsX6_sees wsX3_has := goodIn_r _ [6, 7, 45, 46, 47, 48, 49] (by decide +kernel) (by decide +kernel)
set_option maxRecDepth 20000 in
theorem gX6_sees_X3_has : GoodIn wsX6_sees (wsV RX6 69 RX3 yX3_has wsX3_has) := goodIn_app (goodIn_of _ (by decide +kernel)) ggX6_sees_X3_has
set_option maxRecDepth 20000 in
theorem ggX6_sees_X3_topsSee : GoodIn wsX6_sees wsX3_topsSee := goodIn_r _ [11, 12, 13, 14, 5, 15, 16, 17, 18, 3, 4, 6, 7, 19, 20, 21, 22, 23, 24, 25, 26, 27, 28, 29, 30, 31, 32, 33, 34, 35, 36, 37, 45, 46, 47, 48, 49] (by decide +kernel) (by decide +kernel)
set_option maxRecDepth 20000 in
theorem gX6_sees_X3_topsSee : GoodIn wsX6_sees (wsV RX6 131 RX3 yX3_topsSee wsX3_topsSee) := goodIn_app (goodIn_of _ (by decide +kernel)) ggX6_sees_X3_topsSee
theorem dX6_sees_0 : decode cX6_sees 0 = .ok (.aload_n 0, 1) := by decide +kernel
theorem dX6_sees_1 : decode cX6_sees 1 = .ok (.getfield 10, 3) := by decide +kernel
theorem dX6_sees_4 : decode cX6_sees 4 = .ok (.iload_n 1, 1) := by decide +kernel
theorem dX6_sees_5 : decode cX6_sees 5 = .ok (.invokevirtual 69, 3) := by decide +kernel
theorem dX6_sees_8 : decode cX6_sees 8 = .ok (.ifCond .eq 14, 3) := by decide +kernel
theorem dX6_sees_11 : decode cX6_sees 11 = .ok (.aload_n 0, 1) := by decide +kernel
theorem dX6_sees_12 : decode cX6_sees 12 = .ok (.getfield 10, 3) := by decide +kernel
theorem dX6_sees_15 : decode cX6_sees 15 = .ok (.iload_n 2, 1) := by decide +kernel
theorem dX6_sees_16 : decode cX6_sees 16 = .ok (.invokevirtual 69, 3) := by decide +kernel
theorem dX6_sees_19 : decode cX6_sees 19 = .ok (.ifCond .ne 6, 3) := by decide +kernel
theorem dX6_sees_22 : decode cX6_sees 22 = .ok (.bipush (-2), 2) := by decide +kernel
theorem dX6_sees_24 : decode cX6_sees 24 = .ok (.ireturn, 1) := by decide +kernel
theorem dX6_sees_25 : decode cX6_sees 25 = .ok (.aload_n 0, 1) := by decide +kernel
theorem dX6_sees_26 : decode cX6_sees 26 = .ok (.getfield 10, 3) := by decide +kernel
theorem dX6_sees_29 : decode cX6_sees 29 = .ok (.iload_n 1, 1) := by decide +kernel
theorem dX6_sees_30 : decode cX6_sees 30 = .ok (.iload_n 2, 1) := by decide +kernel
theorem dX6_sees_31 : decode cX6_sees 31 = .ok (.invokevirtual 131, 3) := by decide +kernel
theorem dX6_sees_34 : decode cX6_sees 34 = .ok (.ifCond .eq 7, 3) := by decide +kernel
theorem dX6_sees_37 : decode cX6_sees 37 = .ok (.iconst 1, 1) := by decide +kernel
theorem dX6_sees_38 : decode cX6_sees 38 = .ok (.goto 4, 3) := by decide +kernel
theorem dX6_sees_41 : decode cX6_sees 41 = .ok (.iconst 0, 1) := by decide +kernel
theorem dX6_sees_42 : decode cX6_sees 42 = .ok (.ireturn, 1) := by decide +kernel
set_option maxRecDepth 20000 in
theorem ggX6_obstacle_X3_hasPair : GoodIn wsX6_obstacle wsX3_hasPair := goodIn_r _ [6, 7, 8, 9, 5, 10, 11, 50, 51, 52, 53, 54] (by decide +kernel) (by decide +kernel)
set_option maxRecDepth 20000 in
theorem gX6_obstacle_X3_hasPair : GoodIn wsX6_obstacle (wsV RX6 135 RX3 yX3_hasPair wsX3_hasPair) := goodIn_app (goodIn_of _ (by decide +kernel)) ggX6_obstacle_X3_hasPair
set_option maxRecDepth 20000 in
theorem ggX6_obstacle_X6_within : GoodIn wsX6_obstacle wsX6_within := goodIn_r _ [15] (by decide +kernel) (by decide +kernel)
set_option maxRecDepth 20000 in
theorem gX6_obstacle_X6_within : GoodIn wsX6_obstacle (va_wsS RX6 54 yX6_within wsX6_within) := goodIn_app (goodIn_of _ (by decide +kernel)) ggX6_obstacle_X6_within
set_option maxRecDepth 20000 in
theorem ggX6_obstacle_X3_mostInTheWay : GoodIn wsX6_obstacle wsX3_mostInTheWay := goodIn_r _ [19, 20, 21, 22, 23, 24, 25, 26, 27, 28, 29, 5, 30, 31, 32, 7, 8, 9, 10, 11, 33, 34, 35, 36, 37, 38, 39, 40, 50, 51, 52, 53, 54] (by decide +kernel) (by decide +kernel)
set_option maxRecDepth 20000 in
theorem gX6_obstacle_X3_mostInTheWay : GoodIn wsX6_obstacle (wsV RX6 138 RX3 yX3_mostInTheWay wsX3_mostInTheWay) := goodIn_app (goodIn_of _ (by decide +kernel)) ggX6_obstacle_X3_mostInTheWay
set_option maxRecDepth 20000 in
theorem ggX6_obstacle_X3_topOf : GoodIn wsX6_obstacle wsX3_topOf := goodIn_r _ [30, 31, 32, 7, 8, 9, 5, 10, 11, 50, 51, 52, 53, 54] (by decide +kernel) (by decide +kernel)
set_option maxRecDepth 20000 in
theorem gX6_obstacle_X3_topOf : GoodIn wsX6_obstacle (wsV RX6 118 RX3 yX3_topOf wsX3_topOf) := goodIn_app (goodIn_of _ (by decide +kernel)) ggX6_obstacle_X3_topOf
set_option maxRecDepth 20000 in
theorem ggX6_obstacle_X3_clearance : GoodIn wsX6_obstacle wsX3_clearance := goodIn_r _ [36, 37, 38, 22, 39, 31, 40, 7, 8, 9, 5, 10, 11, 50, 51, 52, 53, 54] (by decide +kernel) (by decide +kernel)
set_option maxRecDepth 20000 in
theorem gX6_obstacle_X3_clearance : GoodIn wsX6_obstacle (wsV RX6 141 RX3 yX3_clearance wsX3_clearance) := goodIn_app (goodIn_of _ (by decide +kernel)) ggX6_obstacle_X3_clearance
theorem dX6_obstacle_0 : decode cX6_obstacle 0 = .ok (.aload_n 0, 1) := by decide +kernel
theorem dX6_obstacle_1 : decode cX6_obstacle 1 = .ok (.getfield 10, 3) := by decide +kernel
theorem dX6_obstacle_4 : decode cX6_obstacle 4 = .ok (.iload_n 1, 1) := by decide +kernel
theorem dX6_obstacle_5 : decode cX6_obstacle 5 = .ok (.iload_n 2, 1) := by decide +kernel
theorem dX6_obstacle_6 : decode cX6_obstacle 6 = .ok (.invokevirtual 135, 3) := by decide +kernel
theorem dX6_obstacle_9 : decode cX6_obstacle 9 = .ok (.ifCond .eq 12, 3) := by decide +kernel
theorem dX6_obstacle_12 : decode cX6_obstacle 12 = .ok (.iload_n 3, 1) := by decide +kernel
theorem dX6_obstacle_13 : decode cX6_obstacle 13 = .ok (.iconst 0, 1) := by decide +kernel
theorem dX6_obstacle_14 : decode cX6_obstacle 14 = .ok (.iconst 1, 1) := by decide +kernel
theorem dX6_obstacle_15 : decode cX6_obstacle 15 = .ok (.invokestatic 54, 3) := by decide +kernel
theorem dX6_obstacle_18 : decode cX6_obstacle 18 = .ok (.ifCond .ne 6, 3) := by decide +kernel
theorem dX6_obstacle_21 : decode cX6_obstacle 21 = .ok (.bipush (-2), 2) := by decide +kernel
theorem dX6_obstacle_23 : decode cX6_obstacle 23 = .ok (.ireturn, 1) := by decide +kernel
theorem dX6_obstacle_24 : decode cX6_obstacle 24 = .ok (.aload_n 0, 1) := by decide +kernel
theorem dX6_obstacle_25 : decode cX6_obstacle 25 = .ok (.getfield 10, 3) := by decide +kernel
theorem dX6_obstacle_28 : decode cX6_obstacle 28 = .ok (.iload_n 1, 1) := by decide +kernel
theorem dX6_obstacle_29 : decode cX6_obstacle 29 = .ok (.iload_n 2, 1) := by decide +kernel
theorem dX6_obstacle_30 : decode cX6_obstacle 30 = .ok (.invokevirtual 138, 3) := by decide +kernel
theorem dX6_obstacle_33 : decode cX6_obstacle 33 = .ok (.istore 4, 2) := by decide +kernel
theorem dX6_obstacle_35 : decode cX6_obstacle 35 = .ok (.iload 4, 2) := by decide +kernel
theorem dX6_obstacle_37 : decode cX6_obstacle 37 = .ok (.iconst (-1), 1) := by decide +kernel
theorem dX6_obstacle_38 : decode cX6_obstacle 38 = .ok (.if_icmp .eq 7, 3) := by decide +kernel
theorem dX6_obstacle_41 : decode cX6_obstacle 41 = .ok (.iload_n 3, 1) := by decide +kernel
theorem dX6_obstacle_42 : decode cX6_obstacle 42 = .ok (.ifCond .ne 6, 3) := by decide +kernel
theorem dX6_obstacle_45 : decode cX6_obstacle 45 = .ok (.iload 4, 2) := by decide +kernel
theorem dX6_obstacle_47 : decode cX6_obstacle 47 = .ok (.ireturn, 1) := by decide +kernel
theorem dX6_obstacle_48 : decode cX6_obstacle 48 = .ok (.aload_n 0, 1) := by decide +kernel
theorem dX6_obstacle_49 : decode cX6_obstacle 49 = .ok (.getfield 10, 3) := by decide +kernel
theorem dX6_obstacle_52 : decode cX6_obstacle 52 = .ok (.iload_n 1, 1) := by decide +kernel
theorem dX6_obstacle_53 : decode cX6_obstacle 53 = .ok (.aload_n 0, 1) := by decide +kernel
theorem dX6_obstacle_54 : decode cX6_obstacle 54 = .ok (.getfield 10, 3) := by decide +kernel
theorem dX6_obstacle_57 : decode cX6_obstacle 57 = .ok (.iload_n 1, 1) := by decide +kernel
theorem dX6_obstacle_58 : decode cX6_obstacle 58 = .ok (.invokevirtual 118, 3) := by decide +kernel
theorem dX6_obstacle_61 : decode cX6_obstacle 61 = .ok (.iload_n 2, 1) := by decide +kernel
theorem dX6_obstacle_62 : decode cX6_obstacle 62 = .ok (.aload_n 0, 1) := by decide +kernel
theorem dX6_obstacle_63 : decode cX6_obstacle 63 = .ok (.getfield 10, 3) := by decide +kernel
theorem dX6_obstacle_66 : decode cX6_obstacle 66 = .ok (.iload_n 2, 1) := by decide +kernel
theorem dX6_obstacle_67 : decode cX6_obstacle 67 = .ok (.invokevirtual 118, 3) := by decide +kernel
theorem dX6_obstacle_70 : decode cX6_obstacle 70 = .ok (.iload 4, 2) := by decide +kernel
theorem dX6_obstacle_72 : decode cX6_obstacle 72 = .ok (.invokevirtual 141, 3) := by decide +kernel
theorem dX6_obstacle_75 : decode cX6_obstacle 75 = .ok (.ireturn, 1) := by decide +kernel
set_option maxRecDepth 20000 in
theorem ggX6_neededMast_X3_hasPair : GoodIn wsX6_neededMast wsX3_hasPair := goodIn_r _ [7, 8, 9, 10, 6, 11, 12, 45, 46, 47, 48, 49] (by decide +kernel) (by decide +kernel)
set_option maxRecDepth 20000 in
theorem gX6_neededMast_X3_hasPair : GoodIn wsX6_neededMast (wsV RX6 135 RX3 yX3_hasPair wsX3_hasPair) := goodIn_app (goodIn_of _ (by decide +kernel)) ggX6_neededMast_X3_hasPair
set_option maxRecDepth 20000 in
theorem ggX6_neededMast_X3_topOf : GoodIn wsX6_neededMast wsX3_topOf := goodIn_r _ [16, 17, 18, 8, 9, 10, 6, 11, 12, 45, 46, 47, 48, 49] (by decide +kernel) (by decide +kernel)
set_option maxRecDepth 20000 in
theorem gX6_neededMast_X3_topOf : GoodIn wsX6_neededMast (wsV RX6 118 RX3 yX3_topOf wsX3_topOf) := goodIn_app (goodIn_of _ (by decide +kernel)) ggX6_neededMast_X3_topOf
set_option maxRecDepth 20000 in
theorem ggX6_neededMast_X3_pointsSee : GoodIn wsX6_neededMast wsX3_pointsSee := goodIn_r _ [22, 23, 24, 25, 26, 27, 28, 29, 30, 31, 32, 6, 33, 34, 35, 36, 17, 37, 8, 9, 10, 11, 12, 45, 46, 47, 48, 49] (by decide +kernel) (by decide +kernel)
set_option maxRecDepth 20000 in
theorem gX6_neededMast_X3_pointsSee : GoodIn wsX6_neededMast (wsV RX6 145 RX3 yX3_pointsSee wsX3_pointsSee) := goodIn_app (goodIn_of _ (by decide +kernel)) ggX6_neededMast_X3_pointsSee
theorem dX6_neededMast_0 : decode cX6_neededMast 0 = .ok (.aload_n 0, 1) := by decide +kernel
theorem dX6_neededMast_1 : decode cX6_neededMast 1 = .ok (.getfield 10, 3) := by decide +kernel
theorem dX6_neededMast_4 : decode cX6_neededMast 4 = .ok (.iload_n 1, 1) := by decide +kernel
theorem dX6_neededMast_5 : decode cX6_neededMast 5 = .ok (.iload_n 2, 1) := by decide +kernel
theorem dX6_neededMast_6 : decode cX6_neededMast 6 = .ok (.invokevirtual 135, 3) := by decide +kernel
theorem dX6_neededMast_9 : decode cX6_neededMast 9 = .ok (.ifCond .ne 6, 3) := by decide +kernel
theorem dX6_neededMast_12 : decode cX6_neededMast 12 = .ok (.bipush (-2), 2) := by decide +kernel
theorem dX6_neededMast_14 : decode cX6_neededMast 14 = .ok (.ireturn, 1) := by decide +kernel
theorem dX6_neededMast_15 : decode cX6_neededMast 15 = .ok (.iconst 0, 1) := by decide +kernel
theorem dX6_neededMast_16 : decode cX6_neededMast 16 = .ok (.istore_n 3, 1) := by decide +kernel
theorem dX6_neededMast_17 : decode cX6_neededMast 17 = .ok (.iload_n 3, 1) := by decide +kernel
theorem dX6_neededMast_18 : decode cX6_neededMast 18 = .ok (.sipush 200, 3) := by decide +kernel
theorem dX6_neededMast_21 : decode cX6_neededMast 21 = .ok (.if_icmp .gt 42, 3) := by decide +kernel
theorem dX6_neededMast_24 : decode cX6_neededMast 24 = .ok (.aload_n 0, 1) := by decide +kernel
theorem dX6_neededMast_25 : decode cX6_neededMast 25 = .ok (.getfield 10, 3) := by decide +kernel
theorem dX6_neededMast_28 : decode cX6_neededMast 28 = .ok (.iload_n 1, 1) := by decide +kernel
theorem dX6_neededMast_29 : decode cX6_neededMast 29 = .ok (.aload_n 0, 1) := by decide +kernel
theorem dX6_neededMast_30 : decode cX6_neededMast 30 = .ok (.getfield 10, 3) := by decide +kernel
theorem dX6_neededMast_33 : decode cX6_neededMast 33 = .ok (.getfield 73, 3) := by decide +kernel
theorem dX6_neededMast_36 : decode cX6_neededMast 36 = .ok (.iload_n 1, 1) := by decide +kernel
theorem dX6_neededMast_37 : decode cX6_neededMast 37 = .ok (.iaload, 1) := by decide +kernel
theorem dX6_neededMast_38 : decode cX6_neededMast 38 = .ok (.iload_n 3, 1) := by decide +kernel
theorem dX6_neededMast_39 : decode cX6_neededMast 39 = .ok (.iadd, 1) := by decide +kernel
theorem dX6_neededMast_40 : decode cX6_neededMast 40 = .ok (.iload_n 2, 1) := by decide +kernel
theorem dX6_neededMast_41 : decode cX6_neededMast 41 = .ok (.aload_n 0, 1) := by decide +kernel
theorem dX6_neededMast_42 : decode cX6_neededMast 42 = .ok (.getfield 10, 3) := by decide +kernel
theorem dX6_neededMast_45 : decode cX6_neededMast 45 = .ok (.iload_n 2, 1) := by decide +kernel
theorem dX6_neededMast_46 : decode cX6_neededMast 46 = .ok (.invokevirtual 118, 3) := by decide +kernel
theorem dX6_neededMast_49 : decode cX6_neededMast 49 = .ok (.invokevirtual 145, 3) := by decide +kernel
theorem dX6_neededMast_52 : decode cX6_neededMast 52 = .ok (.ifCond .eq 5, 3) := by decide +kernel
theorem dX6_neededMast_55 : decode cX6_neededMast 55 = .ok (.iload_n 3, 1) := by decide +kernel
theorem dX6_neededMast_56 : decode cX6_neededMast 56 = .ok (.ireturn, 1) := by decide +kernel
theorem dX6_neededMast_57 : decode cX6_neededMast 57 = .ok (.iinc 3 1, 3) := by decide +kernel
theorem dX6_neededMast_60 : decode cX6_neededMast 60 = .ok (.goto (-43), 3) := by decide +kernel
theorem dX6_neededMast_63 : decode cX6_neededMast 63 = .ok (.iconst (-1), 1) := by decide +kernel
theorem dX6_neededMast_64 : decode cX6_neededMast 64 = .ok (.ireturn, 1) := by decide +kernel
set_option maxRecDepth 20000 in
theorem ggX6_growth_X3_hasPair : GoodIn wsX6_growth wsX3_hasPair := goodIn_r _ [7, 8, 9, 10, 6, 11, 12, 53, 54, 55, 56, 57] (by decide +kernel) (by decide +kernel)
set_option maxRecDepth 20000 in
theorem gX6_growth_X3_hasPair : GoodIn wsX6_growth (wsV RX6 135 RX3 yX3_hasPair wsX3_hasPair) := goodIn_app (goodIn_of _ (by decide +kernel)) ggX6_growth_X3_hasPair
set_option maxRecDepth 20000 in
theorem ggX6_growth_X6_within : GoodIn wsX6_growth wsX6_within := goodIn_r _ [16] (by decide +kernel) (by decide +kernel)
set_option maxRecDepth 20000 in
theorem gX6_growth_X6_within : GoodIn wsX6_growth (va_wsS RX6 54 yX6_within wsX6_within) := goodIn_app (goodIn_of _ (by decide +kernel)) ggX6_growth_X6_within
set_option maxRecDepth 20000 in
theorem ggX6_growth_X3_grownSee : GoodIn wsX6_growth wsX3_grownSee := goodIn_r _ [20, 21, 22, 23, 6, 24, 25, 26, 8, 9, 10, 11, 12, 27, 28, 29, 30, 31, 32, 33, 34, 35, 36, 37, 38, 39, 40, 41, 42, 43, 44, 45, 53, 54, 55, 56, 57] (by decide +kernel) (by decide +kernel)
set_option maxRecDepth 20000 in
theorem gX6_growth_X3_grownSee : GoodIn wsX6_growth (wsV RX6 149 RX3 yX3_grownSee wsX3_grownSee) := goodIn_app (goodIn_of _ (by decide +kernel)) ggX6_growth_X3_grownSee
theorem dX6_growth_0 : decode cX6_growth 0 = .ok (.aload_n 0, 1) := by decide +kernel
theorem dX6_growth_1 : decode cX6_growth 1 = .ok (.getfield 10, 3) := by decide +kernel
theorem dX6_growth_4 : decode cX6_growth 4 = .ok (.iload_n 1, 1) := by decide +kernel
theorem dX6_growth_5 : decode cX6_growth 5 = .ok (.iload_n 2, 1) := by decide +kernel
theorem dX6_growth_6 : decode cX6_growth 6 = .ok (.invokevirtual 135, 3) := by decide +kernel
theorem dX6_growth_9 : decode cX6_growth 9 = .ok (.ifCond .eq 12, 3) := by decide +kernel
theorem dX6_growth_12 : decode cX6_growth 12 = .ok (.iload_n 3, 1) := by decide +kernel
theorem dX6_growth_13 : decode cX6_growth 13 = .ok (.iconst 0, 1) := by decide +kernel
theorem dX6_growth_14 : decode cX6_growth 14 = .ok (.iconst 2, 1) := by decide +kernel
theorem dX6_growth_15 : decode cX6_growth 15 = .ok (.invokestatic 54, 3) := by decide +kernel
theorem dX6_growth_18 : decode cX6_growth 18 = .ok (.ifCond .ne 6, 3) := by decide +kernel
theorem dX6_growth_21 : decode cX6_growth 21 = .ok (.bipush (-2), 2) := by decide +kernel
theorem dX6_growth_23 : decode cX6_growth 23 = .ok (.ireturn, 1) := by decide +kernel
theorem dX6_growth_24 : decode cX6_growth 24 = .ok (.iconst (-1), 1) := by decide +kernel
theorem dX6_growth_25 : decode cX6_growth 25 = .ok (.istore 4, 2) := by decide +kernel
theorem dX6_growth_27 : decode cX6_growth 27 = .ok (.iconst (-1), 1) := by decide +kernel
theorem dX6_growth_28 : decode cX6_growth 28 = .ok (.istore 5, 2) := by decide +kernel
theorem dX6_growth_30 : decode cX6_growth 30 = .ok (.sipush 200, 3) := by decide +kernel
theorem dX6_growth_33 : decode cX6_growth 33 = .ok (.aload_n 0, 1) := by decide +kernel
theorem dX6_growth_34 : decode cX6_growth 34 = .ok (.getfield 10, 3) := by decide +kernel
theorem dX6_growth_37 : decode cX6_growth 37 = .ok (.getfield 81, 3) := by decide +kernel
theorem dX6_growth_40 : decode cX6_growth 40 = .ok (.iload_n 2, 1) := by decide +kernel
theorem dX6_growth_41 : decode cX6_growth 41 = .ok (.iaload, 1) := by decide +kernel
theorem dX6_growth_42 : decode cX6_growth 42 = .ok (.isub, 1) := by decide +kernel
theorem dX6_growth_43 : decode cX6_growth 43 = .ok (.istore 6, 2) := by decide +kernel
theorem dX6_growth_45 : decode cX6_growth 45 = .ok (.iconst 0, 1) := by decide +kernel
theorem dX6_growth_46 : decode cX6_growth 46 = .ok (.istore 7, 2) := by decide +kernel
theorem dX6_growth_48 : decode cX6_growth 48 = .ok (.iload 7, 2) := by decide +kernel
theorem dX6_growth_50 : decode cX6_growth 50 = .ok (.sipush 200, 3) := by decide +kernel
theorem dX6_growth_53 : decode cX6_growth 53 = .ok (.aload_n 0, 1) := by decide +kernel
theorem dX6_growth_54 : decode cX6_growth 54 = .ok (.getfield 10, 3) := by decide +kernel
theorem dX6_growth_57 : decode cX6_growth 57 = .ok (.getfield 81, 3) := by decide +kernel
theorem dX6_growth_60 : decode cX6_growth 60 = .ok (.iload_n 1, 1) := by decide +kernel
theorem dX6_growth_61 : decode cX6_growth 61 = .ok (.iaload, 1) := by decide +kernel
theorem dX6_growth_62 : decode cX6_growth 62 = .ok (.isub, 1) := by decide +kernel
theorem dX6_growth_63 : decode cX6_growth 63 = .ok (.if_icmp .gt 63, 3) := by decide +kernel
theorem dX6_growth_66 : decode cX6_growth 66 = .ok (.iload 6, 2) := by decide +kernel
theorem dX6_growth_68 : decode cX6_growth 68 = .ok (.ifCond .lt 52, 3) := by decide +kernel
theorem dX6_growth_71 : decode cX6_growth 71 = .ok (.aload_n 0, 1) := by decide +kernel
theorem dX6_growth_72 : decode cX6_growth 72 = .ok (.getfield 10, 3) := by decide +kernel
theorem dX6_growth_75 : decode cX6_growth 75 = .ok (.iload_n 1, 1) := by decide +kernel
theorem dX6_growth_76 : decode cX6_growth 76 = .ok (.iload 7, 2) := by decide +kernel
theorem dX6_growth_78 : decode cX6_growth 78 = .ok (.iload_n 2, 1) := by decide +kernel
theorem dX6_growth_79 : decode cX6_growth 79 = .ok (.iload 6, 2) := by decide +kernel
theorem dX6_growth_81 : decode cX6_growth 81 = .ok (.invokevirtual 149, 3) := by decide +kernel
theorem dX6_growth_84 : decode cX6_growth 84 = .ok (.ifCond .eq 36, 3) := by decide +kernel
theorem dX6_growth_87 : decode cX6_growth 87 = .ok (.iload 4, 2) := by decide +kernel
theorem dX6_growth_89 : decode cX6_growth 89 = .ok (.iconst (-1), 1) := by decide +kernel
theorem dX6_growth_90 : decode cX6_growth 90 = .ok (.if_icmp .eq 13, 3) := by decide +kernel
theorem dX6_growth_93 : decode cX6_growth 93 = .ok (.iload 7, 2) := by decide +kernel
theorem dX6_growth_95 : decode cX6_growth 95 = .ok (.iload 6, 2) := by decide +kernel
theorem dX6_growth_97 : decode cX6_growth 97 = .ok (.iadd, 1) := by decide +kernel
theorem dX6_growth_98 : decode cX6_growth 98 = .ok (.iload 4, 2) := by decide +kernel
theorem dX6_growth_100 : decode cX6_growth 100 = .ok (.if_icmp .ge 14, 3) := by decide +kernel
theorem dX6_growth_103 : decode cX6_growth 103 = .ok (.iload 7, 2) := by decide +kernel
theorem dX6_growth_105 : decode cX6_growth 105 = .ok (.iload 6, 2) := by decide +kernel
theorem dX6_growth_107 : decode cX6_growth 107 = .ok (.iadd, 1) := by decide +kernel
theorem dX6_growth_108 : decode cX6_growth 108 = .ok (.istore 4, 2) := by decide +kernel
theorem dX6_growth_110 : decode cX6_growth 110 = .ok (.iload 7, 2) := by decide +kernel
theorem dX6_growth_112 : decode cX6_growth 112 = .ok (.istore 5, 2) := by decide +kernel
theorem dX6_growth_114 : decode cX6_growth 114 = .ok (.iinc 6 (-1), 3) := by decide +kernel
theorem dX6_growth_117 : decode cX6_growth 117 = .ok (.goto (-51), 3) := by decide +kernel
theorem dX6_growth_120 : decode cX6_growth 120 = .ok (.iinc 7 1, 3) := by decide +kernel
theorem dX6_growth_123 : decode cX6_growth 123 = .ok (.goto (-75), 3) := by decide +kernel
theorem dX6_growth_126 : decode cX6_growth 126 = .ok (.iload 4, 2) := by decide +kernel
theorem dX6_growth_128 : decode cX6_growth 128 = .ok (.iconst (-1), 1) := by decide +kernel
theorem dX6_growth_129 : decode cX6_growth 129 = .ok (.if_icmp .eq 7, 3) := by decide +kernel
theorem dX6_growth_132 : decode cX6_growth 132 = .ok (.iload_n 3, 1) := by decide +kernel
theorem dX6_growth_133 : decode cX6_growth 133 = .ok (.ifCond .ne 6, 3) := by decide +kernel
theorem dX6_growth_136 : decode cX6_growth 136 = .ok (.iload 4, 2) := by decide +kernel
theorem dX6_growth_138 : decode cX6_growth 138 = .ok (.ireturn, 1) := by decide +kernel
theorem dX6_growth_139 : decode cX6_growth 139 = .ok (.iload_n 3, 1) := by decide +kernel
theorem dX6_growth_140 : decode cX6_growth 140 = .ok (.iconst 1, 1) := by decide +kernel
theorem dX6_growth_141 : decode cX6_growth 141 = .ok (.if_icmp .ne 8, 3) := by decide +kernel
theorem dX6_growth_144 : decode cX6_growth 144 = .ok (.iload 5, 2) := by decide +kernel
theorem dX6_growth_146 : decode cX6_growth 146 = .ok (.goto 8, 3) := by decide +kernel
theorem dX6_growth_149 : decode cX6_growth 149 = .ok (.iload 4, 2) := by decide +kernel
theorem dX6_growth_151 : decode cX6_growth 151 = .ok (.iload 5, 2) := by decide +kernel
theorem dX6_growth_153 : decode cX6_growth 153 = .ok (.isub, 1) := by decide +kernel
theorem dX6_growth_154 : decode cX6_growth 154 = .ok (.ireturn, 1) := by decide +kernel
set_option maxRecDepth 20000 in
theorem ggX6_shadow_X3_has : GoodIn wsX6_shadow wsX3_has := goodIn_r _ [6, 7, 59, 60, 61, 62, 63] (by decide +kernel) (by decide +kernel)
set_option maxRecDepth 20000 in
theorem gX6_shadow_X3_has : GoodIn wsX6_shadow (wsV RX6 69 RX3 yX3_has wsX3_has) := goodIn_app (goodIn_of _ (by decide +kernel)) ggX6_shadow_X3_has
set_option maxRecDepth 20000 in
theorem ggX6_shadow_X6_within : GoodIn wsX6_shadow wsX6_within := goodIn_r _ [11] (by decide +kernel) (by decide +kernel)
set_option maxRecDepth 20000 in
theorem gX6_shadow_X6_within : GoodIn wsX6_shadow (va_wsS RX6 54 yX6_within wsX6_within) := goodIn_app (goodIn_of _ (by decide +kernel)) ggX6_shadow_X6_within
set_option maxRecDepth 20000 in
theorem ggX6_shadow_X3_all : GoodIn wsX6_shadow wsX3_all := goodIn_r _ [15, 7, 59, 60, 61, 62, 63] (by decide +kernel) (by decide +kernel)
set_option maxRecDepth 20000 in
theorem gX6_shadow_X3_all : GoodIn wsX6_shadow (wsV RX6 152 RX3 yX3_all wsX3_all) := goodIn_app (goodIn_of _ (by decide +kernel)) ggX6_shadow_X3_all
set_option maxRecDepth 20000 in
theorem ggX6_shadow_X3_topOf : GoodIn wsX6_shadow wsX3_topOf := goodIn_r _ [19, 20, 21, 22, 3, 4, 5, 6, 7, 59, 60, 61, 62, 63] (by decide +kernel) (by decide +kernel)
set_option maxRecDepth 20000 in
theorem gX6_shadow_X3_topOf : GoodIn wsX6_shadow (wsV RX6 118 RX3 yX3_topOf wsX3_topOf) := goodIn_app (goodIn_of _ (by decide +kernel)) ggX6_shadow_X3_topOf
set_option maxRecDepth 20000 in
theorem ggX6_shadow_X3_groundsSeen : GoodIn wsX6_shadow wsX3_groundsSeen := goodIn_r _ [26, 7, 20, 27, 28, 29, 5, 30, 31, 32, 33, 34, 35, 36, 37, 38, 39, 40, 41, 42, 43, 44, 45, 22, 3, 4, 6, 59, 60, 61, 62, 63] (by decide +kernel) (by decide +kernel)
set_option maxRecDepth 20000 in
theorem gX6_shadow_X3_groundsSeen : GoodIn wsX6_shadow (wsV RX6 125 RX3 yX3_groundsSeen wsX3_groundsSeen) := goodIn_app (goodIn_of _ (by decide +kernel)) ggX6_shadow_X3_groundsSeen
set_option maxRecDepth 20000 in
theorem ggX6_shadow_X6_nthOf : GoodIn wsX6_shadow wsX6_nthOf := goodIn_r _ [48, 49, 50, 10, 51] (by decide +kernel) (by decide +kernel)
set_option maxRecDepth 20000 in
theorem gX6_shadow_X6_nthOf : GoodIn wsX6_shadow (va_wsS RX6 156 yX6_nthOf wsX6_nthOf) := goodIn_app (goodIn_of _ (by decide +kernel)) ggX6_shadow_X6_nthOf
theorem dX6_shadow_0 : decode cX6_shadow 0 = .ok (.aload_n 0, 1) := by decide +kernel
theorem dX6_shadow_1 : decode cX6_shadow 1 = .ok (.getfield 10, 3) := by decide +kernel
theorem dX6_shadow_4 : decode cX6_shadow 4 = .ok (.iload_n 1, 1) := by decide +kernel
theorem dX6_shadow_5 : decode cX6_shadow 5 = .ok (.invokevirtual 69, 3) := by decide +kernel
theorem dX6_shadow_8 : decode cX6_shadow 8 = .ok (.ifCond .eq 16, 3) := by decide +kernel
theorem dX6_shadow_11 : decode cX6_shadow 11 = .ok (.iload_n 2, 1) := by decide +kernel
theorem dX6_shadow_12 : decode cX6_shadow 12 = .ok (.ifCond .lt 12, 3) := by decide +kernel
theorem dX6_shadow_15 : decode cX6_shadow 15 = .ok (.iload_n 3, 1) := by decide +kernel
theorem dX6_shadow_16 : decode cX6_shadow 16 = .ok (.iconst 0, 1) := by decide +kernel
theorem dX6_shadow_17 : decode cX6_shadow 17 = .ok (.iconst 1, 1) := by decide +kernel
theorem dX6_shadow_18 : decode cX6_shadow 18 = .ok (.invokestatic 54, 3) := by decide +kernel
theorem dX6_shadow_21 : decode cX6_shadow 21 = .ok (.ifCond .ne 6, 3) := by decide +kernel
theorem dX6_shadow_24 : decode cX6_shadow 24 = .ok (.bipush (-2), 2) := by decide +kernel
theorem dX6_shadow_26 : decode cX6_shadow 26 = .ok (.ireturn, 1) := by decide +kernel
theorem dX6_shadow_27 : decode cX6_shadow 27 = .ok (.aload_n 0, 1) := by decide +kernel
theorem dX6_shadow_28 : decode cX6_shadow 28 = .ok (.getfield 10, 3) := by decide +kernel
theorem dX6_shadow_31 : decode cX6_shadow 31 = .ok (.invokevirtual 152, 3) := by decide +kernel
theorem dX6_shadow_34 : decode cX6_shadow 34 = .ok (.aload_n 0, 1) := by decide +kernel
theorem dX6_shadow_35 : decode cX6_shadow 35 = .ok (.getfield 10, 3) := by decide +kernel
theorem dX6_shadow_38 : decode cX6_shadow 38 = .ok (.iload_n 1, 1) := by decide +kernel
theorem dX6_shadow_39 : decode cX6_shadow 39 = .ok (.aload_n 0, 1) := by decide +kernel
theorem dX6_shadow_40 : decode cX6_shadow 40 = .ok (.getfield 10, 3) := by decide +kernel
theorem dX6_shadow_43 : decode cX6_shadow 43 = .ok (.iload_n 1, 1) := by decide +kernel
theorem dX6_shadow_44 : decode cX6_shadow 44 = .ok (.invokevirtual 118, 3) := by decide +kernel
theorem dX6_shadow_47 : decode cX6_shadow 47 = .ok (.invokevirtual 125, 3) := by decide +kernel
theorem dX6_shadow_50 : decode cX6_shadow 50 = .ok (.iconst (-1), 1) := by decide +kernel
theorem dX6_shadow_51 : decode cX6_shadow 51 = .ok (.ixor, 1) := by decide +kernel
theorem dX6_shadow_52 : decode cX6_shadow 52 = .ok (.iand, 1) := by decide +kernel
theorem dX6_shadow_53 : decode cX6_shadow 53 = .ok (.istore 4, 2) := by decide +kernel
theorem dX6_shadow_55 : decode cX6_shadow 55 = .ok (.iload_n 3, 1) := by decide +kernel
theorem dX6_shadow_56 : decode cX6_shadow 56 = .ok (.ifCond .ne 15, 3) := by decide +kernel
theorem dX6_shadow_59 : decode cX6_shadow 59 = .ok (.iload 4, 2) := by decide +kernel
theorem dX6_shadow_61 : decode cX6_shadow 61 = .ok (.iload 4, 2) := by decide +kernel
theorem dX6_shadow_63 : decode cX6_shadow 63 = .ok (.iconst 1, 1) := by decide +kernel
theorem dX6_shadow_64 : decode cX6_shadow 64 = .ok (.ishl, 1) := by decide +kernel
theorem dX6_shadow_65 : decode cX6_shadow 65 = .ok (.iconst (-1), 1) := by decide +kernel
theorem dX6_shadow_66 : decode cX6_shadow 66 = .ok (.ixor, 1) := by decide +kernel
theorem dX6_shadow_67 : decode cX6_shadow 67 = .ok (.iand, 1) := by decide +kernel
theorem dX6_shadow_68 : decode cX6_shadow 68 = .ok (.goto 12, 3) := by decide +kernel
theorem dX6_shadow_71 : decode cX6_shadow 71 = .ok (.iload 4, 2) := by decide +kernel
theorem dX6_shadow_73 : decode cX6_shadow 73 = .ok (.iload 4, 2) := by decide +kernel
theorem dX6_shadow_75 : decode cX6_shadow 75 = .ok (.iconst 1, 1) := by decide +kernel
theorem dX6_shadow_76 : decode cX6_shadow 76 = .ok (.ishr, 1) := by decide +kernel
theorem dX6_shadow_77 : decode cX6_shadow 77 = .ok (.iconst (-1), 1) := by decide +kernel
theorem dX6_shadow_78 : decode cX6_shadow 78 = .ok (.ixor, 1) := by decide +kernel
theorem dX6_shadow_79 : decode cX6_shadow 79 = .ok (.iand, 1) := by decide +kernel
theorem dX6_shadow_80 : decode cX6_shadow 80 = .ok (.istore 5, 2) := by decide +kernel
theorem dX6_shadow_82 : decode cX6_shadow 82 = .ok (.iload 5, 2) := by decide +kernel
theorem dX6_shadow_84 : decode cX6_shadow 84 = .ok (.iload_n 2, 1) := by decide +kernel
theorem dX6_shadow_85 : decode cX6_shadow 85 = .ok (.invokestatic 156, 3) := by decide +kernel
theorem dX6_shadow_88 : decode cX6_shadow 88 = .ok (.ireturn, 1) := by decide +kernel
set_option maxRecDepth 20000 in
theorem ggX6_farthest_X3_inContact : GoodIn wsX6_farthest wsX3_inContact := goodIn_r _ [7, 8, 9, 10, 11, 12, 13, 14, 15, 6, 16, 17, 18, 19, 20, 21, 22, 23, 24, 25, 26, 27, 28, 29, 30, 31, 32, 33, 34, 35, 36, 37, 38, 46, 47, 48, 49, 50] (by decide +kernel) (by decide +kernel)
set_option maxRecDepth 20000 in
theorem gX6_farthest_X3_inContact : GoodIn wsX6_farthest (wsV RX6 159 RX3 yX3_inContact wsX3_inContact) := goodIn_app (goodIn_of _ (by decide +kernel)) ggX6_farthest_X3_inContact
theorem dX6_farthest_0 : decode cX6_farthest 0 = .ok (.iconst 0, 1) := by decide +kernel
theorem dX6_farthest_1 : decode cX6_farthest 1 = .ok (.istore_n 1, 1) := by decide +kernel
theorem dX6_farthest_2 : decode cX6_farthest 2 = .ok (.iconst 1, 1) := by decide +kernel
theorem dX6_farthest_3 : decode cX6_farthest 3 = .ok (.istore_n 2, 1) := by decide +kernel
theorem dX6_farthest_4 : decode cX6_farthest 4 = .ok (.iconst 0, 1) := by decide +kernel
theorem dX6_farthest_5 : decode cX6_farthest 5 = .ok (.istore_n 3, 1) := by decide +kernel
theorem dX6_farthest_6 : decode cX6_farthest 6 = .ok (.iload_n 3, 1) := by decide +kernel
theorem dX6_farthest_7 : decode cX6_farthest 7 = .ok (.aload_n 0, 1) := by decide +kernel
theorem dX6_farthest_8 : decode cX6_farthest 8 = .ok (.getfield 10, 3) := by decide +kernel
theorem dX6_farthest_11 : decode cX6_farthest 11 = .ok (.getfield 115, 3) := by decide +kernel
theorem dX6_farthest_14 : decode cX6_farthest 14 = .ok (.if_icmp .ge 60, 3) := by decide +kernel
theorem dX6_farthest_17 : decode cX6_farthest 17 = .ok (.iload_n 3, 1) := by decide +kernel
theorem dX6_farthest_18 : decode cX6_farthest 18 = .ok (.iconst 1, 1) := by decide +kernel
theorem dX6_farthest_19 : decode cX6_farthest 19 = .ok (.iadd, 1) := by decide +kernel
theorem dX6_farthest_20 : decode cX6_farthest 20 = .ok (.istore 4, 2) := by decide +kernel
theorem dX6_farthest_22 : decode cX6_farthest 22 = .ok (.iload 4, 2) := by decide +kernel
theorem dX6_farthest_24 : decode cX6_farthest 24 = .ok (.aload_n 0, 1) := by decide +kernel
theorem dX6_farthest_25 : decode cX6_farthest 25 = .ok (.getfield 10, 3) := by decide +kernel
theorem dX6_farthest_28 : decode cX6_farthest 28 = .ok (.getfield 115, 3) := by decide +kernel
theorem dX6_farthest_31 : decode cX6_farthest 31 = .ok (.if_icmp .ge 37, 3) := by decide +kernel
theorem dX6_farthest_34 : decode cX6_farthest 34 = .ok (.iload 4, 2) := by decide +kernel
theorem dX6_farthest_36 : decode cX6_farthest 36 = .ok (.iload_n 3, 1) := by decide +kernel
theorem dX6_farthest_37 : decode cX6_farthest 37 = .ok (.isub, 1) := by decide +kernel
theorem dX6_farthest_38 : decode cX6_farthest 38 = .ok (.iload_n 2, 1) := by decide +kernel
theorem dX6_farthest_39 : decode cX6_farthest 39 = .ok (.iload_n 1, 1) := by decide +kernel
theorem dX6_farthest_40 : decode cX6_farthest 40 = .ok (.isub, 1) := by decide +kernel
theorem dX6_farthest_41 : decode cX6_farthest 41 = .ok (.if_icmp .le 21, 3) := by decide +kernel
theorem dX6_farthest_44 : decode cX6_farthest 44 = .ok (.aload_n 0, 1) := by decide +kernel
theorem dX6_farthest_45 : decode cX6_farthest 45 = .ok (.getfield 10, 3) := by decide +kernel
theorem dX6_farthest_48 : decode cX6_farthest 48 = .ok (.iload_n 3, 1) := by decide +kernel
theorem dX6_farthest_49 : decode cX6_farthest 49 = .ok (.iload 4, 2) := by decide +kernel
theorem dX6_farthest_51 : decode cX6_farthest 51 = .ok (.invokevirtual 159, 3) := by decide +kernel
theorem dX6_farthest_54 : decode cX6_farthest 54 = .ok (.ifCond .eq 8, 3) := by decide +kernel
theorem dX6_farthest_57 : decode cX6_farthest 57 = .ok (.iload_n 3, 1) := by decide +kernel
theorem dX6_farthest_58 : decode cX6_farthest 58 = .ok (.istore_n 1, 1) := by decide +kernel
theorem dX6_farthest_59 : decode cX6_farthest 59 = .ok (.iload 4, 2) := by decide +kernel
theorem dX6_farthest_61 : decode cX6_farthest 61 = .ok (.istore_n 2, 1) := by decide +kernel
theorem dX6_farthest_62 : decode cX6_farthest 62 = .ok (.iinc 4 1, 3) := by decide +kernel
theorem dX6_farthest_65 : decode cX6_farthest 65 = .ok (.goto (-43), 3) := by decide +kernel
theorem dX6_farthest_68 : decode cX6_farthest 68 = .ok (.iinc 3 1, 3) := by decide +kernel
theorem dX6_farthest_71 : decode cX6_farthest 71 = .ok (.goto (-65), 3) := by decide +kernel
theorem dX6_farthest_74 : decode cX6_farthest 74 = .ok (.bipush 100, 2) := by decide +kernel
theorem dX6_farthest_76 : decode cX6_farthest 76 = .ok (.iload_n 1, 1) := by decide +kernel
theorem dX6_farthest_77 : decode cX6_farthest 77 = .ok (.imul, 1) := by decide +kernel
theorem dX6_farthest_78 : decode cX6_farthest 78 = .ok (.iload_n 2, 1) := by decide +kernel
theorem dX6_farthest_79 : decode cX6_farthest 79 = .ok (.iadd, 1) := by decide +kernel
theorem dX6_farthest_80 : decode cX6_farthest 80 = .ok (.ireturn, 1) := by decide +kernel
set_option maxRecDepth 20000 in
theorem ggX6_chain_X3_has : GoodIn wsX6_chain wsX3_has := goodIn_r _ [9, 10, 97, 98, 99, 100, 101] (by decide +kernel) (by decide +kernel)
set_option maxRecDepth 20000 in
theorem gX6_chain_X3_has : GoodIn wsX6_chain (wsV RX6 69 RX3 yX3_has wsX3_has) := goodIn_app (goodIn_of _ (by decide +kernel)) ggX6_chain_X3_has
set_option maxRecDepth 20000 in
theorem ggX6_chain_X4_survey : GoodIn wsX6_chain wsX4_survey := goodIn_r _ [15, 16, 17, 18, 19, 20, 21, 22, 23, 24, 25, 8, 26, 27, 28, 29, 6, 7, 9, 10, 30, 31, 32, 14, 33, 34, 35, 36, 37, 38, 39, 40, 41, 42, 43, 44, 45, 46, 47, 48, 49, 50, 51, 52, 53, 54, 97, 98, 99, 100, 101, 102, 103, 104, 105, 106, 107] (by decide +kernel) (by decide +kernel)
set_option maxRecDepth 20000 in
theorem gX6_chain_X4_survey : GoodIn wsX6_chain (wsV RX6 162 RX4 yX4_survey wsX4_survey) := goodIn_app (goodIn_of _ (by decide +kernel)) ggX6_chain_X4_survey
set_option maxRecDepth 20000 in
theorem ggX6_chain_X4_findChain : GoodIn wsX6_chain wsX4_findChain := goodIn_r _ [58, 17, 59, 60, 61, 62, 63, 14, 64, 21, 65, 47, 36, 48, 66, 67, 68, 69, 22, 18, 70, 71, 72, 73, 74, 75, 76, 77, 78, 79, 80, 81, 82, 83, 84, 85, 86, 87, 102, 103, 104, 105, 106, 107, 95, 96] (by decide +kernel) (by decide +kernel)
set_option maxRecDepth 20000 in
theorem gX6_chain_X4_findChain : GoodIn wsX6_chain (wsV RX6 166 RX4 yX4_findChain wsX4_findChain) := goodIn_app (goodIn_of _ (by decide +kernel)) ggX6_chain_X4_findChain
theorem dX6_chain_0 : decode cX6_chain 0 = .ok (.aload_n 0, 1) := by decide +kernel
theorem dX6_chain_1 : decode cX6_chain 1 = .ok (.getfield 10, 3) := by decide +kernel
theorem dX6_chain_4 : decode cX6_chain 4 = .ok (.iload_n 1, 1) := by decide +kernel
theorem dX6_chain_5 : decode cX6_chain 5 = .ok (.invokevirtual 69, 3) := by decide +kernel
theorem dX6_chain_8 : decode cX6_chain 8 = .ok (.ifCond .eq 14, 3) := by decide +kernel
theorem dX6_chain_11 : decode cX6_chain 11 = .ok (.aload_n 0, 1) := by decide +kernel
theorem dX6_chain_12 : decode cX6_chain 12 = .ok (.getfield 10, 3) := by decide +kernel
theorem dX6_chain_15 : decode cX6_chain 15 = .ok (.iload_n 2, 1) := by decide +kernel
theorem dX6_chain_16 : decode cX6_chain 16 = .ok (.invokevirtual 69, 3) := by decide +kernel
theorem dX6_chain_19 : decode cX6_chain 19 = .ok (.ifCond .ne 6, 3) := by decide +kernel
theorem dX6_chain_22 : decode cX6_chain 22 = .ok (.bipush (-2), 2) := by decide +kernel
theorem dX6_chain_24 : decode cX6_chain 24 = .ok (.ireturn, 1) := by decide +kernel
theorem dX6_chain_25 : decode cX6_chain 25 = .ok (.aload_n 0, 1) := by decide +kernel
theorem dX6_chain_26 : decode cX6_chain 26 = .ok (.getfield 43, 3) := by decide +kernel
theorem dX6_chain_29 : decode cX6_chain 29 = .ok (.aload_n 0, 1) := by decide +kernel
theorem dX6_chain_30 : decode cX6_chain 30 = .ok (.getfield 10, 3) := by decide +kernel
theorem dX6_chain_33 : decode cX6_chain 33 = .ok (.iconst 0, 1) := by decide +kernel
theorem dX6_chain_34 : decode cX6_chain 34 = .ok (.invokevirtual 162, 3) := by decide +kernel
theorem dX6_chain_37 : decode cX6_chain 37 = .ok (.aload_n 0, 1) := by decide +kernel
theorem dX6_chain_38 : decode cX6_chain 38 = .ok (.getfield 43, 3) := by decide +kernel
theorem dX6_chain_41 : decode cX6_chain 41 = .ok (.iload_n 1, 1) := by decide +kernel
theorem dX6_chain_42 : decode cX6_chain 42 = .ok (.iload_n 2, 1) := by decide +kernel
theorem dX6_chain_43 : decode cX6_chain 43 = .ok (.aload_n 0, 1) := by decide +kernel
theorem dX6_chain_44 : decode cX6_chain 44 = .ok (.getfield 36, 3) := by decide +kernel
theorem dX6_chain_47 : decode cX6_chain 47 = .ok (.invokevirtual 166, 3) := by decide +kernel
theorem dX6_chain_50 : decode cX6_chain 50 = .ok (.ifCond .eq 13, 3) := by decide +kernel
theorem dX6_chain_53 : decode cX6_chain 53 = .ok (.aload_n 0, 1) := by decide +kernel
theorem dX6_chain_54 : decode cX6_chain 54 = .ok (.getfield 36, 3) := by decide +kernel
theorem dX6_chain_57 : decode cX6_chain 57 = .ok (.getfield 170, 3) := by decide +kernel
theorem dX6_chain_60 : decode cX6_chain 60 = .ok (.goto 4, 3) := by decide +kernel
theorem dX6_chain_63 : decode cX6_chain 63 = .ok (.iconst (-1), 1) := by decide +kernel
theorem dX6_chain_64 : decode cX6_chain 64 = .ok (.ireturn, 1) := by decide +kernel
set_option maxRecDepth 20000 in
theorem ggX6_newMasts_X3_has : GoodIn wsX6_newMasts wsX3_has := goodIn_r _ [8, 9, 103, 104, 105, 106, 107] (by decide +kernel) (by decide +kernel)
set_option maxRecDepth 20000 in
theorem gX6_newMasts_X3_has : GoodIn wsX6_newMasts (wsV RX6 69 RX3 yX3_has wsX3_has) := goodIn_app (goodIn_of _ (by decide +kernel)) ggX6_newMasts_X3_has
set_option maxRecDepth 20000 in
theorem ggX6_newMasts_X6_within : GoodIn wsX6_newMasts wsX6_within := goodIn_r _ [13] (by decide +kernel) (by decide +kernel)
set_option maxRecDepth 20000 in
theorem gX6_newMasts_X6_within : GoodIn wsX6_newMasts (va_wsS RX6 54 yX6_within wsX6_within) := goodIn_app (goodIn_of _ (by decide +kernel)) ggX6_newMasts_X6_within
set_option maxRecDepth 20000 in
theorem ggX6_newMasts_X4_survey : GoodIn wsX6_newMasts wsX4_survey := goodIn_r _ [18, 19, 20, 21, 22, 23, 24, 25, 26, 27, 28, 7, 29, 30, 31, 32, 5, 6, 8, 9, 33, 34, 35, 17, 36, 37, 38, 39, 40, 41, 42, 43, 44, 45, 46, 47, 48, 49, 50, 51, 52, 53, 54, 55, 56, 57, 103, 104, 105, 106, 107, 108, 109, 110, 111, 112, 113] (by decide +kernel) (by decide +kernel)
set_option maxRecDepth 20000 in
theorem gX6_newMasts_X4_survey : GoodIn wsX6_newMasts (wsV RX6 162 RX4 yX4_survey wsX4_survey) := goodIn_app (goodIn_of _ (by decide +kernel)) ggX6_newMasts_X4_survey
set_option maxRecDepth 20000 in
theorem ggX6_newMasts_X4_findChain : GoodIn wsX6_newMasts wsX4_findChain := goodIn_r _ [61, 20, 62, 63, 64, 65, 66, 17, 67, 24, 68, 50, 39, 51, 69, 70, 71, 72, 25, 21, 73, 12, 74, 75, 76, 77, 78, 79, 80, 81, 82, 83, 84, 85, 86, 87, 88, 89, 108, 109, 110, 111, 112, 113, 114, 115] (by decide +kernel) (by decide +kernel)
set_option maxRecDepth 20000 in
theorem gX6_newMasts_X4_findChain : GoodIn wsX6_newMasts (wsV RX6 166 RX4 yX4_findChain wsX4_findChain) := goodIn_app (goodIn_of _ (by decide +kernel)) ggX6_newMasts_X4_findChain
set_option maxRecDepth 20000 in
theorem ggX6_newMasts_X3_withoutMast : GoodIn wsX6_newMasts wsX3_withoutMast := goodIn_r _ [93, 94, 95, 31, 32, 5, 6, 7, 8, 9, 114, 115, 103, 104, 105, 106, 107] (by decide +kernel) (by decide +kernel)
set_option maxRecDepth 20000 in
theorem gX6_newMasts_X3_withoutMast : GoodIn wsX6_newMasts (wsV RX6 171 RX3 yX3_withoutMast wsX3_withoutMast) := goodIn_app (goodIn_of _ (by decide +kernel)) ggX6_newMasts_X3_withoutMast
theorem dX6_newMasts_0 : decode cX6_newMasts 0 = .ok (.aload_n 0, 1) := by decide +kernel
theorem dX6_newMasts_1 : decode cX6_newMasts 1 = .ok (.getfield 10, 3) := by decide +kernel
theorem dX6_newMasts_4 : decode cX6_newMasts 4 = .ok (.iload_n 1, 1) := by decide +kernel
theorem dX6_newMasts_5 : decode cX6_newMasts 5 = .ok (.invokevirtual 69, 3) := by decide +kernel
theorem dX6_newMasts_8 : decode cX6_newMasts 8 = .ok (.ifCond .eq 25, 3) := by decide +kernel
theorem dX6_newMasts_11 : decode cX6_newMasts 11 = .ok (.aload_n 0, 1) := by decide +kernel
theorem dX6_newMasts_12 : decode cX6_newMasts 12 = .ok (.getfield 10, 3) := by decide +kernel
theorem dX6_newMasts_15 : decode cX6_newMasts 15 = .ok (.iload_n 2, 1) := by decide +kernel
theorem dX6_newMasts_16 : decode cX6_newMasts 16 = .ok (.invokevirtual 69, 3) := by decide +kernel
theorem dX6_newMasts_19 : decode cX6_newMasts 19 = .ok (.ifCond .eq 14, 3) := by decide +kernel
theorem dX6_newMasts_22 : decode cX6_newMasts 22 = .ok (.iload_n 3, 1) := by decide +kernel
theorem dX6_newMasts_23 : decode cX6_newMasts 23 = .ok (.iconst 1, 1) := by decide +kernel
theorem dX6_newMasts_24 : decode cX6_newMasts 24 = .ok (.sipush 200, 3) := by decide +kernel
theorem dX6_newMasts_27 : decode cX6_newMasts 27 = .ok (.invokestatic 54, 3) := by decide +kernel
theorem dX6_newMasts_30 : decode cX6_newMasts 30 = .ok (.ifCond .ne 6, 3) := by decide +kernel
theorem dX6_newMasts_33 : decode cX6_newMasts 33 = .ok (.bipush (-2), 2) := by decide +kernel
theorem dX6_newMasts_35 : decode cX6_newMasts 35 = .ok (.ireturn, 1) := by decide +kernel
theorem dX6_newMasts_36 : decode cX6_newMasts 36 = .ok (.aload_n 0, 1) := by decide +kernel
theorem dX6_newMasts_37 : decode cX6_newMasts 37 = .ok (.getfield 43, 3) := by decide +kernel
theorem dX6_newMasts_40 : decode cX6_newMasts 40 = .ok (.aload_n 0, 1) := by decide +kernel
theorem dX6_newMasts_41 : decode cX6_newMasts 41 = .ok (.getfield 10, 3) := by decide +kernel
theorem dX6_newMasts_44 : decode cX6_newMasts 44 = .ok (.iload_n 3, 1) := by decide +kernel
theorem dX6_newMasts_45 : decode cX6_newMasts 45 = .ok (.invokevirtual 162, 3) := by decide +kernel
theorem dX6_newMasts_48 : decode cX6_newMasts 48 = .ok (.aload_n 0, 1) := by decide +kernel
theorem dX6_newMasts_49 : decode cX6_newMasts 49 = .ok (.getfield 43, 3) := by decide +kernel
theorem dX6_newMasts_52 : decode cX6_newMasts 52 = .ok (.iload_n 1, 1) := by decide +kernel
theorem dX6_newMasts_53 : decode cX6_newMasts 53 = .ok (.iload_n 2, 1) := by decide +kernel
theorem dX6_newMasts_54 : decode cX6_newMasts 54 = .ok (.aload_n 0, 1) := by decide +kernel
theorem dX6_newMasts_55 : decode cX6_newMasts 55 = .ok (.getfield 36, 3) := by decide +kernel
theorem dX6_newMasts_58 : decode cX6_newMasts 58 = .ok (.invokevirtual 166, 3) := by decide +kernel
theorem dX6_newMasts_61 : decode cX6_newMasts 61 = .ok (.ifCond .eq 17, 3) := by decide +kernel
theorem dX6_newMasts_64 : decode cX6_newMasts 64 = .ok (.aload_n 0, 1) := by decide +kernel
theorem dX6_newMasts_65 : decode cX6_newMasts 65 = .ok (.getfield 10, 3) := by decide +kernel
theorem dX6_newMasts_68 : decode cX6_newMasts 68 = .ok (.aload_n 0, 1) := by decide +kernel
theorem dX6_newMasts_69 : decode cX6_newMasts 69 = .ok (.getfield 36, 3) := by decide +kernel
theorem dX6_newMasts_72 : decode cX6_newMasts 72 = .ok (.invokevirtual 171, 3) := by decide +kernel
theorem dX6_newMasts_75 : decode cX6_newMasts 75 = .ok (.goto 4, 3) := by decide +kernel
theorem dX6_newMasts_78 : decode cX6_newMasts 78 = .ok (.iconst (-1), 1) := by decide +kernel
theorem dX6_newMasts_79 : decode cX6_newMasts 79 = .ok (.ireturn, 1) := by decide +kernel
set_option maxRecDepth 20000 in
theorem ggX6_vital_X3_has : GoodIn wsX6_vital wsX3_has := goodIn_r _ [9, 10, 99, 100, 101, 102, 103] (by decide +kernel) (by decide +kernel)
set_option maxRecDepth 20000 in
theorem gX6_vital_X3_has : GoodIn wsX6_vital (wsV RX6 69 RX3 yX3_has wsX3_has) := goodIn_app (goodIn_of _ (by decide +kernel)) ggX6_vital_X3_has
set_option maxRecDepth 20000 in
theorem ggX6_vital_X4_survey : GoodIn wsX6_vital wsX4_survey := goodIn_r _ [15, 16, 17, 18, 19, 20, 21, 22, 23, 24, 25, 8, 26, 27, 28, 29, 6, 7, 9, 10, 30, 31, 32, 14, 33, 34, 35, 36, 37, 38, 39, 40, 41, 42, 43, 44, 45, 46, 47, 48, 49, 50, 51, 52, 53, 54, 99, 100, 101, 102, 103, 93, 94, 95, 96, 97, 98] (by decide +kernel) (by decide +kernel)
set_option maxRecDepth 20000 in
theorem gX6_vital_X4_survey : GoodIn wsX6_vital (wsV RX6 162 RX4 yX4_survey wsX4_survey) := goodIn_app (goodIn_of _ (by decide +kernel)) ggX6_vital_X4_survey
set_option maxRecDepth 20000 in
theorem ggX6_vital_X4_join : GoodIn wsX6_vital wsX4_join := goodIn_r _ [58, 59, 60, 61, 14, 62, 17, 22, 63, 64, 65, 93, 94, 95, 96, 97, 98] (by decide +kernel) (by decide +kernel)
set_option maxRecDepth 20000 in
theorem gX6_vital_X4_join : GoodIn wsX6_vital (wsV RX6 178 RX4 yX4_join wsX4_join) := goodIn_app (goodIn_of _ (by decide +kernel)) ggX6_vital_X4_join
set_option maxRecDepth 20000 in
theorem ggX6_vital_X4_notToBeMissed : GoodIn wsX6_vital wsX4_notToBeMissed := goodIn_r _ [69, 17, 18, 63, 64, 65, 70, 56, 57, 14, 58, 59, 60, 61, 62, 22, 93, 94, 95, 96, 97, 98] (by decide +kernel) (by decide +kernel)
set_option maxRecDepth 20000 in
theorem gX6_vital_X4_notToBeMissed : GoodIn wsX6_vital (wsV RX6 181 RX4 yX4_notToBeMissed wsX4_notToBeMissed) := goodIn_app (goodIn_of _ (by decide +kernel)) ggX6_vital_X4_notToBeMissed
set_option maxRecDepth 20000 in
theorem ggX6_vital_X1_keepSet : GoodIn wsX6_vital wsX1_keepSet := goodIn_r _ [75, 76, 77, 78, 74, 79, 80, 63, 64, 65, 81, 82, 83, 84, 85, 104, 105] (by decide +kernel) (by decide +kernel)
set_option maxRecDepth 20000 in
theorem gX6_vital_X1_keepSet : GoodIn wsX6_vital (wsV RX6 184 RX1 yX1_keepSet wsX1_keepSet) := goodIn_app (goodIn_of _ (by decide +kernel)) ggX6_vital_X1_keepSet
theorem dX6_vital_0 : decode cX6_vital 0 = .ok (.aload_n 0, 1) := by decide +kernel
theorem dX6_vital_1 : decode cX6_vital 1 = .ok (.getfield 10, 3) := by decide +kernel
theorem dX6_vital_4 : decode cX6_vital 4 = .ok (.iload_n 1, 1) := by decide +kernel
theorem dX6_vital_5 : decode cX6_vital 5 = .ok (.invokevirtual 69, 3) := by decide +kernel
theorem dX6_vital_8 : decode cX6_vital 8 = .ok (.ifCond .eq 14, 3) := by decide +kernel
theorem dX6_vital_11 : decode cX6_vital 11 = .ok (.aload_n 0, 1) := by decide +kernel
theorem dX6_vital_12 : decode cX6_vital 12 = .ok (.getfield 10, 3) := by decide +kernel
theorem dX6_vital_15 : decode cX6_vital 15 = .ok (.iload_n 2, 1) := by decide +kernel
theorem dX6_vital_16 : decode cX6_vital 16 = .ok (.invokevirtual 69, 3) := by decide +kernel
theorem dX6_vital_19 : decode cX6_vital 19 = .ok (.ifCond .ne 6, 3) := by decide +kernel
theorem dX6_vital_22 : decode cX6_vital 22 = .ok (.bipush (-2), 2) := by decide +kernel
theorem dX6_vital_24 : decode cX6_vital 24 = .ok (.ireturn, 1) := by decide +kernel
theorem dX6_vital_25 : decode cX6_vital 25 = .ok (.aload_n 0, 1) := by decide +kernel
theorem dX6_vital_26 : decode cX6_vital 26 = .ok (.getfield 43, 3) := by decide +kernel
theorem dX6_vital_29 : decode cX6_vital 29 = .ok (.aload_n 0, 1) := by decide +kernel
theorem dX6_vital_30 : decode cX6_vital 30 = .ok (.getfield 10, 3) := by decide +kernel
theorem dX6_vital_33 : decode cX6_vital 33 = .ok (.iconst 0, 1) := by decide +kernel
theorem dX6_vital_34 : decode cX6_vital 34 = .ok (.invokevirtual 162, 3) := by decide +kernel
theorem dX6_vital_37 : decode cX6_vital 37 = .ok (.aload_n 0, 1) := by decide +kernel
theorem dX6_vital_38 : decode cX6_vital 38 = .ok (.getfield 43, 3) := by decide +kernel
theorem dX6_vital_41 : decode cX6_vital 41 = .ok (.iload_n 1, 1) := by decide +kernel
theorem dX6_vital_42 : decode cX6_vital 42 = .ok (.iload_n 2, 1) := by decide +kernel
theorem dX6_vital_43 : decode cX6_vital 43 = .ok (.aload_n 0, 1) := by decide +kernel
theorem dX6_vital_44 : decode cX6_vital 44 = .ok (.getfield 43, 3) := by decide +kernel
theorem dX6_vital_47 : decode cX6_vital 47 = .ok (.getfield 175, 3) := by decide +kernel
theorem dX6_vital_50 : decode cX6_vital 50 = .ok (.invokevirtual 178, 3) := by decide +kernel
theorem dX6_vital_53 : decode cX6_vital 53 = .ok (.ifCond .ne 6, 3) := by decide +kernel
theorem dX6_vital_56 : decode cX6_vital 56 = .ok (.bipush (-3), 2) := by decide +kernel
theorem dX6_vital_58 : decode cX6_vital 58 = .ok (.ireturn, 1) := by decide +kernel
theorem dX6_vital_59 : decode cX6_vital 59 = .ok (.aload_n 0, 1) := by decide +kernel
theorem dX6_vital_60 : decode cX6_vital 60 = .ok (.getfield 43, 3) := by decide +kernel
theorem dX6_vital_63 : decode cX6_vital 63 = .ok (.iload_n 1, 1) := by decide +kernel
theorem dX6_vital_64 : decode cX6_vital 64 = .ok (.iload_n 2, 1) := by decide +kernel
theorem dX6_vital_65 : decode cX6_vital 65 = .ok (.invokevirtual 181, 3) := by decide +kernel
theorem dX6_vital_68 : decode cX6_vital 68 = .ok (.istore_n 3, 1) := by decide +kernel
theorem dX6_vital_69 : decode cX6_vital 69 = .ok (.aload_n 0, 1) := by decide +kernel
theorem dX6_vital_70 : decode cX6_vital 70 = .ok (.getfield 36, 3) := by decide +kernel
theorem dX6_vital_73 : decode cX6_vital 73 = .ok (.iload_n 3, 1) := by decide +kernel
theorem dX6_vital_74 : decode cX6_vital 74 = .ok (.invokevirtual 184, 3) := by decide +kernel
theorem dX6_vital_77 : decode cX6_vital 77 = .ok (.iload_n 3, 1) := by decide +kernel
theorem dX6_vital_78 : decode cX6_vital 78 = .ok (.ireturn, 1) := by decide +kernel
theorem dX6_finding_0 : decode cX6_finding 0 = .ok (.iload_n 1, 1) := by decide +kernel
theorem dX6_finding_1 : decode cX6_finding 1 = .ok (.iconst (-1), 1) := by decide +kernel
theorem dX6_finding_2 : decode cX6_finding 2 = .ok (.if_icmp .ge 6, 3) := by decide +kernel
theorem dX6_finding_5 : decode cX6_finding 5 = .ok (.bipush (-2), 2) := by decide +kernel
theorem dX6_finding_7 : decode cX6_finding 7 = .ok (.ireturn, 1) := by decide +kernel
theorem dX6_finding_8 : decode cX6_finding 8 = .ok (.aload_n 0, 1) := by decide +kernel
theorem dX6_finding_9 : decode cX6_finding 9 = .ok (.getfield 36, 3) := by decide +kernel
theorem dX6_finding_12 : decode cX6_finding 12 = .ok (.getfield 170, 3) := by decide +kernel
theorem dX6_finding_15 : decode cX6_finding 15 = .ok (.iconst (-1), 1) := by decide +kernel
theorem dX6_finding_16 : decode cX6_finding 16 = .ok (.if_icmp .ne 6, 3) := by decide +kernel
theorem dX6_finding_19 : decode cX6_finding 19 = .ok (.bipush (-3), 2) := by decide +kernel
theorem dX6_finding_21 : decode cX6_finding 21 = .ok (.ireturn, 1) := by decide +kernel
theorem dX6_finding_22 : decode cX6_finding 22 = .ok (.iload_n 1, 1) := by decide +kernel
theorem dX6_finding_23 : decode cX6_finding 23 = .ok (.iconst (-1), 1) := by decide +kernel
theorem dX6_finding_24 : decode cX6_finding 24 = .ok (.if_icmp .ne 11, 3) := by decide +kernel
theorem dX6_finding_27 : decode cX6_finding 27 = .ok (.aload_n 0, 1) := by decide +kernel
theorem dX6_finding_28 : decode cX6_finding 28 = .ok (.getfield 36, 3) := by decide +kernel
theorem dX6_finding_31 : decode cX6_finding 31 = .ok (.getfield 170, 3) := by decide +kernel
theorem dX6_finding_34 : decode cX6_finding 34 = .ok (.ireturn, 1) := by decide +kernel
theorem dX6_finding_35 : decode cX6_finding 35 = .ok (.iload_n 1, 1) := by decide +kernel
theorem dX6_finding_36 : decode cX6_finding 36 = .ok (.aload_n 0, 1) := by decide +kernel
theorem dX6_finding_37 : decode cX6_finding 37 = .ok (.getfield 36, 3) := by decide +kernel
