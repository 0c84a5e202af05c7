theorem dX0_init_0 : decode cX0_init 0 = .ok (.aload_n 0, 1) := by decide +kernel
theorem dX0_init_1 : decode cX0_init 1 = .ok (.invokespecial 3, 3) := by decide +kernel
theorem dX0_init_4 : decode cX0_init 4 = .ok (.aload_n 0, 1) := by decide +kernel
theorem dX0_init_5 : decode cX0_init 5 = .ok (.bipush 20, 2) := by decide +kernel
theorem dX0_init_7 : decode cX0_init 7 = .ok (.newarray .int, 2) := by decide +kernel
theorem dX0_init_9 : decode cX0_init 9 = .ok (.putfield 9, 3) := by decide +kernel
theorem dX0_init_12 : decode cX0_init 12 = .ok (.aload_n 0, 1) := by decide +kernel
theorem dX0_init_13 : decode cX0_init 13 = .ok (.bipush 21, 2) := by decide +kernel
theorem dX0_init_15 : decode cX0_init 15 = .ok (.newarray .int, 2) := by decide +kernel
theorem dX0_init_17 : decode cX0_init 17 = .ok (.putfield 15, 3) := by decide +kernel
theorem dX0_init_20 : decode cX0_init 20 = .ok (.return_, 1) := by decide +kernel
set_option maxRecDepth 20000 in
theorem ggX0_find_X3_groundsSeen : GoodIn wsX0_find wsX3_groundsSeen := goodIn_r _ [9, 10, 11, 12, 13, 14, 8, 15, 16, 17, 18, 19, 20, 21, 22, 23, 24, 25, 26, 27, 28, 29, 30, 31, 32, 33, 34, 43, 44, 45, 46, 47] (by decide +kernel) (by decide +kernel)
set_option maxRecDepth 20000 in
theorem gX0_find_X3_groundsSeen : GoodIn wsX0_find (wsV RX0 27 RX3 yX3_groundsSeen wsX3_groundsSeen) := goodIn_app (goodIn_of _ (by decide +kernel)) ggX0_find_X3_groundsSeen
set_option maxRecDepth 20000 in
theorem ggX0_find_X3_all : GoodIn wsX0_find wsX3_all := goodIn_r _ [38, 10, 43, 44, 45, 46, 47] (by decide +kernel) (by decide +kernel)
set_option maxRecDepth 20000 in
theorem gX0_find_X3_all : GoodIn wsX0_find (wsV RX0 31 RX3 yX3_all wsX3_all) := goodIn_app (goodIn_of _ (by decide +kernel)) ggX0_find_X3_all
set_option maxRecDepth 20000 in
theorem ggX0_find_X0_leastSet : GoodIn wsX0_find wsX0_leastSet := goodIn_r _ [42, 39, 40, 41] (by decide +kernel) (by decide +kernel)
set_option maxRecDepth 20000 in
theorem gX0_find_X0_leastSet : GoodIn wsX0_find (va_wsS RX0 35 yX0_leastSet wsX0_leastSet) := goodIn_app (goodIn_of _ (by decide +kernel)) ggX0_find_X0_leastSet
theorem dX0_find_0 : decode cX0_find 0 = .ok (.iconst 0, 1) := by decide +kernel
theorem dX0_find_1 : decode cX0_find 1 = .ok (.istore_n 3, 1) := by decide +kernel
theorem dX0_find_2 : decode cX0_find 2 = .ok (.iload_n 3, 1) := by decide +kernel
theorem dX0_find_3 : decode cX0_find 3 = .ok (.aload_n 1, 1) := by decide +kernel
theorem dX0_find_4 : decode cX0_find 4 = .ok (.getfield 18, 3) := by decide +kernel
theorem dX0_find_7 : decode cX0_find 7 = .ok (.if_icmp .ge 49, 3) := by decide +kernel
theorem dX0_find_10 : decode cX0_find 10 = .ok (.aload_n 0, 1) := by decide +kernel
theorem dX0_find_11 : decode cX0_find 11 = .ok (.getfield 9, 3) := by decide +kernel
theorem dX0_find_14 : decode cX0_find 14 = .ok (.iload_n 3, 1) := by decide +kernel
theorem dX0_find_15 : decode cX0_find 15 = .ok (.aload_n 1, 1) := by decide +kernel
theorem dX0_find_16 : decode cX0_find 16 = .ok (.iload_n 3, 1) := by decide +kernel
theorem dX0_find_17 : decode cX0_find 17 = .ok (.aload_n 1, 1) := by decide +kernel
theorem dX0_find_18 : decode cX0_find 18 = .ok (.getfield 24, 3) := by decide +kernel
theorem dX0_find_21 : decode cX0_find 21 = .ok (.iload_n 3, 1) := by decide +kernel
theorem dX0_find_22 : decode cX0_find 22 = .ok (.iaload, 1) := by decide +kernel
theorem dX0_find_23 : decode cX0_find 23 = .ok (.iload_n 2, 1) := by decide +kernel
theorem dX0_find_24 : decode cX0_find 24 = .ok (.iadd, 1) := by decide +kernel
theorem dX0_find_25 : decode cX0_find 25 = .ok (.invokevirtual 27, 3) := by decide +kernel
theorem dX0_find_28 : decode cX0_find 28 = .ok (.iastore, 1) := by decide +kernel
theorem dX0_find_29 : decode cX0_find 29 = .ok (.aload_n 0, 1) := by decide +kernel
theorem dX0_find_30 : decode cX0_find 30 = .ok (.getfield 15, 3) := by decide +kernel
theorem dX0_find_33 : decode cX0_find 33 = .ok (.iload_n 3, 1) := by decide +kernel
theorem dX0_find_34 : decode cX0_find 34 = .ok (.iconst 1, 1) := by decide +kernel
theorem dX0_find_35 : decode cX0_find 35 = .ok (.iadd, 1) := by decide +kernel
theorem dX0_find_36 : decode cX0_find 36 = .ok (.aload_n 0, 1) := by decide +kernel
theorem dX0_find_37 : decode cX0_find 37 = .ok (.getfield 15, 3) := by decide +kernel
theorem dX0_find_40 : decode cX0_find 40 = .ok (.iload_n 3, 1) := by decide +kernel
theorem dX0_find_41 : decode cX0_find 41 = .ok (.iaload, 1) := by decide +kernel
theorem dX0_find_42 : decode cX0_find 42 = .ok (.aload_n 0, 1) := by decide +kernel
theorem dX0_find_43 : decode cX0_find 43 = .ok (.getfield 9, 3) := by decide +kernel
theorem dX0_find_46 : decode cX0_find 46 = .ok (.iload_n 3, 1) := by decide +kernel
theorem dX0_find_47 : decode cX0_find 47 = .ok (.iaload, 1) := by decide +kernel
theorem dX0_find_48 : decode cX0_find 48 = .ok (.ior, 1) := by decide +kernel
theorem dX0_find_49 : decode cX0_find 49 = .ok (.iastore, 1) := by decide +kernel
theorem dX0_find_50 : decode cX0_find 50 = .ok (.iinc 3 1, 3) := by decide +kernel
theorem dX0_find_53 : decode cX0_find 53 = .ok (.goto (-51), 3) := by decide +kernel
theorem dX0_find_56 : decode cX0_find 56 = .ok (.iconst 1, 1) := by decide +kernel
theorem dX0_find_57 : decode cX0_find 57 = .ok (.istore_n 3, 1) := by decide +kernel
theorem dX0_find_58 : decode cX0_find 58 = .ok (.iload_n 3, 1) := by decide +kernel
theorem dX0_find_59 : decode cX0_find 59 = .ok (.aload_n 1, 1) := by decide +kernel
theorem dX0_find_60 : decode cX0_find 60 = .ok (.getfield 18, 3) := by decide +kernel
theorem dX0_find_63 : decode cX0_find 63 = .ok (.if_icmp .ge 40, 3) := by decide +kernel
theorem dX0_find_66 : decode cX0_find 66 = .ok (.aload_n 0, 1) := by decide +kernel
theorem dX0_find_67 : decode cX0_find 67 = .ok (.getfield 9, 3) := by decide +kernel
theorem dX0_find_70 : decode cX0_find 70 = .ok (.aload_n 0, 1) := by decide +kernel
theorem dX0_find_71 : decode cX0_find 71 = .ok (.getfield 15, 3) := by decide +kernel
theorem dX0_find_74 : decode cX0_find 74 = .ok (.aload_n 1, 1) := by decide +kernel
theorem dX0_find_75 : decode cX0_find 75 = .ok (.getfield 18, 3) := by decide +kernel
theorem dX0_find_78 : decode cX0_find 78 = .ok (.iload_n 3, 1) := by decide +kernel
theorem dX0_find_79 : decode cX0_find 79 = .ok (.aload_n 1, 1) := by decide +kernel
theorem dX0_find_80 : decode cX0_find 80 = .ok (.invokevirtual 31, 3) := by decide +kernel
theorem dX0_find_83 : decode cX0_find 83 = .ok (.invokestatic 35, 3) := by decide +kernel
theorem dX0_find_86 : decode cX0_find 86 = .ok (.istore 4, 2) := by decide +kernel
theorem dX0_find_88 : decode cX0_find 88 = .ok (.iload 4, 2) := by decide +kernel
theorem dX0_find_90 : decode cX0_find 90 = .ok (.iconst (-1), 1) := by decide +kernel
theorem dX0_find_91 : decode cX0_find 91 = .ok (.if_icmp .eq 6, 3) := by decide +kernel
theorem dX0_find_94 : decode cX0_find 94 = .ok (.iload 4, 2) := by decide +kernel
theorem dX0_find_96 : decode cX0_find 96 = .ok (.ireturn, 1) := by decide +kernel
theorem dX0_find_97 : decode cX0_find 97 = .ok (.iinc 3 1, 3) := by decide +kernel
theorem dX0_find_100 : decode cX0_find 100 = .ok (.goto (-42), 3) := by decide +kernel
theorem dX0_find_103 : decode cX0_find 103 = .ok (.aload_n 1, 1) := by decide +kernel
theorem dX0_find_104 : decode cX0_find 104 = .ok (.invokevirtual 31, 3) := by decide +kernel
theorem dX0_find_107 : decode cX0_find 107 = .ok (.ireturn, 1) := by decide +kernel
set_option maxRecDepth 20000 in
theorem ggX0_leastSet_X0_leastSet : GoodIn wsX0_leastSet wsX0_leastSet := goodIn_r _ [0, 1, 2, 3] (by decide +kernel) (by decide +kernel)
set_option maxRecDepth 20000 in
theorem gX0_leastSet_X0_leastSet : GoodIn wsX0_leastSet (va_wsS RX0 35 yX0_leastSet wsX0_leastSet) := goodIn_app (goodIn_of _ (by decide +kernel)) ggX0_leastSet_X0_leastSet
theorem dX0_leastSet_0 : decode cX0_leastSet 0 = .ok (.iload 4, 2) := by decide +kernel
theorem dX0_leastSet_2 : decode cX0_leastSet 2 = .ok (.ifCond .ne 5, 3) := by decide +kernel
theorem dX0_leastSet_5 : decode cX0_leastSet 5 = .ok (.iconst 0, 1) := by decide +kernel
theorem dX0_leastSet_6 : decode cX0_leastSet 6 = .ok (.ireturn, 1) := by decide +kernel
theorem dX0_leastSet_7 : decode cX0_leastSet 7 = .ok (.iload_n 3, 1) := by decide +kernel
theorem dX0_leastSet_8 : decode cX0_leastSet 8 = .ok (.iconst 1, 1) := by decide +kernel
theorem dX0_leastSet_9 : decode cX0_leastSet 9 = .ok (.if_icmp .lt 25, 3) := by decide +kernel
theorem dX0_leastSet_12 : decode cX0_leastSet 12 = .ok (.iload_n 2, 1) := by decide +kernel
theorem dX0_leastSet_13 : decode cX0_leastSet 13 = .ok (.iconst 1, 1) := by decide +kernel
theorem dX0_leastSet_14 : decode cX0_leastSet 14 = .ok (.if_icmp .lt 20, 3) := by decide +kernel
theorem dX0_leastSet_17 : decode cX0_leastSet 17 = .ok (.iload_n 2, 1) := by decide +kernel
theorem dX0_leastSet_18 : decode cX0_leastSet 18 = .ok (.bipush 20, 2) := by decide +kernel
theorem dX0_leastSet_20 : decode cX0_leastSet 20 = .ok (.if_icmp .gt 14, 3) := by decide +kernel
theorem dX0_leastSet_23 : decode cX0_leastSet 23 = .ok (.iload 4, 2) := by decide +kernel
theorem dX0_leastSet_25 : decode cX0_leastSet 25 = .ok (.aload_n 1, 1) := by decide +kernel
theorem dX0_leastSet_26 : decode cX0_leastSet 26 = .ok (.iload_n 2, 1) := by decide +kernel
theorem dX0_leastSet_27 : decode cX0_leastSet 27 = .ok (.iaload, 1) := by decide +kernel
theorem dX0_leastSet_28 : decode cX0_leastSet 28 = .ok (.iconst (-1), 1) := by decide +kernel
theorem dX0_leastSet_29 : decode cX0_leastSet 29 = .ok (.ixor, 1) := by decide +kernel
theorem dX0_leastSet_30 : decode cX0_leastSet 30 = .ok (.iand, 1) := by decide +kernel
theorem dX0_leastSet_31 : decode cX0_leastSet 31 = .ok (.ifCond .eq 5, 3) := by decide +kernel
theorem dX0_leastSet_34 : decode cX0_leastSet 34 = .ok (.iconst (-1), 1) := by decide +kernel
theorem dX0_leastSet_35 : decode cX0_leastSet 35 = .ok (.ireturn, 1) := by decide +kernel
theorem dX0_leastSet_36 : decode cX0_leastSet 36 = .ok (.aload_n 0, 1) := by decide +kernel
theorem dX0_leastSet_37 : decode cX0_leastSet 37 = .ok (.aload_n 1, 1) := by decide +kernel
theorem dX0_leastSet_38 : decode cX0_leastSet 38 = .ok (.iload_n 2, 1) := by decide +kernel
theorem dX0_leastSet_39 : decode cX0_leastSet 39 = .ok (.iconst 1, 1) := by decide +kernel
theorem dX0_leastSet_40 : decode cX0_leastSet 40 = .ok (.isub, 1) := by decide +kernel
theorem dX0_leastSet_41 : decode cX0_leastSet 41 = .ok (.iload_n 3, 1) := by decide +kernel
theorem dX0_leastSet_42 : decode cX0_leastSet 42 = .ok (.iload 4, 2) := by decide +kernel
theorem dX0_leastSet_44 : decode cX0_leastSet 44 = .ok (.invokestatic 35, 3) := by decide +kernel
theorem dX0_leastSet_47 : decode cX0_leastSet 47 = .ok (.istore 5, 2) := by decide +kernel
theorem dX0_leastSet_49 : decode cX0_leastSet 49 = .ok (.iload 5, 2) := by decide +kernel
theorem dX0_leastSet_51 : decode cX0_leastSet 51 = .ok (.iconst (-1), 1) := by decide +kernel
theorem dX0_leastSet_52 : decode cX0_leastSet 52 = .ok (.if_icmp .eq 6, 3) := by decide +kernel
theorem dX0_leastSet_55 : decode cX0_leastSet 55 = .ok (.iload 5, 2) := by decide +kernel
theorem dX0_leastSet_57 : decode cX0_leastSet 57 = .ok (.ireturn, 1) := by decide +kernel
theorem dX0_leastSet_58 : decode cX0_leastSet 58 = .ok (.aload_n 0, 1) := by decide +kernel
theorem dX0_leastSet_59 : decode cX0_leastSet 59 = .ok (.aload_n 1, 1) := by decide +kernel
theorem dX0_leastSet_60 : decode cX0_leastSet 60 = .ok (.iload_n 2, 1) := by decide +kernel
theorem dX0_leastSet_61 : decode cX0_leastSet 61 = .ok (.iconst 1, 1) := by decide +kernel
theorem dX0_leastSet_62 : decode cX0_leastSet 62 = .ok (.isub, 1) := by decide +kernel
theorem dX0_leastSet_63 : decode cX0_leastSet 63 = .ok (.iload_n 3, 1) := by decide +kernel
theorem dX0_leastSet_64 : decode cX0_leastSet 64 = .ok (.iconst 1, 1) := by decide +kernel
theorem dX0_leastSet_65 : decode cX0_leastSet 65 = .ok (.isub, 1) := by decide +kernel
theorem dX0_leastSet_66 : decode cX0_leastSet 66 = .ok (.iload 4, 2) := by decide +kernel
theorem dX0_leastSet_68 : decode cX0_leastSet 68 = .ok (.aload_n 0, 1) := by decide +kernel
theorem dX0_leastSet_69 : decode cX0_leastSet 69 = .ok (.iload_n 2, 1) := by decide +kernel
theorem dX0_leastSet_70 : decode cX0_leastSet 70 = .ok (.iconst 1, 1) := by decide +kernel
theorem dX0_leastSet_71 : decode cX0_leastSet 71 = .ok (.isub, 1) := by decide +kernel
theorem dX0_leastSet_72 : decode cX0_leastSet 72 = .ok (.iaload, 1) := by decide +kernel
theorem dX0_leastSet_73 : decode cX0_leastSet 73 = .ok (.iconst (-1), 1) := by decide +kernel
theorem dX0_leastSet_74 : decode cX0_leastSet 74 = .ok (.ixor, 1) := by decide +kernel
theorem dX0_leastSet_75 : decode cX0_leastSet 75 = .ok (.iand, 1) := by decide +kernel
theorem dX0_leastSet_76 : decode cX0_leastSet 76 = .ok (.invokestatic 35, 3) := by decide +kernel
theorem dX0_leastSet_79 : decode cX0_leastSet 79 = .ok (.istore 6, 2) := by decide +kernel
theorem dX0_leastSet_81 : decode cX0_leastSet 81 = .ok (.iload 6, 2) := by decide +kernel
theorem dX0_leastSet_83 : decode cX0_leastSet 83 = .ok (.iconst (-1), 1) := by decide +kernel
theorem dX0_leastSet_84 : decode cX0_leastSet 84 = .ok (.if_icmp .ne 7, 3) := by decide +kernel
theorem dX0_leastSet_87 : decode cX0_leastSet 87 = .ok (.iconst (-1), 1) := by decide +kernel
theorem dX0_leastSet_88 : decode cX0_leastSet 88 = .ok (.goto 11, 3) := by decide +kernel
theorem dX0_leastSet_91 : decode cX0_leastSet 91 = .ok (.iload 6, 2) := by decide +kernel
theorem dX0_leastSet_93 : decode cX0_leastSet 93 = .ok (.iconst 1, 1) := by decide +kernel
theorem dX0_leastSet_94 : decode cX0_leastSet 94 = .ok (.iload_n 2, 1) := by decide +kernel
theorem dX0_leastSet_95 : decode cX0_leastSet 95 = .ok (.iconst 1, 1) := by decide +kernel
theorem dX0_leastSet_96 : decode cX0_leastSet 96 = .ok (.isub, 1) := by decide +kernel
theorem dX0_leastSet_97 : decode cX0_leastSet 97 = .ok (.ishl, 1) := by decide +kernel
theorem dX0_leastSet_98 : decode cX0_leastSet 98 = .ok (.ior, 1) := by decide +kernel
theorem dX0_leastSet_99 : decode cX0_leastSet 99 = .ok (.ireturn, 1) := by decide +kernel
theorem dX1_init_0 : decode cX1_init 0 = .ok (.aload_n 0, 1) := by decide +kernel
theorem dX1_init_1 : decode cX1_init 1 = .ok (.invokespecial 3, 3) := by decide +kernel
theorem dX1_init_4 : decode cX1_init 4 = .ok (.aload_n 0, 1) := by decide +kernel
theorem dX1_init_5 : decode cX1_init 5 = .ok (.bipush 20, 2) := by decide +kernel
theorem dX1_init_7 : decode cX1_init 7 = .ok (.newarray .int, 2) := by decide +kernel
theorem dX1_init_9 : decode cX1_init 9 = .ok (.putfield 9, 3) := by decide +kernel
theorem dX1_init_12 : decode cX1_init 12 = .ok (.aload_n 0, 1) := by decide +kernel
theorem dX1_init_13 : decode cX1_init 13 = .ok (.iconst (-1), 1) := by decide +kernel
theorem dX1_init_14 : decode cX1_init 14 = .ok (.putfield 15, 3) := by decide +kernel
theorem dX1_init_17 : decode cX1_init 17 = .ok (.return_, 1) := by decide +kernel
theorem dX1_clear_0 : decode cX1_clear 0 = .ok (.aload_n 0, 1) := by decide +kernel
theorem dX1_clear_1 : decode cX1_clear 1 = .ok (.iconst 0, 1) := by decide +kernel
theorem dX1_clear_2 : decode cX1_clear 2 = .ok (.putfield 15, 3) := by decide +kernel
theorem dX1_clear_5 : decode cX1_clear 5 = .ok (.return_, 1) := by decide +kernel
theorem dX1_append_0 : decode cX1_append 0 = .ok (.aload_n 0, 1) := by decide +kernel
theorem dX1_append_1 : decode cX1_append 1 = .ok (.getfield 15, 3) := by decide +kernel
theorem dX1_append_4 : decode cX1_append 4 = .ok (.ifCond .lt 32, 3) := by decide +kernel
theorem dX1_append_7 : decode cX1_append 7 = .ok (.aload_n 0, 1) := by decide +kernel
theorem dX1_append_8 : decode cX1_append 8 = .ok (.getfield 15, 3) := by decide +kernel
theorem dX1_append_11 : decode cX1_append 11 = .ok (.bipush 20, 2) := by decide +kernel
theorem dX1_append_13 : decode cX1_append 13 = .ok (.if_icmp .ge 23, 3) := by decide +kernel
theorem dX1_append_16 : decode cX1_append 16 = .ok (.aload_n 0, 1) := by decide +kernel
theorem dX1_append_17 : decode cX1_append 17 = .ok (.getfield 9, 3) := by decide +kernel
theorem dX1_append_20 : decode cX1_append 20 = .ok (.aload_n 0, 1) := by decide +kernel
theorem dX1_append_21 : decode cX1_append 21 = .ok (.getfield 15, 3) := by decide +kernel
theorem dX1_append_24 : decode cX1_append 24 = .ok (.iload_n 1, 1) := by decide +kernel
theorem dX1_append_25 : decode cX1_append 25 = .ok (.iastore, 1) := by decide +kernel
theorem dX1_append_26 : decode cX1_append 26 = .ok (.aload_n 0, 1) := by decide +kernel
theorem dX1_append_27 : decode cX1_append 27 = .ok (.dup, 1) := by decide +kernel
theorem dX1_append_28 : decode cX1_append 28 = .ok (.getfield 15, 3) := by decide +kernel
theorem dX1_append_31 : decode cX1_append 31 = .ok (.iconst 1, 1) := by decide +kernel
theorem dX1_append_32 : decode cX1_append 32 = .ok (.iadd, 1) := by decide +kernel
theorem dX1_append_33 : decode cX1_append 33 = .ok (.putfield 15, 3) := by decide +kernel
theorem dX1_append_36 : decode cX1_append 36 = .ok (.return_, 1) := by decide +kernel
set_option maxRecDepth 20000 in
theorem ggX1_keepSet_X1_clear : GoodIn wsX1_keepSet wsX1_clear := goodIn_r _ [5, 6, 15, 16] (by decide +kernel) (by decide +kernel)
set_option maxRecDepth 20000 in
theorem gX1_keepSet_X1_clear : GoodIn wsX1_keepSet (wsV RX1 19 RX1 yX1_clear wsX1_clear) := goodIn_app (goodIn_of _ (by decide +kernel)) ggX1_keepSet_X1_clear
set_option maxRecDepth 20000 in
theorem ggX1_keepSet_X6_holds : GoodIn wsX1_keepSet wsX6_holds := goodIn_r _ [9] (by decide +kernel) (by decide +kernel)
set_option maxRecDepth 20000 in
theorem gX1_keepSet_X6_holds_n22 : GoodIn wsX1_keepSet (wsX6_holds) := ggX1_keepSet_X6_holds
set_option maxRecDepth 20000 in
theorem ggX1_keepSet_X1_append : GoodIn wsX1_keepSet wsX1_append := goodIn_r _ [13, 6, 14, 15, 16] (by decide +kernel) (by decide +kernel)
set_option maxRecDepth 20000 in
theorem gX1_keepSet_X1_append : GoodIn wsX1_keepSet (wsV RX1 26 RX1 yX1_append wsX1_append) := goodIn_app (goodIn_of _ (by decide +kernel)) ggX1_keepSet_X1_append
theorem dX1_keepSet_0 : decode cX1_keepSet 0 = .ok (.aload_n 0, 1) := by decide +kernel
theorem dX1_keepSet_1 : decode cX1_keepSet 1 = .ok (.invokevirtual 19, 3) := by decide +kernel
theorem dX1_keepSet_4 : decode cX1_keepSet 4 = .ok (.iconst 0, 1) := by decide +kernel
theorem dX1_keepSet_5 : decode cX1_keepSet 5 = .ok (.istore_n 2, 1) := by decide +kernel
theorem dX1_keepSet_6 : decode cX1_keepSet 6 = .ok (.iload_n 2, 1) := by decide +kernel
theorem dX1_keepSet_7 : decode cX1_keepSet 7 = .ok (.bipush 20, 2) := by decide +kernel
theorem dX1_keepSet_9 : decode cX1_keepSet 9 = .ok (.if_icmp .ge 22, 3) := by decide +kernel
theorem dX1_keepSet_12 : decode cX1_keepSet 12 = .ok (.iload_n 1, 1) := by decide +kernel
theorem dX1_keepSet_13 : decode cX1_keepSet 13 = .ok (.iload_n 2, 1) := by decide +kernel
theorem dX1_keepSet_14 : decode cX1_keepSet 14 = .ok (.invokestatic 22, 3) := by decide +kernel
theorem dX1_keepSet_17 : decode cX1_keepSet 17 = .ok (.ifCond .eq 8, 3) := by decide +kernel
theorem dX1_keepSet_20 : decode cX1_keepSet 20 = .ok (.aload_n 0, 1) := by decide +kernel
theorem dX1_keepSet_21 : decode cX1_keepSet 21 = .ok (.iload_n 2, 1) := by decide +kernel
theorem dX1_keepSet_22 : decode cX1_keepSet 22 = .ok (.invokevirtual 26, 3) := by decide +kernel
theorem dX1_keepSet_25 : decode cX1_keepSet 25 = .ok (.iinc 2 1, 3) := by decide +kernel
theorem dX1_keepSet_28 : decode cX1_keepSet 28 = .ok (.goto (-22), 3) := by decide +kernel
theorem dX1_keepSet_31 : decode cX1_keepSet 31 = .ok (.return_, 1) := by decide +kernel
set_option maxRecDepth 20000 in
theorem ggX2_init_X3_init : GoodIn wsX2_init wsX3_init := goodIn_r _ [11, 12, 2, 3, 13, 14, 15, 16, 17, 18, 22, 23, 24, 25, 26] (by decide +kernel) (by decide +kernel)
set_option maxRecDepth 20000 in
theorem gX2_init_X3_init_n24 : GoodIn wsX2_init (wsX3_init) := ggX2_init_X3_init
theorem dX2_init_0 : decode cX2_init 0 = .ok (.aload_n 0, 1) := by decide +kernel
theorem dX2_init_1 : decode cX2_init 1 = .ok (.invokespecial 3, 3) := by decide +kernel
theorem dX2_init_4 : decode cX2_init 4 = .ok (.aload_n 0, 1) := by decide +kernel
theorem dX2_init_5 : decode cX2_init 5 = .ok (.bipush 10, 2) := by decide +kernel
theorem dX2_init_7 : decode cX2_init 7 = .ok (.anewarray 9, 3) := by decide +kernel
theorem dX2_init_10 : decode cX2_init 10 = .ok (.putfield 11, 3) := by decide +kernel
theorem dX2_init_13 : decode cX2_init 13 = .ok (.aload_n 0, 1) := by decide +kernel
theorem dX2_init_14 : decode cX2_init 14 = .ok (.iconst 0, 1) := by decide +kernel
theorem dX2_init_15 : decode cX2_init 15 = .ok (.putfield 17, 3) := by decide +kernel
theorem dX2_init_18 : decode cX2_init 18 = .ok (.aload_n 0, 1) := by decide +kernel
theorem dX2_init_19 : decode cX2_init 19 = .ok (.iconst 0, 1) := by decide +kernel
theorem dX2_init_20 : decode cX2_init 20 = .ok (.putfield 21, 3) := by decide +kernel
theorem dX2_init_23 : decode cX2_init 23 = .ok (.iconst 0, 1) := by decide +kernel
theorem dX2_init_24 : decode cX2_init 24 = .ok (.istore_n 1, 1) := by decide +kernel
theorem dX2_init_25 : decode cX2_init 25 = .ok (.iload_n 1, 1) := by decide +kernel
theorem dX2_init_26 : decode cX2_init 26 = .ok (.bipush 10, 2) := by decide +kernel
theorem dX2_init_28 : decode cX2_init 28 = .ok (.if_icmp .ge 22, 3) := by decide +kernel
theorem dX2_init_31 : decode cX2_init 31 = .ok (.aload_n 0, 1) := by decide +kernel
theorem dX2_init_32 : decode cX2_init 32 = .ok (.getfield 11, 3) := by decide +kernel
theorem dX2_init_35 : decode cX2_init 35 = .ok (.iload_n 1, 1) := by decide +kernel
theorem dX2_init_36 : decode cX2_init 36 = .ok (.new 9, 3) := by decide +kernel
theorem dX2_init_39 : decode cX2_init 39 = .ok (.dup, 1) := by decide +kernel
theorem dX2_init_40 : decode cX2_init 40 = .ok (.invokespecial 24, 3) := by decide +kernel
theorem dX2_init_43 : decode cX2_init 43 = .ok (.aastore, 1) := by decide +kernel
theorem dX2_init_44 : decode cX2_init 44 = .ok (.iinc 1 1, 3) := by decide +kernel
theorem dX2_init_47 : decode cX2_init 47 = .ok (.goto (-22), 3) := by decide +kernel
theorem dX2_init_50 : decode cX2_init 50 = .ok (.return_, 1) := by decide +kernel
set_option maxRecDepth 20000 in
theorem ggX2_keep_X3_copyFrom : GoodIn wsX2_keep wsX3_copyFrom := goodIn_r _ [12, 13, 14, 15, 16, 17, 11, 18, 19, 20, 21, 25, 26, 27, 28, 29] (by decide +kernel) (by decide +kernel)
set_option maxRecDepth 20000 in
theorem gX2_keep_X3_copyFrom : GoodIn wsX2_keep (wsV RX2 25 RX3 yX3_copyFrom wsX3_copyFrom) := goodIn_app (goodIn_of _ (by decide +kernel)) ggX2_keep_X3_copyFrom
theorem dX2_keep_0 : decode cX2_keep 0 = .ok (.aload_n 0, 1) := by decide +kernel
theorem dX2_keep_1 : decode cX2_keep 1 = .ok (.getfield 11, 3) := by decide +kernel
theorem dX2_keep_4 : decode cX2_keep 4 = .ok (.aload_n 0, 1) := by decide +kernel
theorem dX2_keep_5 : decode cX2_keep 5 = .ok (.getfield 21, 3) := by decide +kernel
theorem dX2_keep_8 : decode cX2_keep 8 = .ok (.aaload, 1) := by decide +kernel
theorem dX2_keep_9 : decode cX2_keep 9 = .ok (.aload_n 1, 1) := by decide +kernel
theorem dX2_keep_10 : decode cX2_keep 10 = .ok (.invokevirtual 25, 3) := by decide +kernel
theorem dX2_keep_13 : decode cX2_keep 13 = .ok (.aload_n 0, 1) := by decide +kernel
theorem dX2_keep_14 : decode cX2_keep 14 = .ok (.aload_n 0, 1) := by decide +kernel
theorem dX2_keep_15 : decode cX2_keep 15 = .ok (.getfield 21, 3) := by decide +kernel
theorem dX2_keep_18 : decode cX2_keep 18 = .ok (.bipush 9, 2) := by decide +kernel
theorem dX2_keep_20 : decode cX2_keep 20 = .ok (.if_icmp .ge 12, 3) := by decide +kernel
theorem dX2_keep_23 : decode cX2_keep 23 = .ok (.aload_n 0, 1) := by decide +kernel
theorem dX2_keep_24 : decode cX2_keep 24 = .ok (.getfield 21, 3) := by decide +kernel
theorem dX2_keep_27 : decode cX2_keep 27 = .ok (.iconst 1, 1) := by decide +kernel
theorem dX2_keep_28 : decode cX2_keep 28 = .ok (.iadd, 1) := by decide +kernel
theorem dX2_keep_29 : decode cX2_keep 29 = .ok (.goto 4, 3) := by decide +kernel
theorem dX2_keep_32 : decode cX2_keep 32 = .ok (.iconst 0, 1) := by decide +kernel
theorem dX2_keep_33 : decode cX2_keep 33 = .ok (.putfield 21, 3) := by decide +kernel
theorem dX2_keep_36 : decode cX2_keep 36 = .ok (.aload_n 0, 1) := by decide +kernel
theorem dX2_keep_37 : decode cX2_keep 37 = .ok (.aload_n 0, 1) := by decide +kernel
theorem dX2_keep_38 : decode cX2_keep 38 = .ok (.getfield 17, 3) := by decide +kernel
theorem dX2_keep_41 : decode cX2_keep 41 = .ok (.iconst 1, 1) := by decide +kernel
theorem dX2_keep_42 : decode cX2_keep 42 = .ok (.iadd, 1) := by decide +kernel
theorem dX2_keep_43 : decode cX2_keep 43 = .ok (.bipush 10, 2) := by decide +kernel
theorem dX2_keep_45 : decode cX2_keep 45 = .ok (.invokestatic 29, 3) := by decide +kernel
theorem dX2_keep_48 : decode cX2_keep 48 = .ok (.putfield 17, 3) := by decide +kernel
theorem dX2_keep_51 : decode cX2_keep 51 = .ok (.return_, 1) := by decide +kernel
set_option maxRecDepth 20000 in
theorem ggX2_restore_X3_copyFrom : GoodIn wsX2_restore wsX3_copyFrom := goodIn_r _ [8, 9, 10, 11, 12, 13, 7, 14, 15, 16, 17, 21, 22, 23, 24, 25] (by decide +kernel) (by decide +kernel)
set_option maxRecDepth 20000 in
theorem gX2_restore_X3_copyFrom : GoodIn wsX2_restore (wsV RX2 25 RX3 yX3_copyFrom wsX3_copyFrom) := goodIn_app (goodIn_of _ (by decide +kernel)) ggX2_restore_X3_copyFrom
theorem dX2_restore_0 : decode cX2_restore 0 = .ok (.aload_n 0, 1) := by decide +kernel
theorem dX2_restore_1 : decode cX2_restore 1 = .ok (.getfield 17, 3) := by decide +kernel
theorem dX2_restore_4 : decode cX2_restore 4 = .ok (.ifCond .le 48, 3) := by decide +kernel
theorem dX2_restore_7 : decode cX2_restore 7 = .ok (.aload_n 0, 1) := by decide +kernel
theorem dX2_restore_8 : decode cX2_restore 8 = .ok (.aload_n 0, 1) := by decide +kernel
theorem dX2_restore_9 : decode cX2_restore 9 = .ok (.getfield 21, 3) := by decide +kernel
theorem dX2_restore_12 : decode cX2_restore 12 = .ok (.ifCond .le 12, 3) := by decide +kernel
theorem dX2_restore_15 : decode cX2_restore 15 = .ok (.aload_n 0, 1) := by decide +kernel
theorem dX2_restore_16 : decode cX2_restore 16 = .ok (.getfield 21, 3) := by decide +kernel
theorem dX2_restore_19 : decode cX2_restore 19 = .ok (.iconst 1, 1) := by decide +kernel
theorem dX2_restore_20 : decode cX2_restore 20 = .ok (.isub, 1) := by decide +kernel
theorem dX2_restore_21 : decode cX2_restore 21 = .ok (.goto 5, 3) := by decide +kernel
theorem dX2_restore_24 : decode cX2_restore 24 = .ok (.bipush 9, 2) := by decide +kernel
theorem dX2_restore_26 : decode cX2_restore 26 = .ok (.putfield 21, 3) := by decide +kernel
theorem dX2_restore_29 : decode cX2_restore 29 = .ok (.aload_n 0, 1) := by decide +kernel
theorem dX2_restore_30 : decode cX2_restore 30 = .ok (.dup, 1) := by decide +kernel
theorem dX2_restore_31 : decode cX2_restore 31 = .ok (.getfield 17, 3) := by decide +kernel
theorem dX2_restore_34 : decode cX2_restore 34 = .ok (.iconst 1, 1) := by decide +kernel
theorem dX2_restore_35 : decode cX2_restore 35 = .ok (.isub, 1) := by decide +kernel
theorem dX2_restore_36 : decode cX2_restore 36 = .ok (.putfield 17, 3) := by decide +kernel
theorem dX2_restore_39 : decode cX2_restore 39 = .ok (.aload_n 1, 1) := by decide +kernel
theorem dX2_restore_40 : decode cX2_restore 40 = .ok (.aload_n 0, 1) := by decide +kernel
theorem dX2_restore_41 : decode cX2_restore 41 = .ok (.getfield 11, 3) := by decide +kernel
theorem dX2_restore_44 : decode cX2_restore 44 = .ok (.aload_n 0, 1) := by decide +kernel
theorem dX2_restore_45 : decode cX2_restore 45 = .ok (.getfield 21, 3) := by decide +kernel
theorem dX2_restore_48 : decode cX2_restore 48 = .ok (.aaload, 1) := by decide +kernel
theorem dX2_restore_49 : decode cX2_restore 49 = .ok (.invokevirtual 25, 3) := by decide +kernel
theorem dX2_restore_52 : decode cX2_restore 52 = .ok (.return_, 1) := by decide +kernel
theorem dX3_init_0 : decode cX3_init 0 = .ok (.aload_n 0, 1) := by decide +kernel
theorem dX3_init_1 : decode cX3_init 1 = .ok (.invokespecial 3, 3) := by decide +kernel
theorem dX3_init_4 : decode cX3_init 4 = .ok (.aload_n 0, 1) := by decide +kernel
theorem dX3_init_5 : decode cX3_init 5 = .ok (.bipush 20, 2) := by decide +kernel
theorem dX3_init_7 : decode cX3_init 7 = .ok (.newarray .int, 2) := by decide +kernel
theorem dX3_init_9 : decode cX3_init 9 = .ok (.putfield 9, 3) := by decide +kernel
theorem dX3_init_12 : decode cX3_init 12 = .ok (.aload_n 0, 1) := by decide +kernel
theorem dX3_init_13 : decode cX3_init 13 = .ok (.bipush 20, 2) := by decide +kernel
theorem dX3_init_15 : decode cX3_init 15 = .ok (.newarray .int, 2) := by decide +kernel
theorem dX3_init_17 : decode cX3_init 17 = .ok (.putfield 15, 3) := by decide +kernel
theorem dX3_init_20 : decode cX3_init 20 = .ok (.aload_n 0, 1) := by decide +kernel
theorem dX3_init_21 : decode cX3_init 21 = .ok (.iconst 2, 1) := by decide +kernel
theorem dX3_init_22 : decode cX3_init 22 = .ok (.putfield 18, 3) := by decide +kernel
theorem dX3_init_25 : decode cX3_init 25 = .ok (.aload_n 0, 1) := by decide +kernel
theorem dX3_init_26 : decode cX3_init 26 = .ok (.bipush 19, 2) := by decide +kernel
theorem dX3_init_28 : decode cX3_init 28 = .ok (.putfield 22, 3) := by decide +kernel
theorem dX3_init_31 : decode cX3_init 31 = .ok (.aload_n 0, 1) := by decide +kernel
theorem dX3_init_32 : decode cX3_init 32 = .ok (.iconst 0, 1) := by decide +kernel
theorem dX3_init_33 : decode cX3_init 33 = .ok (.putfield 25, 3) := by decide +kernel
theorem dX3_init_36 : decode cX3_init 36 = .ok (.return_, 1) := by decide +kernel
theorem dX3_has_0 : decode cX3_has 0 = .ok (.iload_n 1, 1) := by decide +kernel
theorem dX3_has_1 : decode cX3_has 1 = .ok (.ifCond .lt 15, 3) := by decide +kernel
theorem dX3_has_4 : decode cX3_has 4 = .ok (.iload_n 1, 1) := by decide +kernel
theorem dX3_has_5 : decode cX3_has 5 = .ok (.aload_n 0, 1) := by decide +kernel
theorem dX3_has_6 : decode cX3_has 6 = .ok (.getfield 18, 3) := by decide +kernel
theorem dX3_has_9 : decode cX3_has 9 = .ok (.if_icmp .ge 7, 3) := by decide +kernel
theorem dX3_has_12 : decode cX3_has 12 = .ok (.iconst 1, 1) := by decide +kernel
theorem dX3_has_13 : decode cX3_has 13 = .ok (.goto 4, 3) := by decide +kernel
theorem dX3_has_16 : decode cX3_has 16 = .ok (.iconst 0, 1) := by decide +kernel
theorem dX3_has_17 : decode cX3_has 17 = .ok (.ireturn, 1) := by decide +kernel
set_option maxRecDepth 20000 in
theorem ggX3_hasPair_X3_has : GoodIn wsX3_hasPair wsX3_has := goodIn_r _ [5, 6, 7, 8, 9, 10, 11] (by decide +kernel) (by decide +kernel)
set_option maxRecDepth 20000 in
theorem gX3_hasPair_X3_has : GoodIn wsX3_hasPair (wsV RX3 28 RX3 yX3_has wsX3_has) := goodIn_app (goodIn_of _ (by decide +kernel)) ggX3_hasPair_X3_has
theorem dX3_hasPair_0 : decode cX3_hasPair 0 = .ok (.aload_n 0, 1) := by decide +kernel
theorem dX3_hasPair_1 : decode cX3_hasPair 1 = .ok (.iload_n 1, 1) := by decide +kernel
theorem dX3_hasPair_2 : decode cX3_hasPair 2 = .ok (.invokevirtual 28, 3) := by decide +kernel
theorem dX3_hasPair_5 : decode cX3_hasPair 5 = .ok (.ifCond .eq 20, 3) := by decide +kernel
theorem dX3_hasPair_8 : decode cX3_hasPair 8 = .ok (.aload_n 0, 1) := by decide +kernel
theorem dX3_hasPair_9 : decode cX3_hasPair 9 = .ok (.iload_n 2, 1) := by decide +kernel
theorem dX3_hasPair_10 : decode cX3_hasPair 10 = .ok (.invokevirtual 28, 3) := by decide +kernel
theorem dX3_hasPair_13 : decode cX3_hasPair 13 = .ok (.ifCond .eq 12, 3) := by decide +kernel
theorem dX3_hasPair_16 : decode cX3_hasPair 16 = .ok (.iload_n 1, 1) := by decide +kernel
theorem dX3_hasPair_17 : decode cX3_hasPair 17 = .ok (.iload_n 2, 1) := by decide +kernel
theorem dX3_hasPair_18 : decode cX3_hasPair 18 = .ok (.if_icmp .eq 7, 3) := by decide +kernel
theorem dX3_hasPair_21 : decode cX3_hasPair 21 = .ok (.iconst 1, 1) := by decide +kernel
theorem dX3_hasPair_22 : decode cX3_hasPair 22 = .ok (.goto 4, 3) := by decide +kernel
theorem dX3_hasPair_25 : decode cX3_hasPair 25 = .ok (.iconst 0, 1) := by decide +kernel
theorem dX3_hasPair_26 : decode cX3_hasPair 26 = .ok (.ireturn, 1) := by decide +kernel
theorem dX3_all_0 : decode cX3_all 0 = .ok (.iconst 1, 1) := by decide +kernel
theorem dX3_all_1 : decode cX3_all 1 = .ok (.aload_n 0, 1) := by decide +kernel
theorem dX3_all_2 : decode cX3_all 2 = .ok (.getfield 18, 3) := by decide +kernel
theorem dX3_all_5 : decode cX3_all 5 = .ok (.ishl, 1) := by decide +kernel
theorem dX3_all_6 : decode cX3_all 6 = .ok (.iconst 1, 1) := by decide +kernel
theorem dX3_all_7 : decode cX3_all 7 = .ok (.isub, 1) := by decide +kernel
theorem dX3_all_8 : decode cX3_all 8 = .ok (.ireturn, 1) := by decide +kernel
set_option maxRecDepth 20000 in
theorem ggX3_topOf_X3_has : GoodIn wsX3_topOf wsX3_has := goodIn_r _ [7, 8, 9, 10, 11, 12, 13] (by decide +kernel) (by decide +kernel)
set_option maxRecDepth 20000 in
theorem gX3_topOf_X3_has : GoodIn wsX3_topOf (wsV RX3 28 RX3 yX3_has wsX3_has) := goodIn_app (goodIn_of _ (by decide +kernel)) ggX3_topOf_X3_has
theorem dX3_topOf_0 : decode cX3_topOf 0 = .ok (.aload_n 0, 1) := by decide +kernel
theorem dX3_topOf_1 : decode cX3_topOf 1 = .ok (.iload_n 1, 1) := by decide +kernel
theorem dX3_topOf_2 : decode cX3_topOf 2 = .ok (.invokevirtual 28, 3) := by decide +kernel
theorem dX3_topOf_5 : decode cX3_topOf 5 = .ok (.ifCond .eq 19, 3) := by decide +kernel
theorem dX3_topOf_8 : decode cX3_topOf 8 = .ok (.aload_n 0, 1) := by decide +kernel
theorem dX3_topOf_9 : decode cX3_topOf 9 = .ok (.getfield 9, 3) := by decide +kernel
theorem dX3_topOf_12 : decode cX3_topOf 12 = .ok (.iload_n 1, 1) := by decide +kernel
theorem dX3_topOf_13 : decode cX3_topOf 13 = .ok (.iaload, 1) := by decide +kernel
theorem dX3_topOf_14 : decode cX3_topOf 14 = .ok (.aload_n 0, 1) := by decide +kernel
theorem dX3_topOf_15 : decode cX3_topOf 15 = .ok (.getfield 15, 3) := by decide +kernel
theorem dX3_topOf_18 : decode cX3_topOf 18 = .ok (.iload_n 1, 1) := by decide +kernel
theorem dX3_topOf_19 : decode cX3_topOf 19 = .ok (.iaload, 1) := by decide +kernel
theorem dX3_topOf_20 : decode cX3_topOf 20 = .ok (.iadd, 1) := by decide +kernel
theorem dX3_topOf_21 : decode cX3_topOf 21 = .ok (.goto 4, 3) := by decide +kernel
theorem dX3_topOf_24 : decode cX3_topOf 24 = .ok (.iconst 0, 1) := by decide +kernel
theorem dX3_topOf_25 : decode cX3_topOf 25 = .ok (.ireturn, 1) := by decide +kernel
theorem dX3_clear_0 : decode cX3_clear 0 = .ok (.aload_n 0, 1) := by decide +kernel
theorem dX3_clear_1 : decode cX3_clear 1 = .ok (.iconst 0, 1) := by decide +kernel
theorem dX3_clear_2 : decode cX3_clear 2 = .ok (.putfield 18, 3) := by decide +kernel
theorem dX3_clear_5 : decode cX3_clear 5 = .ok (.return_, 1) := by decide +kernel
theorem dX3_append_0 : decode cX3_append 0 = .ok (.iconst 0, 1) := by decide +kernel
theorem dX3_append_1 : decode cX3_append 1 = .ok (.istore 4, 2) := by decide +kernel
theorem dX3_append_3 : decode cX3_append 3 = .ok (.iload 4, 2) := by decide +kernel
theorem dX3_append_5 : decode cX3_append 5 = .ok (.iload_n 1, 1) := by decide +kernel
theorem dX3_append_6 : decode cX3_append 6 = .ok (.if_icmp .ge 48, 3) := by decide +kernel
theorem dX3_append_9 : decode cX3_append 9 = .ok (.aload_n 0, 1) := by decide +kernel
theorem dX3_append_10 : decode cX3_append 10 = .ok (.getfield 18, 3) := by decide +kernel
theorem dX3_append_13 : decode cX3_append 13 = .ok (.bipush 20, 2) := by decide +kernel
theorem dX3_append_15 : decode cX3_append 15 = .ok (.if_icmp .ge 39, 3) := by decide +kernel
theorem dX3_append_18 : decode cX3_append 18 = .ok (.aload_n 0, 1) := by decide +kernel
theorem dX3_append_19 : decode cX3_append 19 = .ok (.getfield 9, 3) := by decide +kernel
theorem dX3_append_22 : decode cX3_append 22 = .ok (.aload_n 0, 1) := by decide +kernel
theorem dX3_append_23 : decode cX3_append 23 = .ok (.getfield 18, 3) := by decide +kernel
theorem dX3_append_26 : decode cX3_append 26 = .ok (.iload_n 2, 1) := by decide +kernel
theorem dX3_append_27 : decode cX3_append 27 = .ok (.iastore, 1) := by decide +kernel
theorem dX3_append_28 : decode cX3_append 28 = .ok (.aload_n 0, 1) := by decide +kernel
theorem dX3_append_29 : decode cX3_append 29 = .ok (.getfield 15, 3) := by decide +kernel
theorem dX3_append_32 : decode cX3_append 32 = .ok (.aload_n 0, 1) := by decide +kernel
theorem dX3_append_33 : decode cX3_append 33 = .ok (.getfield 18, 3) := by decide +kernel
theorem dX3_append_36 : decode cX3_append 36 = .ok (.iload_n 3, 1) := by decide +kernel
theorem dX3_append_37 : decode cX3_append 37 = .ok (.iastore, 1) := by decide +kernel
theorem dX3_append_38 : decode cX3_append 38 = .ok (.aload_n 0, 1) := by decide +kernel
theorem dX3_append_39 : decode cX3_append 39 = .ok (.dup, 1) := by decide +kernel
theorem dX3_append_40 : decode cX3_append 40 = .ok (.getfield 18, 3) := by decide +kernel
theorem dX3_append_43 : decode cX3_append 43 = .ok (.iconst 1, 1) := by decide +kernel
theorem dX3_append_44 : decode cX3_append 44 = .ok (.iadd, 1) := by decide +kernel
theorem dX3_append_45 : decode cX3_append 45 = .ok (.putfield 18, 3) := by decide +kernel
theorem dX3_append_48 : decode cX3_append 48 = .ok (.iinc 4 1, 3) := by decide +kernel
theorem dX3_append_51 : decode cX3_append 51 = .ok (.goto (-48), 3) := by decide +kernel
theorem dX3_append_54 : decode cX3_append 54 = .ok (.return_, 1) := by decide +kernel
set_option maxRecDepth 20000 in
theorem ggX3_copyFrom_X3_takeStations : GoodIn wsX3_copyFrom wsX3_takeStations := goodIn_r _ [7, 8, 9, 10, 11, 12, 13, 14, 15] (by decide +kernel) (by decide +kernel)
set_option maxRecDepth 20000 in
theorem gX3_copyFrom_X3_takeStations : GoodIn wsX3_copyFrom (wsV RX3 32 RX3 yX3_takeStations wsX3_takeStations) := goodIn_app (goodIn_of _ (by decide +kernel)) ggX3_copyFrom_X3_takeStations
theorem dX3_copyFrom_0 : decode cX3_copyFrom 0 = .ok (.aload_n 0, 1) := by decide +kernel
theorem dX3_copyFrom_1 : decode cX3_copyFrom 1 = .ok (.aload_n 1, 1) := by decide +kernel
theorem dX3_copyFrom_2 : decode cX3_copyFrom 2 = .ok (.invokevirtual 32, 3) := by decide +kernel
theorem dX3_copyFrom_5 : decode cX3_copyFrom 5 = .ok (.aload_n 0, 1) := by decide +kernel
theorem dX3_copyFrom_6 : decode cX3_copyFrom 6 = .ok (.aload_n 1, 1) := by decide +kernel
theorem dX3_copyFrom_7 : decode cX3_copyFrom 7 = .ok (.getfield 22, 3) := by decide +kernel
theorem dX3_copyFrom_10 : decode cX3_copyFrom 10 = .ok (.putfield 22, 3) := by decide +kernel
theorem dX3_copyFrom_13 : decode cX3_copyFrom 13 = .ok (.aload_n 0, 1) := by decide +kernel
theorem dX3_copyFrom_14 : decode cX3_copyFrom 14 = .ok (.aload_n 1, 1) := by decide +kernel
theorem dX3_copyFrom_15 : decode cX3_copyFrom 15 = .ok (.getfield 25, 3) := by decide +kernel
theorem dX3_copyFrom_18 : decode cX3_copyFrom 18 = .ok (.putfield 25, 3) := by decide +kernel
theorem dX3_copyFrom_21 : decode cX3_copyFrom 21 = .ok (.return_, 1) := by decide +kernel
theorem dX3_takeStations_0 : decode cX3_takeStations 0 = .ok (.aload_n 0, 1) := by decide +kernel
theorem dX3_takeStations_1 : decode cX3_takeStations 1 = .ok (.aload_n 1, 1) := by decide +kernel
theorem dX3_takeStations_2 : decode cX3_takeStations 2 = .ok (.getfield 18, 3) := by decide +kernel
theorem dX3_takeStations_5 : decode cX3_takeStations 5 = .ok (.putfield 18, 3) := by decide +kernel
theorem dX3_takeStations_8 : decode cX3_takeStations 8 = .ok (.iconst 0, 1) := by decide +kernel
theorem dX3_takeStations_9 : decode cX3_takeStations 9 = .ok (.istore_n 2, 1) := by decide +kernel
theorem dX3_takeStations_10 : decode cX3_takeStations 10 = .ok (.iload_n 2, 1) := by decide +kernel
theorem dX3_takeStations_11 : decode cX3_takeStations 11 = .ok (.aload_n 0, 1) := by decide +kernel
theorem dX3_takeStations_12 : decode cX3_takeStations 12 = .ok (.getfield 18, 3) := by decide +kernel
theorem dX3_takeStations_15 : decode cX3_takeStations 15 = .ok (.if_icmp .ge 33, 3) := by decide +kernel
theorem dX3_takeStations_18 : decode cX3_takeStations 18 = .ok (.aload_n 0, 1) := by decide +kernel
theorem dX3_takeStations_19 : decode cX3_takeStations 19 = .ok (.getfield 9, 3) := by decide +kernel
theorem dX3_takeStations_22 : decode cX3_takeStations 22 = .ok (.iload_n 2, 1) := by decide +kernel
theorem dX3_takeStations_23 : decode cX3_takeStations 23 = .ok (.aload_n 1, 1) := by decide +kernel
theorem dX3_takeStations_24 : decode cX3_takeStations 24 = .ok (.getfield 9, 3) := by decide +kernel
theorem dX3_takeStations_27 : decode cX3_takeStations 27 = .ok (.iload_n 2, 1) := by decide +kernel
theorem dX3_takeStations_28 : decode cX3_takeStations 28 = .ok (.iaload, 1) := by decide +kernel
theorem dX3_takeStations_29 : decode cX3_takeStations 29 = .ok (.iastore, 1) := by decide +kernel
theorem dX3_takeStations_30 : decode cX3_takeStations 30 = .ok (.aload_n 0, 1) := by decide +kernel
theorem dX3_takeStations_31 : decode cX3_takeStations 31 = .ok (.getfield 15, 3) := by decide +kernel
theorem dX3_takeStations_34 : decode cX3_takeStations 34 = .ok (.iload_n 2, 1) := by decide +kernel
theorem dX3_takeStations_35 : decode cX3_takeStations 35 = .ok (.aload_n 1, 1) := by decide +kernel
theorem dX3_takeStations_36 : decode cX3_takeStations 36 = .ok (.getfield 15, 3) := by decide +kernel
theorem dX3_takeStations_39 : decode cX3_takeStations 39 = .ok (.iload_n 2, 1) := by decide +kernel
theorem dX3_takeStations_40 : decode cX3_takeStations 40 = .ok (.iaload, 1) := by decide +kernel
theorem dX3_takeStations_41 : decode cX3_takeStations 41 = .ok (.iastore, 1) := by decide +kernel
theorem dX3_takeStations_42 : decode cX3_takeStations 42 = .ok (.iinc 2 1, 3) := by decide +kernel
theorem dX3_takeStations_45 : decode cX3_takeStations 45 = .ok (.goto (-35), 3) := by decide +kernel
theorem dX3_takeStations_48 : decode cX3_takeStations 48 = .ok (.return_, 1) := by decide +kernel
theorem dX3_takeReversed_0 : decode cX3_takeReversed 0 = .ok (.iconst 0, 1) := by decide +kernel
theorem dX3_takeReversed_1 : decode cX3_takeReversed 1 = .ok (.istore_n 2, 1) := by decide +kernel
theorem dX3_takeReversed_2 : decode cX3_takeReversed 2 = .ok (.iconst 0, 1) := by decide +kernel
theorem dX3_takeReversed_3 : decode cX3_takeReversed 3 = .ok (.istore_n 3, 1) := by decide +kernel
theorem dX3_takeReversed_4 : decode cX3_takeReversed 4 = .ok (.iload_n 3, 1) := by decide +kernel
theorem dX3_takeReversed_5 : decode cX3_takeReversed 5 = .ok (.aload_n 0, 1) := by decide +kernel
theorem dX3_takeReversed_6 : decode cX3_takeReversed 6 = .ok (.getfield 18, 3) := by decide +kernel
theorem dX3_takeReversed_9 : decode cX3_takeReversed 9 = .ok (.if_icmp .ge 80, 3) := by decide +kernel
theorem dX3_takeReversed_12 : decode cX3_takeReversed 12 = .ok (.aload_n 0, 1) := by decide +kernel
theorem dX3_takeReversed_13 : decode cX3_takeReversed 13 = .ok (.getfield 18, 3) := by decide +kernel
theorem dX3_takeReversed_16 : decode cX3_takeReversed 16 = .ok (.iconst 1, 1) := by decide +kernel
theorem dX3_takeReversed_17 : decode cX3_takeReversed 17 = .ok (.isub, 1) := by decide +kernel
theorem dX3_takeReversed_18 : decode cX3_takeReversed 18 = .ok (.iload_n 3, 1) := by decide +kernel
theorem dX3_takeReversed_19 : decode cX3_takeReversed 19 = .ok (.isub, 1) := by decide +kernel
theorem dX3_takeReversed_20 : decode cX3_takeReversed 20 = .ok (.istore 4, 2) := by decide +kernel
theorem dX3_takeReversed_22 : decode cX3_takeReversed 22 = .ok (.aload_n 0, 1) := by decide +kernel
theorem dX3_takeReversed_23 : decode cX3_takeReversed 23 = .ok (.getfield 9, 3) := by decide +kernel
theorem dX3_takeReversed_26 : decode cX3_takeReversed 26 = .ok (.iload_n 3, 1) := by decide +kernel
theorem dX3_takeReversed_27 : decode cX3_takeReversed 27 = .ok (.iaload, 1) := by decide +kernel
theorem dX3_takeReversed_28 : decode cX3_takeReversed 28 = .ok (.aload_n 1, 1) := by decide +kernel
theorem dX3_takeReversed_29 : decode cX3_takeReversed 29 = .ok (.getfield 9, 3) := by decide +kernel
theorem dX3_takeReversed_32 : decode cX3_takeReversed 32 = .ok (.iload 4, 2) := by decide +kernel
theorem dX3_takeReversed_34 : decode cX3_takeReversed 34 = .ok (.iaload, 1) := by decide +kernel
theorem dX3_takeReversed_35 : decode cX3_takeReversed 35 = .ok (.if_icmp .ne 19, 3) := by decide +kernel
theorem dX3_takeReversed_38 : decode cX3_takeReversed 38 = .ok (.aload_n 0, 1) := by decide +kernel
theorem dX3_takeReversed_39 : decode cX3_takeReversed 39 = .ok (.getfield 15, 3) := by decide +kernel
theorem dX3_takeReversed_42 : decode cX3_takeReversed 42 = .ok (.iload_n 3, 1) := by decide +kernel
theorem dX3_takeReversed_43 : decode cX3_takeReversed 43 = .ok (.iaload, 1) := by decide +kernel
theorem dX3_takeReversed_44 : decode cX3_takeReversed 44 = .ok (.aload_n 1, 1) := by decide +kernel
theorem dX3_takeReversed_45 : decode cX3_takeReversed 45 = .ok (.getfield 15, 3) := by decide +kernel
theorem dX3_takeReversed_48 : decode cX3_takeReversed 48 = .ok (.iload 4, 2) := by decide +kernel
theorem dX3_takeReversed_50 : decode cX3_takeReversed 50 = .ok (.iaload, 1) := by decide +kernel
theorem dX3_takeReversed_51 : decode cX3_takeReversed 51 = .ok (.if_icmp .eq 6, 3) := by decide +kernel
theorem dX3_takeReversed_54 : decode cX3_takeReversed 54 = .ok (.iinc 2 1, 3) := by decide +kernel
theorem dX3_takeReversed_57 : decode cX3_takeReversed 57 = .ok (.aload_n 0, 1) := by decide +kernel
theorem dX3_takeReversed_58 : decode cX3_takeReversed 58 = .ok (.getfield 9, 3) := by decide +kernel
theorem dX3_takeReversed_61 : decode cX3_takeReversed 61 = .ok (.iload_n 3, 1) := by decide +kernel
theorem dX3_takeReversed_62 : decode cX3_takeReversed 62 = .ok (.aload_n 1, 1) := by decide +kernel
theorem dX3_takeReversed_63 : decode cX3_takeReversed 63 = .ok (.getfield 9, 3) := by decide +kernel
theorem dX3_takeReversed_66 : decode cX3_takeReversed 66 = .ok (.iload 4, 2) := by decide +kernel
theorem dX3_takeReversed_68 : decode cX3_takeReversed 68 = .ok (.iaload, 1) := by decide +kernel
theorem dX3_takeReversed_69 : decode cX3_takeReversed 69 = .ok (.iastore, 1) := by decide +kernel
theorem dX3_takeReversed_70 : decode cX3_takeReversed 70 = .ok (.aload_n 0, 1) := by decide +kernel
theorem dX3_takeReversed_71 : decode cX3_takeReversed 71 = .ok (.getfield 15, 3) := by decide +kernel
theorem dX3_takeReversed_74 : decode cX3_takeReversed 74 = .ok (.iload_n 3, 1) := by decide +kernel
theorem dX3_takeReversed_75 : decode cX3_takeReversed 75 = .ok (.aload_n 1, 1) := by decide +kernel
theorem dX3_takeReversed_76 : decode cX3_takeReversed 76 = .ok (.getfield 15, 3) := by decide +kernel
theorem dX3_takeReversed_79 : decode cX3_takeReversed 79 = .ok (.iload 4, 2) := by decide +kernel
theorem dX3_takeReversed_81 : decode cX3_takeReversed 81 = .ok (.iaload, 1) := by decide +kernel
theorem dX3_takeReversed_82 : decode cX3_takeReversed 82 = .ok (.iastore, 1) := by decide +kernel
theorem dX3_takeReversed_83 : decode cX3_takeReversed 83 = .ok (.iinc 3 1, 3) := by decide +kernel
theorem dX3_takeReversed_86 : decode cX3_takeReversed 86 = .ok (.goto (-82), 3) := by decide +kernel
theorem dX3_takeReversed_89 : decode cX3_takeReversed 89 = .ok (.iload_n 2, 1) := by decide +kernel
theorem dX3_takeReversed_90 : decode cX3_takeReversed 90 = .ok (.ireturn, 1) := by decide +kernel
set_option maxRecDepth 20000 in
theorem ggX3_even_X3_has : GoodIn wsX3_even wsX3_has := goodIn_r _ [6, 7, 8, 9, 10, 11, 12] (by decide +kernel) (by decide +kernel)
set_option maxRecDepth 20000 in
theorem gX3_even_X3_has : GoodIn wsX3_even (wsV RX3 28 RX3 yX3_has wsX3_has) := goodIn_app (goodIn_of _ (by decide +kernel)) ggX3_even_X3_has
theorem dX3_even_0 : decode cX3_even 0 = .ok (.aload_n 0, 1) := by decide +kernel
theorem dX3_even_1 : decode cX3_even 1 = .ok (.iload_n 1, 1) := by decide +kernel
theorem dX3_even_2 : decode cX3_even 2 = .ok (.invokevirtual 28, 3) := by decide +kernel
theorem dX3_even_5 : decode cX3_even 5 = .ok (.ifCond .eq 16, 3) := by decide +kernel
theorem dX3_even_8 : decode cX3_even 8 = .ok (.aload_n 0, 1) := by decide +kernel
theorem dX3_even_9 : decode cX3_even 9 = .ok (.iload_n 2, 1) := by decide +kernel
theorem dX3_even_10 : decode cX3_even 10 = .ok (.invokevirtual 28, 3) := by decide +kernel
theorem dX3_even_13 : decode cX3_even 13 = .ok (.ifCond .eq 8, 3) := by decide +kernel
theorem dX3_even_16 : decode cX3_even 16 = .ok (.iload_n 1, 1) := by decide +kernel
theorem dX3_even_17 : decode cX3_even 17 = .ok (.iload_n 2, 1) := by decide +kernel
theorem dX3_even_18 : decode cX3_even 18 = .ok (.if_icmp .lt 5, 3) := by decide +kernel
theorem dX3_even_21 : decode cX3_even 21 = .ok (.iconst 0, 1) := by decide +kernel
theorem dX3_even_22 : decode cX3_even 22 = .ok (.ireturn, 1) := by decide +kernel
theorem dX3_even_23 : decode cX3_even 23 = .ok (.iconst 0, 1) := by decide +kernel
theorem dX3_even_24 : decode cX3_even 24 = .ok (.istore_n 3, 1) := by decide +kernel
theorem dX3_even_25 : decode cX3_even 25 = .ok (.aload_n 0, 1) := by decide +kernel
theorem dX3_even_26 : decode cX3_even 26 = .ok (.getfield 9, 3) := by decide +kernel
theorem dX3_even_29 : decode cX3_even 29 = .ok (.iload_n 2, 1) := by decide +kernel
theorem dX3_even_30 : decode cX3_even 30 = .ok (.iaload, 1) := by decide +kernel
theorem dX3_even_31 : decode cX3_even 31 = .ok (.aload_n 0, 1) := by decide +kernel
theorem dX3_even_32 : decode cX3_even 32 = .ok (.getfield 9, 3) := by decide +kernel
theorem dX3_even_35 : decode cX3_even 35 = .ok (.iload_n 1, 1) := by decide +kernel
theorem dX3_even_36 : decode cX3_even 36 = .ok (.iaload, 1) := by decide +kernel
theorem dX3_even_37 : decode cX3_even 37 = .ok (.isub, 1) := by decide +kernel
theorem dX3_even_38 : decode cX3_even 38 = .ok (.istore 4, 2) := by decide +kernel
theorem dX3_even_40 : decode cX3_even 40 = .ok (.iload_n 1, 1) := by decide +kernel
theorem dX3_even_41 : decode cX3_even 41 = .ok (.iconst 1, 1) := by decide +kernel
theorem dX3_even_42 : decode cX3_even 42 = .ok (.iadd, 1) := by decide +kernel
theorem dX3_even_43 : decode cX3_even 43 = .ok (.istore 5, 2) := by decide +kernel
theorem dX3_even_45 : decode cX3_even 45 = .ok (.iload 5, 2) := by decide +kernel
theorem dX3_even_47 : decode cX3_even 47 = .ok (.iload_n 2, 1) := by decide +kernel
theorem dX3_even_48 : decode cX3_even 48 = .ok (.if_icmp .ge 53, 3) := by decide +kernel
theorem dX3_even_51 : decode cX3_even 51 = .ok (.aload_n 0, 1) := by decide +kernel
theorem dX3_even_52 : decode cX3_even 52 = .ok (.getfield 9, 3) := by decide +kernel
theorem dX3_even_55 : decode cX3_even 55 = .ok (.iload_n 1, 1) := by decide +kernel
theorem dX3_even_56 : decode cX3_even 56 = .ok (.iaload, 1) := by decide +kernel
theorem dX3_even_57 : decode cX3_even 57 = .ok (.iload 4, 2) := by decide +kernel
theorem dX3_even_59 : decode cX3_even 59 = .ok (.iload 5, 2) := by decide +kernel
theorem dX3_even_61 : decode cX3_even 61 = .ok (.iload_n 1, 1) := by decide +kernel
theorem dX3_even_62 : decode cX3_even 62 = .ok (.isub, 1) := by decide +kernel
theorem dX3_even_63 : decode cX3_even 63 = .ok (.imul, 1) := by decide +kernel
theorem dX3_even_64 : decode cX3_even 64 = .ok (.iload_n 2, 1) := by decide +kernel
theorem dX3_even_65 : decode cX3_even 65 = .ok (.iload_n 1, 1) := by decide +kernel
theorem dX3_even_66 : decode cX3_even 66 = .ok (.isub, 1) := by decide +kernel
theorem dX3_even_67 : decode cX3_even 67 = .ok (.idiv, 1) := by decide +kernel
theorem dX3_even_68 : decode cX3_even 68 = .ok (.iadd, 1) := by decide +kernel
theorem dX3_even_69 : decode cX3_even 69 = .ok (.istore 6, 2) := by decide +kernel
theorem dX3_even_71 : decode cX3_even 71 = .ok (.aload_n 0, 1) := by decide +kernel
theorem dX3_even_72 : decode cX3_even 72 = .ok (.getfield 9, 3) := by decide +kernel
theorem dX3_even_75 : decode cX3_even 75 = .ok (.iload 5, 2) := by decide +kernel
theorem dX3_even_77 : decode cX3_even 77 = .ok (.iaload, 1) := by decide +kernel
theorem dX3_even_78 : decode cX3_even 78 = .ok (.iload 6, 2) := by decide +kernel
theorem dX3_even_80 : decode cX3_even 80 = .ok (.if_icmp .eq 6, 3) := by decide +kernel
theorem dX3_even_83 : decode cX3_even 83 = .ok (.iinc 3 1, 3) := by decide +kernel
theorem dX3_even_86 : decode cX3_even 86 = .ok (.aload_n 0, 1) := by decide +kernel
theorem dX3_even_87 : decode cX3_even 87 = .ok (.getfield 9, 3) := by decide +kernel
theorem dX3_even_90 : decode cX3_even 90 = .ok (.iload 5, 2) := by decide +kernel
theorem dX3_even_92 : decode cX3_even 92 = .ok (.iload 6, 2) := by decide +kernel
theorem dX3_even_94 : decode cX3_even 94 = .ok (.iastore, 1) := by decide +kernel
theorem dX3_even_95 : decode cX3_even 95 = .ok (.iinc 5 1, 3) := by decide +kernel
theorem dX3_even_98 : decode cX3_even 98 = .ok (.goto (-53), 3) := by decide +kernel
theorem dX3_even_101 : decode cX3_even 101 = .ok (.iload_n 3, 1) := by decide +kernel
theorem dX3_even_102 : decode cX3_even 102 = .ok (.ireturn, 1) := by decide +kernel
set_option maxRecDepth 20000 in
theorem ggX3_clearance_X3_has : GoodIn wsX3_clearance wsX3_has := goodIn_r _ [11, 12, 13, 14, 15, 16, 17] (by decide +kernel) (by decide +kernel)
set_option maxRecDepth 20000 in
theorem gX3_clearance_X3_has : GoodIn wsX3_clearance (wsV RX3 28 RX3 yX3_has wsX3_has) := goodIn_app (goodIn_of _ (by decide +kernel)) ggX3_clearance_X3_has
theorem dX3_clearance_0 : decode cX3_clearance 0 = .ok (.aload_n 0, 1) := by decide +kernel
theorem dX3_clearance_1 : decode cX3_clearance 1 = .ok (.iload 5, 2) := by decide +kernel
theorem dX3_clearance_3 : decode cX3_clearance 3 = .ok (.invokevirtual 28, 3) := by decide +kernel
theorem dX3_clearance_6 : decode cX3_clearance 6 = .ok (.ifCond .ne 5, 3) := by decide +kernel
theorem dX3_clearance_9 : decode cX3_clearance 9 = .ok (.iconst 0, 1) := by decide +kernel
theorem dX3_clearance_10 : decode cX3_clearance 10 = .ok (.ireturn, 1) := by decide +kernel
theorem dX3_clearance_11 : decode cX3_clearance 11 = .ok (.iload 5, 2) := by decide +kernel
theorem dX3_clearance_13 : decode cX3_clearance 13 = .ok (.iload_n 1, 1) := by decide +kernel
theorem dX3_clearance_14 : decode cX3_clearance 14 = .ok (.isub, 1) := by decide +kernel
theorem dX3_clearance_15 : decode cX3_clearance 15 = .ok (.invokestatic 36, 3) := by decide +kernel
theorem dX3_clearance_18 : decode cX3_clearance 18 = .ok (.istore 6, 2) := by decide +kernel
theorem dX3_clearance_20 : decode cX3_clearance 20 = .ok (.iload_n 3, 1) := by decide +kernel
theorem dX3_clearance_21 : decode cX3_clearance 21 = .ok (.iload 5, 2) := by decide +kernel
theorem dX3_clearance_23 : decode cX3_clearance 23 = .ok (.isub, 1) := by decide +kernel
theorem dX3_clearance_24 : decode cX3_clearance 24 = .ok (.invokestatic 36, 3) := by decide +kernel
theorem dX3_clearance_27 : decode cX3_clearance 27 = .ok (.istore 7, 2) := by decide +kernel
theorem dX3_clearance_29 : decode cX3_clearance 29 = .ok (.iload_n 2, 1) := by decide +kernel
theorem dX3_clearance_30 : decode cX3_clearance 30 = .ok (.iload 7, 2) := by decide +kernel
theorem dX3_clearance_32 : decode cX3_clearance 32 = .ok (.imul, 1) := by decide +kernel
theorem dX3_clearance_33 : decode cX3_clearance 33 = .ok (.iload 4, 2) := by decide +kernel
theorem dX3_clearance_35 : decode cX3_clearance 35 = .ok (.iload 6, 2) := by decide +kernel
theorem dX3_clearance_37 : decode cX3_clearance 37 = .ok (.imul, 1) := by decide +kernel
theorem dX3_clearance_38 : decode cX3_clearance 38 = .ok (.iadd, 1) := by decide +kernel
theorem dX3_clearance_39 : decode cX3_clearance 39 = .ok (.iload 6, 2) := by decide +kernel
theorem dX3_clearance_41 : decode cX3_clearance 41 = .ok (.iload 7, 2) := by decide +kernel
theorem dX3_clearance_43 : decode cX3_clearance 43 = .ok (.iadd, 1) := by decide +kernel
theorem dX3_clearance_44 : decode cX3_clearance 44 = .ok (.aload_n 0, 1) := by decide +kernel
theorem dX3_clearance_45 : decode cX3_clearance 45 = .ok (.getfield 9, 3) := by decide +kernel
theorem dX3_clearance_48 : decode cX3_clearance 48 = .ok (.iload 5, 2) := by decide +kernel
theorem dX3_clearance_50 : decode cX3_clearance 50 = .ok (.iaload, 1) := by decide +kernel
theorem dX3_clearance_51 : decode cX3_clearance 51 = .ok (.aload_n 0, 1) := by decide +kernel
theorem dX3_clearance_52 : decode cX3_clearance 52 = .ok (.getfield 25, 3) := by decide +kernel
theorem dX3_clearance_55 : decode cX3_clearance 55 = .ok (.iload 6, 2) := by decide +kernel
theorem dX3_clearance_57 : decode cX3_clearance 57 = .ok (.imul, 1) := by decide +kernel
theorem dX3_clearance_58 : decode cX3_clearance 58 = .ok (.iload 7, 2) := by decide +kernel
theorem dX3_clearance_60 : decode cX3_clearance 60 = .ok (.imul, 1) := by decide +kernel
theorem dX3_clearance_61 : decode cX3_clearance 61 = .ok (.iadd, 1) := by decide +kernel
theorem dX3_clearance_62 : decode cX3_clearance 62 = .ok (.imul, 1) := by decide +kernel
theorem dX3_clearance_63 : decode cX3_clearance 63 = .ok (.isub, 1) := by decide +kernel
theorem dX3_clearance_64 : decode cX3_clearance 64 = .ok (.ireturn, 1) := by decide +kernel
set_option maxRecDepth 20000 in
theorem ggX3_pointsSee_X3_clearance : GoodIn wsX3_pointsSee wsX3_clearance := goodIn_r _ [12, 13, 14, 3, 15, 16, 17, 18, 19, 20, 11, 21, 22, 23, 24, 25, 26, 27] (by decide +kernel) (by decide +kernel)
set_option maxRecDepth 20000 in
theorem gX3_pointsSee_X3_clearance : GoodIn wsX3_pointsSee (wsV RX3 49 RX3 yX3_clearance wsX3_clearance) := goodIn_app (goodIn_of _ (by decide +kernel)) ggX3_pointsSee_X3_clearance
theorem dX3_pointsSee_0 : decode cX3_pointsSee 0 = .ok (.iload_n 1, 1) := by decide +kernel
theorem dX3_pointsSee_1 : decode cX3_pointsSee 1 = .ok (.iload_n 3, 1) := by decide +kernel
theorem dX3_pointsSee_2 : decode cX3_pointsSee 2 = .ok (.invokestatic 42, 3) := by decide +kernel
theorem dX3_pointsSee_5 : decode cX3_pointsSee 5 = .ok (.istore 5, 2) := by decide +kernel
theorem dX3_pointsSee_7 : decode cX3_pointsSee 7 = .ok (.iload_n 1, 1) := by decide +kernel
theorem dX3_pointsSee_8 : decode cX3_pointsSee 8 = .ok (.iload_n 3, 1) := by decide +kernel
theorem dX3_pointsSee_9 : decode cX3_pointsSee 9 = .ok (.invokestatic 46, 3) := by decide +kernel
theorem dX3_pointsSee_12 : decode cX3_pointsSee 12 = .ok (.iconst 1, 1) := by decide +kernel
theorem dX3_pointsSee_13 : decode cX3_pointsSee 13 = .ok (.iadd, 1) := by decide +kernel
theorem dX3_pointsSee_14 : decode cX3_pointsSee 14 = .ok (.istore 6, 2) := by decide +kernel
theorem dX3_pointsSee_16 : decode cX3_pointsSee 16 = .ok (.iload 6, 2) := by decide +kernel
theorem dX3_pointsSee_18 : decode cX3_pointsSee 18 = .ok (.iload 5, 2) := by decide +kernel
theorem dX3_pointsSee_20 : decode cX3_pointsSee 20 = .ok (.if_icmp .ge 25, 3) := by decide +kernel
theorem dX3_pointsSee_23 : decode cX3_pointsSee 23 = .ok (.aload_n 0, 1) := by decide +kernel
theorem dX3_pointsSee_24 : decode cX3_pointsSee 24 = .ok (.iload_n 1, 1) := by decide +kernel
theorem dX3_pointsSee_25 : decode cX3_pointsSee 25 = .ok (.iload_n 2, 1) := by decide +kernel
theorem dX3_pointsSee_26 : decode cX3_pointsSee 26 = .ok (.iload_n 3, 1) := by decide +kernel
theorem dX3_pointsSee_27 : decode cX3_pointsSee 27 = .ok (.iload 4, 2) := by decide +kernel
theorem dX3_pointsSee_29 : decode cX3_pointsSee 29 = .ok (.iload 6, 2) := by decide +kernel
theorem dX3_pointsSee_31 : decode cX3_pointsSee 31 = .ok (.invokevirtual 49, 3) := by decide +kernel
theorem dX3_pointsSee_34 : decode cX3_pointsSee 34 = .ok (.ifCond .ge 5, 3) := by decide +kernel
theorem dX3_pointsSee_37 : decode cX3_pointsSee 37 = .ok (.iconst 0, 1) := by decide +kernel
theorem dX3_pointsSee_38 : decode cX3_pointsSee 38 = .ok (.ireturn, 1) := by decide +kernel
theorem dX3_pointsSee_39 : decode cX3_pointsSee 39 = .ok (.iinc 6 1, 3) := by decide +kernel
theorem dX3_pointsSee_42 : decode cX3_pointsSee 42 = .ok (.goto (-26), 3) := by decide +kernel
theorem dX3_pointsSee_45 : decode cX3_pointsSee 45 = .ok (.iconst 1, 1) := by decide +kernel
theorem dX3_pointsSee_46 : decode cX3_pointsSee 46 = .ok (.ireturn, 1) := by decide +kernel
set_option maxRecDepth 20000 in
theorem ggX3_topsSee_X3_topOf : GoodIn wsX3_topsSee wsX3_topOf := goodIn_r _ [5, 6, 7, 8, 9, 10, 4, 11, 12, 32, 33, 34, 35, 36] (by decide +kernel) (by decide +kernel)
set_option maxRecDepth 20000 in
theorem gX3_topsSee_X3_topOf : GoodIn wsX3_topsSee (wsV RX3 53 RX3 yX3_topOf wsX3_topOf) := goodIn_app (goodIn_of _ (by decide +kernel)) ggX3_topsSee_X3_topOf
set_option maxRecDepth 20000 in
theorem ggX3_topsSee_X3_pointsSee : GoodIn wsX3_topsSee wsX3_pointsSee := goodIn_r _ [16, 17, 18, 19, 20, 21, 22, 23, 24, 25, 26, 4, 27, 28, 29, 30, 6, 31, 8, 9, 10, 11, 12, 32, 33, 34, 35, 36] (by decide +kernel) (by decide +kernel)
set_option maxRecDepth 20000 in
theorem gX3_topsSee_X3_pointsSee : GoodIn wsX3_topsSee (wsV RX3 56 RX3 yX3_pointsSee wsX3_pointsSee) := goodIn_app (goodIn_of _ (by decide +kernel)) ggX3_topsSee_X3_pointsSee
theorem dX3_topsSee_0 : decode cX3_topsSee 0 = .ok (.aload_n 0, 1) := by decide +kernel
theorem dX3_topsSee_1 : decode cX3_topsSee 1 = .ok (.iload_n 1, 1) := by decide +kernel
theorem dX3_topsSee_2 : decode cX3_topsSee 2 = .ok (.aload_n 0, 1) := by decide +kernel
theorem dX3_topsSee_3 : decode cX3_topsSee 3 = .ok (.iload_n 1, 1) := by decide +kernel
theorem dX3_topsSee_4 : decode cX3_topsSee 4 = .ok (.invokevirtual 53, 3) := by decide +kernel
theorem dX3_topsSee_7 : decode cX3_topsSee 7 = .ok (.iload_n 2, 1) := by decide +kernel
theorem dX3_topsSee_8 : decode cX3_topsSee 8 = .ok (.aload_n 0, 1) := by decide +kernel
theorem dX3_topsSee_9 : decode cX3_topsSee 9 = .ok (.iload_n 2, 1) := by decide +kernel
theorem dX3_topsSee_10 : decode cX3_topsSee 10 = .ok (.invokevirtual 53, 3) := by decide +kernel
theorem dX3_topsSee_13 : decode cX3_topsSee 13 = .ok (.invokevirtual 56, 3) := by decide +kernel
theorem dX3_topsSee_16 : decode cX3_topsSee 16 = .ok (.ireturn, 1) := by decide +kernel
set_option maxRecDepth 20000 in
theorem ggX3_grownSee_X3_topOf : GoodIn wsX3_grownSee wsX3_topOf := goodIn_r _ [5, 6, 7, 8, 9, 10, 4, 11, 12, 32, 33, 34, 35, 36] (by decide +kernel) (by decide +kernel)
set_option maxRecDepth 20000 in
theorem gX3_grownSee_X3_topOf : GoodIn wsX3_grownSee (wsV RX3 53 RX3 yX3_topOf wsX3_topOf) := goodIn_app (goodIn_of _ (by decide +kernel)) ggX3_grownSee_X3_topOf
set_option maxRecDepth 20000 in
theorem ggX3_grownSee_X3_pointsSee : GoodIn wsX3_grownSee wsX3_pointsSee := goodIn_r _ [16, 17, 18, 19, 20, 21, 22, 23, 24, 25, 26, 4, 27, 28, 29, 30, 6, 31, 8, 9, 10, 11, 12, 32, 33, 34, 35, 36] (by decide +kernel) (by decide +kernel)
set_option maxRecDepth 20000 in
theorem gX3_grownSee_X3_pointsSee : GoodIn wsX3_grownSee (wsV RX3 56 RX3 yX3_pointsSee wsX3_pointsSee) := goodIn_app (goodIn_of _ (by decide +kernel)) ggX3_grownSee_X3_pointsSee
theorem dX3_grownSee_0 : decode cX3_grownSee 0 = .ok (.aload_n 0, 1) := by decide +kernel
theorem dX3_grownSee_1 : decode cX3_grownSee 1 = .ok (.iload_n 1, 1) := by decide +kernel
theorem dX3_grownSee_2 : decode cX3_grownSee 2 = .ok (.aload_n 0, 1) := by decide +kernel
theorem dX3_grownSee_3 : decode cX3_grownSee 3 = .ok (.iload_n 1, 1) := by decide +kernel
theorem dX3_grownSee_4 : decode cX3_grownSee 4 = .ok (.invokevirtual 53, 3) := by decide +kernel
theorem dX3_grownSee_7 : decode cX3_grownSee 7 = .ok (.iload_n 2, 1) := by decide +kernel
theorem dX3_grownSee_8 : decode cX3_grownSee 8 = .ok (.iadd, 1) := by decide +kernel
theorem dX3_grownSee_9 : decode cX3_grownSee 9 = .ok (.iload_n 3, 1) := by decide +kernel
theorem dX3_grownSee_10 : decode cX3_grownSee 10 = .ok (.aload_n 0, 1) := by decide +kernel
theorem dX3_grownSee_11 : decode cX3_grownSee 11 = .ok (.iload_n 3, 1) := by decide +kernel
theorem dX3_grownSee_12 : decode cX3_grownSee 12 = .ok (.invokevirtual 53, 3) := by decide +kernel
theorem dX3_grownSee_15 : decode cX3_grownSee 15 = .ok (.iload 4, 2) := by decide +kernel
theorem dX3_grownSee_17 : decode cX3_grownSee 17 = .ok (.iadd, 1) := by decide +kernel
theorem dX3_grownSee_18 : decode cX3_grownSee 18 = .ok (.invokevirtual 56, 3) := by decide +kernel
theorem dX3_grownSee_21 : decode cX3_grownSee 21 = .ok (.ireturn, 1) := by decide +kernel
set_option maxRecDepth 20000 in
theorem ggX3_inContact_X3_topOf : GoodIn wsX3_inContact wsX3_topOf := goodIn_r _ [10, 11, 12, 13, 14, 15, 9, 16, 17, 33, 34, 35, 36, 37] (by decide +kernel) (by decide +kernel)
set_option maxRecDepth 20000 in
theorem gX3_inContact_X3_topOf : GoodIn wsX3_inContact (wsV RX3 53 RX3 yX3_topOf wsX3_topOf) := goodIn_app (goodIn_of _ (by decide +kernel)) ggX3_inContact_X3_topOf
set_option maxRecDepth 20000 in
theorem ggX3_inContact_X3_pointsSee : GoodIn wsX3_inContact wsX3_pointsSee := goodIn_r _ [21, 22, 23, 3, 24, 25, 26, 27, 28, 29, 30, 9, 31, 1, 2, 4, 11, 32, 13, 14, 15, 16, 17, 33, 34, 35, 36, 37] (by decide +kernel) (by decide +kernel)
set_option maxRecDepth 20000 in
theorem gX3_inContact_X3_pointsSee : GoodIn wsX3_inContact (wsV RX3 56 RX3 yX3_pointsSee wsX3_pointsSee) := goodIn_app (goodIn_of _ (by decide +kernel)) ggX3_inContact_X3_pointsSee
theorem dX3_inContact_0 : decode cX3_inContact 0 = .ok (.iload_n 1, 1) := by decide +kernel
theorem dX3_inContact_1 : decode cX3_inContact 1 = .ok (.iload_n 2, 1) := by decide +kernel
theorem dX3_inContact_2 : decode cX3_inContact 2 = .ok (.if_icmp .eq 39, 3) := by decide +kernel
theorem dX3_inContact_5 : decode cX3_inContact 5 = .ok (.iload_n 1, 1) := by decide +kernel
theorem dX3_inContact_6 : decode cX3_inContact 6 = .ok (.iload_n 2, 1) := by decide +kernel
theorem dX3_inContact_7 : decode cX3_inContact 7 = .ok (.isub, 1) := by decide +kernel
theorem dX3_inContact_8 : decode cX3_inContact 8 = .ok (.invokestatic 36, 3) := by decide +kernel
theorem dX3_inContact_11 : decode cX3_inContact 11 = .ok (.aload_n 0, 1) := by decide +kernel
theorem dX3_inContact_12 : decode cX3_inContact 12 = .ok (.getfield 22, 3) := by decide +kernel
theorem dX3_inContact_15 : decode cX3_inContact 15 = .ok (.if_icmp .gt 26, 3) := by decide +kernel
theorem dX3_inContact_18 : decode cX3_inContact 18 = .ok (.aload_n 0, 1) := by decide +kernel
theorem dX3_inContact_19 : decode cX3_inContact 19 = .ok (.iload_n 1, 1) := by decide +kernel
theorem dX3_inContact_20 : decode cX3_inContact 20 = .ok (.aload_n 0, 1) := by decide +kernel
theorem dX3_inContact_21 : decode cX3_inContact 21 = .ok (.iload_n 1, 1) := by decide +kernel
theorem dX3_inContact_22 : decode cX3_inContact 22 = .ok (.invokevirtual 53, 3) := by decide +kernel
theorem dX3_inContact_25 : decode cX3_inContact 25 = .ok (.iload_n 2, 1) := by decide +kernel
theorem dX3_inContact_26 : decode cX3_inContact 26 = .ok (.aload_n 0, 1) := by decide +kernel
theorem dX3_inContact_27 : decode cX3_inContact 27 = .ok (.iload_n 2, 1) := by decide +kernel
theorem dX3_inContact_28 : decode cX3_inContact 28 = .ok (.invokevirtual 53, 3) := by decide +kernel
theorem dX3_inContact_31 : decode cX3_inContact 31 = .ok (.invokevirtual 56, 3) := by decide +kernel
theorem dX3_inContact_34 : decode cX3_inContact 34 = .ok (.ifCond .eq 7, 3) := by decide +kernel
theorem dX3_inContact_37 : decode cX3_inContact 37 = .ok (.iconst 1, 1) := by decide +kernel
theorem dX3_inContact_38 : decode cX3_inContact 38 = .ok (.goto 4, 3) := by decide +kernel
theorem dX3_inContact_41 : decode cX3_inContact 41 = .ok (.iconst 0, 1) := by decide +kernel
theorem dX3_inContact_42 : decode cX3_inContact 42 = .ok (.ireturn, 1) := by decide +kernel
set_option maxRecDepth 20000 in
theorem ggX3_contacts_X3_inContact : GoodIn wsX3_contacts wsX3_inContact := goodIn_r _ [6, 7, 8, 9, 10, 11, 12, 13, 14, 5, 15, 16, 17, 18, 19, 20, 21, 1, 22, 23, 24, 25, 26, 27, 28, 29, 30, 31, 32, 33, 34, 35, 36, 37, 38, 39, 40, 41] (by decide +kernel) (by decide +kernel)
set_option maxRecDepth 20000 in
theorem gX3_contacts_X3_inContact : GoodIn wsX3_contacts (wsV RX3 60 RX3 yX3_inContact wsX3_inContact) := goodIn_app (goodIn_of _ (by decide +kernel)) ggX3_contacts_X3_inContact
theorem dX3_contacts_0 : decode cX3_contacts 0 = .ok (.iconst 0, 1) := by decide +kernel
theorem dX3_contacts_1 : decode cX3_contacts 1 = .ok (.istore_n 2, 1) := by decide +kernel
theorem dX3_contacts_2 : decode cX3_contacts 2 = .ok (.iconst 0, 1) := by decide +kernel
theorem dX3_contacts_3 : decode cX3_contacts 3 = .ok (.istore_n 3, 1) := by decide +kernel
theorem dX3_contacts_4 : decode cX3_contacts 4 = .ok (.iload_n 3, 1) := by decide +kernel
theorem dX3_contacts_5 : decode cX3_contacts 5 = .ok (.aload_n 0, 1) := by decide +kernel
theorem dX3_contacts_6 : decode cX3_contacts 6 = .ok (.getfield 18, 3) := by decide +kernel
theorem dX3_contacts_9 : decode cX3_contacts 9 = .ok (.if_icmp .ge 24, 3) := by decide +kernel
theorem dX3_contacts_12 : decode cX3_contacts 12 = .ok (.aload_n 0, 1) := by decide +kernel
theorem dX3_contacts_13 : decode cX3_contacts 13 = .ok (.iload_n 1, 1) := by decide +kernel
theorem dX3_contacts_14 : decode cX3_contacts 14 = .ok (.iload_n 3, 1) := by decide +kernel
theorem dX3_contacts_15 : decode cX3_contacts 15 = .ok (.invokevirtual 60, 3) := by decide +kernel
theorem dX3_contacts_18 : decode cX3_contacts 18 = .ok (.ifCond .eq 9, 3) := by decide +kernel
theorem dX3_contacts_21 : decode cX3_contacts 21 = .ok (.iload_n 2, 1) := by decide +kernel
theorem dX3_contacts_22 : decode cX3_contacts 22 = .ok (.iconst 1, 1) := by decide +kernel
theorem dX3_contacts_23 : decode cX3_contacts 23 = .ok (.iload_n 3, 1) := by decide +kernel
theorem dX3_contacts_24 : decode cX3_contacts 24 = .ok (.ishl, 1) := by decide +kernel
theorem dX3_contacts_25 : decode cX3_contacts 25 = .ok (.ior, 1) := by decide +kernel
theorem dX3_contacts_26 : decode cX3_contacts 26 = .ok (.istore_n 2, 1) := by decide +kernel
theorem dX3_contacts_27 : decode cX3_contacts 27 = .ok (.iinc 3 1, 3) := by decide +kernel
theorem dX3_contacts_30 : decode cX3_contacts 30 = .ok (.goto (-26), 3) := by decide +kernel
theorem dX3_contacts_33 : decode cX3_contacts 33 = .ok (.iload_n 2, 1) := by decide +kernel
theorem dX3_contacts_34 : decode cX3_contacts 34 = .ok (.ireturn, 1) := by decide +kernel
set_option maxRecDepth 20000 in
theorem ggX3_groundsSeen_X3_pointsSee : GoodIn wsX3_groundsSeen wsX3_pointsSee := goodIn_r _ [7, 8, 9, 10, 11, 12, 13, 14, 15, 16, 17, 6, 18, 19, 20, 21, 2, 22, 23, 24, 25, 26, 1, 27, 28, 29, 30, 31] (by decide +kernel) (by decide +kernel)
set_option maxRecDepth 20000 in
theorem gX3_groundsSeen_X3_pointsSee : GoodIn wsX3_groundsSeen (wsV RX3 56 RX3 yX3_pointsSee wsX3_pointsSee) := goodIn_app (goodIn_of _ (by decide +kernel)) ggX3_groundsSeen_X3_pointsSee
theorem dX3_groundsSeen_0 : decode cX3_groundsSeen 0 = .ok (.iconst 0, 1) := by decide +kernel
theorem dX3_groundsSeen_1 : decode cX3_groundsSeen 1 = .ok (.istore_n 3, 1) := by decide +kernel
theorem dX3_groundsSeen_2 : decode cX3_groundsSeen 2 = .ok (.iconst 0, 1) := by decide +kernel
theorem dX3_groundsSeen_3 : decode cX3_groundsSeen 3 = .ok (.istore 4, 2) := by decide +kernel
theorem dX3_groundsSeen_5 : decode cX3_groundsSeen 5 = .ok (.iload 4, 2) := by decide +kernel
theorem dX3_groundsSeen_7 : decode cX3_groundsSeen 7 = .ok (.aload_n 0, 1) := by decide +kernel
theorem dX3_groundsSeen_8 : decode cX3_groundsSeen 8 = .ok (.getfield 18, 3) := by decide +kernel
theorem dX3_groundsSeen_11 : decode cX3_groundsSeen 11 = .ok (.if_icmp .ge 34, 3) := by decide +kernel
theorem dX3_groundsSeen_14 : decode cX3_groundsSeen 14 = .ok (.aload_n 0, 1) := by decide +kernel
theorem dX3_groundsSeen_15 : decode cX3_groundsSeen 15 = .ok (.iload_n 1, 1) := by decide +kernel
theorem dX3_groundsSeen_16 : decode cX3_groundsSeen 16 = .ok (.iload_n 2, 1) := by decide +kernel
theorem dX3_groundsSeen_17 : decode cX3_groundsSeen 17 = .ok (.iload 4, 2) := by decide +kernel
theorem dX3_groundsSeen_19 : decode cX3_groundsSeen 19 = .ok (.aload_n 0, 1) := by decide +kernel
theorem dX3_groundsSeen_20 : decode cX3_groundsSeen 20 = .ok (.getfield 9, 3) := by decide +kernel
theorem dX3_groundsSeen_23 : decode cX3_groundsSeen 23 = .ok (.iload 4, 2) := by decide +kernel
theorem dX3_groundsSeen_25 : decode cX3_groundsSeen 25 = .ok (.iaload, 1) := by decide +kernel
theorem dX3_groundsSeen_26 : decode cX3_groundsSeen 26 = .ok (.invokevirtual 56, 3) := by decide +kernel
theorem dX3_groundsSeen_29 : decode cX3_groundsSeen 29 = .ok (.ifCond .eq 10, 3) := by decide +kernel
theorem dX3_groundsSeen_32 : decode cX3_groundsSeen 32 = .ok (.iload_n 3, 1) := by decide +kernel
theorem dX3_groundsSeen_33 : decode cX3_groundsSeen 33 = .ok (.iconst 1, 1) := by decide +kernel
theorem dX3_groundsSeen_34 : decode cX3_groundsSeen 34 = .ok (.iload 4, 2) := by decide +kernel
theorem dX3_groundsSeen_36 : decode cX3_groundsSeen 36 = .ok (.ishl, 1) := by decide +kernel
theorem dX3_groundsSeen_37 : decode cX3_groundsSeen 37 = .ok (.ior, 1) := by decide +kernel
theorem dX3_groundsSeen_38 : decode cX3_groundsSeen 38 = .ok (.istore_n 3, 1) := by decide +kernel
theorem dX3_groundsSeen_39 : decode cX3_groundsSeen 39 = .ok (.iinc 4 1, 3) := by decide +kernel
theorem dX3_groundsSeen_42 : decode cX3_groundsSeen 42 = .ok (.goto (-37), 3) := by decide +kernel
theorem dX3_groundsSeen_45 : decode cX3_groundsSeen 45 = .ok (.iload_n 3, 1) := by decide +kernel
theorem dX3_groundsSeen_46 : decode cX3_groundsSeen 46 = .ok (.ireturn, 1) := by decide +kernel
set_option maxRecDepth 20000 in
theorem ggX3_higherNeighbors_X3_has : GoodIn wsX3_higherNeighbors wsX3_has := goodIn_r _ [5, 6, 13, 14, 15, 16, 17] (by decide +kernel) (by decide +kernel)
set_option maxRecDepth 20000 in
theorem gX3_higherNeighbors_X3_has : GoodIn wsX3_higherNeighbors (wsV RX3 28 RX3 yX3_has wsX3_has) := goodIn_app (goodIn_of _ (by decide +kernel)) ggX3_higherNeighbors_X3_has
set_option maxRecDepth 20000 in
theorem ggX3_higherNeighbors_X3_topOf : GoodIn wsX3_higherNeighbors wsX3_topOf := goodIn_r _ [10, 11, 12, 1, 2, 3, 4, 5, 6, 13, 14, 15, 16, 17] (by decide +kernel) (by decide +kernel)
set_option maxRecDepth 20000 in
theorem gX3_higherNeighbors_X3_topOf : GoodIn wsX3_higherNeighbors (wsV RX3 53 RX3 yX3_topOf wsX3_topOf) := goodIn_app (goodIn_of _ (by decide +kernel)) ggX3_higherNeighbors_X3_topOf
theorem dX3_higherNeighbors_0 : decode cX3_higherNeighbors 0 = .ok (.iconst 0, 1) := by decide +kernel
theorem dX3_higherNeighbors_1 : decode cX3_higherNeighbors 1 = .ok (.istore_n 2, 1) := by decide +kernel
theorem dX3_higherNeighbors_2 : decode cX3_higherNeighbors 2 = .ok (.iload_n 1, 1) := by decide +kernel
theorem dX3_higherNeighbors_3 : decode cX3_higherNeighbors 3 = .ok (.iconst 1, 1) := by decide +kernel
theorem dX3_higherNeighbors_4 : decode cX3_higherNeighbors 4 = .ok (.isub, 1) := by decide +kernel
theorem dX3_higherNeighbors_5 : decode cX3_higherNeighbors 5 = .ok (.istore_n 3, 1) := by decide +kernel
theorem dX3_higherNeighbors_6 : decode cX3_higherNeighbors 6 = .ok (.iload_n 3, 1) := by decide +kernel
theorem dX3_higherNeighbors_7 : decode cX3_higherNeighbors 7 = .ok (.iload_n 1, 1) := by decide +kernel
theorem dX3_higherNeighbors_8 : decode cX3_higherNeighbors 8 = .ok (.iconst 1, 1) := by decide +kernel
theorem dX3_higherNeighbors_9 : decode cX3_higherNeighbors 9 = .ok (.iadd, 1) := by decide +kernel
theorem dX3_higherNeighbors_10 : decode cX3_higherNeighbors 10 = .ok (.if_icmp .gt 33, 3) := by decide +kernel
theorem dX3_higherNeighbors_13 : decode cX3_higherNeighbors 13 = .ok (.aload_n 0, 1) := by decide +kernel
theorem dX3_higherNeighbors_14 : decode cX3_higherNeighbors 14 = .ok (.iload_n 3, 1) := by decide +kernel
theorem dX3_higherNeighbors_15 : decode cX3_higherNeighbors 15 = .ok (.invokevirtual 28, 3) := by decide +kernel
theorem dX3_higherNeighbors_18 : decode cX3_higherNeighbors 18 = .ok (.ifCond .eq 19, 3) := by decide +kernel
theorem dX3_higherNeighbors_21 : decode cX3_higherNeighbors 21 = .ok (.aload_n 0, 1) := by decide +kernel
theorem dX3_higherNeighbors_22 : decode cX3_higherNeighbors 22 = .ok (.iload_n 3, 1) := by decide +kernel
theorem dX3_higherNeighbors_23 : decode cX3_higherNeighbors 23 = .ok (.invokevirtual 53, 3) := by decide +kernel
theorem dX3_higherNeighbors_26 : decode cX3_higherNeighbors 26 = .ok (.aload_n 0, 1) := by decide +kernel
theorem dX3_higherNeighbors_27 : decode cX3_higherNeighbors 27 = .ok (.iload_n 1, 1) := by decide +kernel
theorem dX3_higherNeighbors_28 : decode cX3_higherNeighbors 28 = .ok (.invokevirtual 53, 3) := by decide +kernel
theorem dX3_higherNeighbors_31 : decode cX3_higherNeighbors 31 = .ok (.if_icmp .le 6, 3) := by decide +kernel
theorem dX3_higherNeighbors_34 : decode cX3_higherNeighbors 34 = .ok (.iinc 2 1, 3) := by decide +kernel
theorem dX3_higherNeighbors_37 : decode cX3_higherNeighbors 37 = .ok (.iinc 3 1, 3) := by decide +kernel
theorem dX3_higherNeighbors_40 : decode cX3_higherNeighbors 40 = .ok (.goto (-34), 3) := by decide +kernel
theorem dX3_higherNeighbors_43 : decode cX3_higherNeighbors 43 = .ok (.iload_n 2, 1) := by decide +kernel
theorem dX3_higherNeighbors_44 : decode cX3_higherNeighbors 44 = .ok (.ireturn, 1) := by decide +kernel
set_option maxRecDepth 20000 in
theorem ggX3_mostInTheWay_X3_topOf : GoodIn wsX3_mostInTheWay wsX3_topOf := goodIn_r _ [12, 13, 14, 15, 16, 17, 11, 18, 19, 28, 29, 30, 31, 32] (by decide +kernel) (by decide +kernel)
set_option maxRecDepth 20000 in
theorem gX3_mostInTheWay_X3_topOf : GoodIn wsX3_mostInTheWay (wsV RX3 53 RX3 yX3_topOf wsX3_topOf) := goodIn_app (goodIn_of _ (by decide +kernel)) ggX3_mostInTheWay_X3_topOf
set_option maxRecDepth 20000 in
theorem ggX3_mostInTheWay_X3_clearance : GoodIn wsX3_mostInTheWay wsX3_clearance := goodIn_r _ [23, 24, 25, 3, 26, 13, 27, 15, 16, 17, 11, 18, 19, 28, 29, 30, 31, 32] (by decide +kernel) (by decide +kernel)
set_option maxRecDepth 20000 in
theorem gX3_mostInTheWay_X3_clearance : GoodIn wsX3_mostInTheWay (wsV RX3 49 RX3 yX3_clearance wsX3_clearance) := goodIn_app (goodIn_of _ (by decide +kernel)) ggX3_mostInTheWay_X3_clearance
theorem dX3_mostInTheWay_0 : decode cX3_mostInTheWay 0 = .ok (.iconst (-1), 1) := by decide +kernel
theorem dX3_mostInTheWay_1 : decode cX3_mostInTheWay 1 = .ok (.istore_n 3, 1) := by decide +kernel
theorem dX3_mostInTheWay_2 : decode cX3_mostInTheWay 2 = .ok (.iconst 0, 1) := by decide +kernel
theorem dX3_mostInTheWay_3 : decode cX3_mostInTheWay 3 = .ok (.istore 4, 2) := by decide +kernel
theorem dX3_mostInTheWay_5 : decode cX3_mostInTheWay 5 = .ok (.iload_n 1, 1) := by decide +kernel
theorem dX3_mostInTheWay_6 : decode cX3_mostInTheWay 6 = .ok (.iload_n 2, 1) := by decide +kernel
theorem dX3_mostInTheWay_7 : decode cX3_mostInTheWay 7 = .ok (.invokestatic 42, 3) := by decide +kernel
theorem dX3_mostInTheWay_10 : decode cX3_mostInTheWay 10 = .ok (.istore 5, 2) := by decide +kernel
theorem dX3_mostInTheWay_12 : decode cX3_mostInTheWay 12 = .ok (.iload_n 1, 1) := by decide +kernel
theorem dX3_mostInTheWay_13 : decode cX3_mostInTheWay 13 = .ok (.iload_n 2, 1) := by decide +kernel
theorem dX3_mostInTheWay_14 : decode cX3_mostInTheWay 14 = .ok (.invokestatic 46, 3) := by decide +kernel
theorem dX3_mostInTheWay_17 : decode cX3_mostInTheWay 17 = .ok (.iconst 1, 1) := by decide +kernel
theorem dX3_mostInTheWay_18 : decode cX3_mostInTheWay 18 = .ok (.iadd, 1) := by decide +kernel
theorem dX3_mostInTheWay_19 : decode cX3_mostInTheWay 19 = .ok (.istore 6, 2) := by decide +kernel
theorem dX3_mostInTheWay_21 : decode cX3_mostInTheWay 21 = .ok (.iload 6, 2) := by decide +kernel
theorem dX3_mostInTheWay_23 : decode cX3_mostInTheWay 23 = .ok (.iload 5, 2) := by decide +kernel
theorem dX3_mostInTheWay_25 : decode cX3_mostInTheWay 25 = .ok (.if_icmp .ge 48, 3) := by decide +kernel
theorem dX3_mostInTheWay_28 : decode cX3_mostInTheWay 28 = .ok (.aload_n 0, 1) := by decide +kernel
theorem dX3_mostInTheWay_29 : decode cX3_mostInTheWay 29 = .ok (.iload_n 1, 1) := by decide +kernel
theorem dX3_mostInTheWay_30 : decode cX3_mostInTheWay 30 = .ok (.aload_n 0, 1) := by decide +kernel
theorem dX3_mostInTheWay_31 : decode cX3_mostInTheWay 31 = .ok (.iload_n 1, 1) := by decide +kernel
theorem dX3_mostInTheWay_32 : decode cX3_mostInTheWay 32 = .ok (.invokevirtual 53, 3) := by decide +kernel
theorem dX3_mostInTheWay_35 : decode cX3_mostInTheWay 35 = .ok (.iload_n 2, 1) := by decide +kernel
theorem dX3_mostInTheWay_36 : decode cX3_mostInTheWay 36 = .ok (.aload_n 0, 1) := by decide +kernel
theorem dX3_mostInTheWay_37 : decode cX3_mostInTheWay 37 = .ok (.iload_n 2, 1) := by decide +kernel
theorem dX3_mostInTheWay_38 : decode cX3_mostInTheWay 38 = .ok (.invokevirtual 53, 3) := by decide +kernel
theorem dX3_mostInTheWay_41 : decode cX3_mostInTheWay 41 = .ok (.iload 6, 2) := by decide +kernel
theorem dX3_mostInTheWay_43 : decode cX3_mostInTheWay 43 = .ok (.invokevirtual 49, 3) := by decide +kernel
theorem dX3_mostInTheWay_46 : decode cX3_mostInTheWay 46 = .ok (.istore 7, 2) := by decide +kernel
theorem dX3_mostInTheWay_48 : decode cX3_mostInTheWay 48 = .ok (.iload_n 3, 1) := by decide +kernel
theorem dX3_mostInTheWay_49 : decode cX3_mostInTheWay 49 = .ok (.iconst (-1), 1) := by decide +kernel
theorem dX3_mostInTheWay_50 : decode cX3_mostInTheWay 50 = .ok (.if_icmp .eq 10, 3) := by decide +kernel
theorem dX3_mostInTheWay_53 : decode cX3_mostInTheWay 53 = .ok (.iload 7, 2) := by decide +kernel
theorem dX3_mostInTheWay_55 : decode cX3_mostInTheWay 55 = .ok (.iload 4, 2) := by decide +kernel
theorem dX3_mostInTheWay_57 : decode cX3_mostInTheWay 57 = .ok (.if_icmp .ge 10, 3) := by decide +kernel
theorem dX3_mostInTheWay_60 : decode cX3_mostInTheWay 60 = .ok (.iload 6, 2) := by decide +kernel
theorem dX3_mostInTheWay_62 : decode cX3_mostInTheWay 62 = .ok (.istore_n 3, 1) := by decide +kernel
theorem dX3_mostInTheWay_63 : decode cX3_mostInTheWay 63 = .ok (.iload 7, 2) := by decide +kernel
theorem dX3_mostInTheWay_65 : decode cX3_mostInTheWay 65 = .ok (.istore 4, 2) := by decide +kernel
theorem dX3_mostInTheWay_67 : decode cX3_mostInTheWay 67 = .ok (.iinc 6 1, 3) := by decide +kernel
theorem dX3_mostInTheWay_70 : decode cX3_mostInTheWay 70 = .ok (.goto (-49), 3) := by decide +kernel
theorem dX3_mostInTheWay_73 : decode cX3_mostInTheWay 73 = .ok (.iload_n 3, 1) := by decide +kernel
theorem dX3_mostInTheWay_74 : decode cX3_mostInTheWay 74 = .ok (.ireturn, 1) := by decide +kernel
set_option maxRecDepth 20000 in
theorem ggX3_pairsWithin_X3_topsSee : GoodIn wsX3_pairsWithin wsX3_topsSee := goodIn_r _ [6, 7, 8, 9, 5, 10, 11, 12, 13, 14, 15, 16, 1, 17, 18, 19, 20, 21, 22, 23, 24, 25, 26, 27, 28, 29, 30, 31, 32, 33, 34, 35, 36, 37, 38, 39, 40] (by decide +kernel) (by decide +kernel)
set_option maxRecDepth 20000 in
theorem gX3_pairsWithin_X3_topsSee : GoodIn wsX3_pairsWithin (wsV RX3 64 RX3 yX3_topsSee wsX3_topsSee) := goodIn_app (goodIn_of _ (by decide +kernel)) ggX3_pairsWithin_X3_topsSee
theorem dX3_pairsWithin_0 : decode cX3_pairsWithin 0 = .ok (.iconst 0, 1) := by decide +kernel
theorem dX3_pairsWithin_1 : decode cX3_pairsWithin 1 = .ok (.istore_n 2, 1) := by decide +kernel
theorem dX3_pairsWithin_2 : decode cX3_pairsWithin 2 = .ok (.iconst 0, 1) := by decide +kernel
theorem dX3_pairsWithin_3 : decode cX3_pairsWithin 3 = .ok (.istore_n 3, 1) := by decide +kernel
theorem dX3_pairsWithin_4 : decode cX3_pairsWithin 4 = .ok (.iload_n 3, 1) := by decide +kernel
theorem dX3_pairsWithin_5 : decode cX3_pairsWithin 5 = .ok (.aload_n 0, 1) := by decide +kernel
theorem dX3_pairsWithin_6 : decode cX3_pairsWithin 6 = .ok (.getfield 18, 3) := by decide +kernel
theorem dX3_pairsWithin_9 : decode cX3_pairsWithin 9 = .ok (.if_icmp .ge 50, 3) := by decide +kernel
theorem dX3_pairsWithin_12 : decode cX3_pairsWithin 12 = .ok (.iload_n 3, 1) := by decide +kernel
theorem dX3_pairsWithin_13 : decode cX3_pairsWithin 13 = .ok (.iconst 1, 1) := by decide +kernel
theorem dX3_pairsWithin_14 : decode cX3_pairsWithin 14 = .ok (.iadd, 1) := by decide +kernel
theorem dX3_pairsWithin_15 : decode cX3_pairsWithin 15 = .ok (.istore 4, 2) := by decide +kernel
theorem dX3_pairsWithin_17 : decode cX3_pairsWithin 17 = .ok (.iload 4, 2) := by decide +kernel
theorem dX3_pairsWithin_19 : decode cX3_pairsWithin 19 = .ok (.aload_n 0, 1) := by decide +kernel
theorem dX3_pairsWithin_20 : decode cX3_pairsWithin 20 = .ok (.getfield 18, 3) := by decide +kernel
theorem dX3_pairsWithin_23 : decode cX3_pairsWithin 23 = .ok (.if_icmp .ge 30, 3) := by decide +kernel
theorem dX3_pairsWithin_26 : decode cX3_pairsWithin 26 = .ok (.iload 4, 2) := by decide +kernel
theorem dX3_pairsWithin_28 : decode cX3_pairsWithin 28 = .ok (.iload_n 3, 1) := by decide +kernel
theorem dX3_pairsWithin_29 : decode cX3_pairsWithin 29 = .ok (.isub, 1) := by decide +kernel
theorem dX3_pairsWithin_30 : decode cX3_pairsWithin 30 = .ok (.iload_n 1, 1) := by decide +kernel
theorem dX3_pairsWithin_31 : decode cX3_pairsWithin 31 = .ok (.if_icmp .gt 22, 3) := by decide +kernel
theorem dX3_pairsWithin_34 : decode cX3_pairsWithin 34 = .ok (.aload_n 0, 1) := by decide +kernel
theorem dX3_pairsWithin_35 : decode cX3_pairsWithin 35 = .ok (.iload_n 3, 1) := by decide +kernel
theorem dX3_pairsWithin_36 : decode cX3_pairsWithin 36 = .ok (.iload 4, 2) := by decide +kernel
theorem dX3_pairsWithin_38 : decode cX3_pairsWithin 38 = .ok (.invokevirtual 64, 3) := by decide +kernel
theorem dX3_pairsWithin_41 : decode cX3_pairsWithin 41 = .ok (.ifCond .eq 6, 3) := by decide +kernel
theorem dX3_pairsWithin_44 : decode cX3_pairsWithin 44 = .ok (.iinc 2 1, 3) := by decide +kernel
theorem dX3_pairsWithin_47 : decode cX3_pairsWithin 47 = .ok (.iinc 4 1, 3) := by decide +kernel
theorem dX3_pairsWithin_50 : decode cX3_pairsWithin 50 = .ok (.goto (-33), 3) := by decide +kernel
theorem dX3_pairsWithin_53 : decode cX3_pairsWithin 53 = .ok (.iinc 3 1, 3) := by decide +kernel
theorem dX3_pairsWithin_56 : decode cX3_pairsWithin 56 = .ok (.goto (-52), 3) := by decide +kernel
theorem dX3_pairsWithin_59 : decode cX3_pairsWithin 59 = .ok (.iload_n 2, 1) := by decide +kernel
theorem dX3_pairsWithin_60 : decode cX3_pairsWithin 60 = .ok (.ireturn, 1) := by decide +kernel
theorem dX3_countMasts_0 : decode cX3_countMasts 0 = .ok (.iconst 0, 1) := by decide +kernel
theorem dX3_countMasts_1 : decode cX3_countMasts 1 = .ok (.istore_n 1, 1) := by decide +kernel
theorem dX3_countMasts_2 : decode cX3_countMasts 2 = .ok (.iconst 0, 1) := by decide +kernel
theorem dX3_countMasts_3 : decode cX3_countMasts 3 = .ok (.istore_n 2, 1) := by decide +kernel
theorem dX3_countMasts_4 : decode cX3_countMasts 4 = .ok (.iload_n 2, 1) := by decide +kernel
theorem dX3_countMasts_5 : decode cX3_countMasts 5 = .ok (.aload_n 0, 1) := by decide +kernel
theorem dX3_countMasts_6 : decode cX3_countMasts 6 = .ok (.getfield 18, 3) := by decide +kernel
theorem dX3_countMasts_9 : decode cX3_countMasts 9 = .ok (.if_icmp .ge 21, 3) := by decide +kernel
theorem dX3_countMasts_12 : decode cX3_countMasts 12 = .ok (.aload_n 0, 1) := by decide +kernel
theorem dX3_countMasts_13 : decode cX3_countMasts 13 = .ok (.getfield 15, 3) := by decide +kernel
theorem dX3_countMasts_16 : decode cX3_countMasts 16 = .ok (.iload_n 2, 1) := by decide +kernel
theorem dX3_countMasts_17 : decode cX3_countMasts 17 = .ok (.iaload, 1) := by decide +kernel
theorem dX3_countMasts_18 : decode cX3_countMasts 18 = .ok (.ifCond .le 6, 3) := by decide +kernel
theorem dX3_countMasts_21 : decode cX3_countMasts 21 = .ok (.iinc 1 1, 3) := by decide +kernel
theorem dX3_countMasts_24 : decode cX3_countMasts 24 = .ok (.iinc 2 1, 3) := by decide +kernel
theorem dX3_countMasts_27 : decode cX3_countMasts 27 = .ok (.goto (-23), 3) := by decide +kernel
theorem dX3_countMasts_30 : decode cX3_countMasts 30 = .ok (.iload_n 1, 1) := by decide +kernel
theorem dX3_countMasts_31 : decode cX3_countMasts 31 = .ok (.ireturn, 1) := by decide +kernel
theorem dX3_sumOfMasts_0 : decode cX3_sumOfMasts 0 = .ok (.iconst 0, 1) := by decide +kernel
theorem dX3_sumOfMasts_1 : decode cX3_sumOfMasts 1 = .ok (.istore_n 1, 1) := by decide +kernel
theorem dX3_sumOfMasts_2 : decode cX3_sumOfMasts 2 = .ok (.iconst 0, 1) := by decide +kernel
theorem dX3_sumOfMasts_3 : decode cX3_sumOfMasts 3 = .ok (.istore_n 2, 1) := by decide +kernel
theorem dX3_sumOfMasts_4 : decode cX3_sumOfMasts 4 = .ok (.iload_n 2, 1) := by decide +kernel
theorem dX3_sumOfMasts_5 : decode cX3_sumOfMasts 5 = .ok (.aload_n 0, 1) := by decide +kernel
theorem dX3_sumOfMasts_6 : decode cX3_sumOfMasts 6 = .ok (.getfield 18, 3) := by decide +kernel
theorem dX3_sumOfMasts_9 : decode cX3_sumOfMasts 9 = .ok (.if_icmp .ge 18, 3) := by decide +kernel
theorem dX3_sumOfMasts_12 : decode cX3_sumOfMasts 12 = .ok (.iload_n 1, 1) := by decide +kernel
theorem dX3_sumOfMasts_13 : decode cX3_sumOfMasts 13 = .ok (.aload_n 0, 1) := by decide +kernel
theorem dX3_sumOfMasts_14 : decode cX3_sumOfMasts 14 = .ok (.getfield 15, 3) := by decide +kernel
theorem dX3_sumOfMasts_17 : decode cX3_sumOfMasts 17 = .ok (.iload_n 2, 1) := by decide +kernel
theorem dX3_sumOfMasts_18 : decode cX3_sumOfMasts 18 = .ok (.iaload, 1) := by decide +kernel
theorem dX3_sumOfMasts_19 : decode cX3_sumOfMasts 19 = .ok (.iadd, 1) := by decide +kernel
theorem dX3_sumOfMasts_20 : decode cX3_sumOfMasts 20 = .ok (.istore_n 1, 1) := by decide +kernel
theorem dX3_sumOfMasts_21 : decode cX3_sumOfMasts 21 = .ok (.iinc 2 1, 3) := by decide +kernel
theorem dX3_sumOfMasts_24 : decode cX3_sumOfMasts 24 = .ok (.goto (-20), 3) := by decide +kernel
theorem dX3_sumOfMasts_27 : decode cX3_sumOfMasts 27 = .ok (.iload_n 1, 1) := by decide +kernel
theorem dX3_sumOfMasts_28 : decode cX3_sumOfMasts 28 = .ok (.ireturn, 1) := by decide +kernel
set_option maxRecDepth 20000 in
theorem ggX3_withoutMast_X3_has : GoodIn wsX3_withoutMast wsX3_has := goodIn_r _ [8, 9, 12, 13, 14, 15, 16] (by decide +kernel) (by decide +kernel)
set_option maxRecDepth 20000 in
theorem gX3_withoutMast_X3_has : GoodIn wsX3_withoutMast (wsV RX3 28 RX3 yX3_has wsX3_has) := goodIn_app (goodIn_of _ (by decide +kernel)) ggX3_withoutMast_X3_has
theorem dX3_withoutMast_0 : decode cX3_withoutMast 0 = .ok (.iconst 0, 1) := by decide +kernel
theorem dX3_withoutMast_1 : decode cX3_withoutMast 1 = .ok (.istore_n 2, 1) := by decide +kernel
theorem dX3_withoutMast_2 : decode cX3_withoutMast 2 = .ok (.iconst 0, 1) := by decide +kernel
theorem dX3_withoutMast_3 : decode cX3_withoutMast 3 = .ok (.istore_n 3, 1) := by decide +kernel
theorem dX3_withoutMast_4 : decode cX3_withoutMast 4 = .ok (.iload_n 3, 1) := by decide +kernel
theorem dX3_withoutMast_5 : decode cX3_withoutMast 5 = .ok (.aload_n 1, 1) := by decide +kernel
theorem dX3_withoutMast_6 : decode cX3_withoutMast 6 = .ok (.getfield 67, 3) := by decide +kernel
theorem dX3_withoutMast_9 : decode cX3_withoutMast 9 = .ok (.if_icmp .ge 39, 3) := by decide +kernel
theorem dX3_withoutMast_12 : decode cX3_withoutMast 12 = .ok (.aload_n 1, 1) := by decide +kernel
theorem dX3_withoutMast_13 : decode cX3_withoutMast 13 = .ok (.getfield 72, 3) := by decide +kernel
theorem dX3_withoutMast_16 : decode cX3_withoutMast 16 = .ok (.iload_n 3, 1) := by decide +kernel
theorem dX3_withoutMast_17 : decode cX3_withoutMast 17 = .ok (.iaload, 1) := by decide +kernel
theorem dX3_withoutMast_18 : decode cX3_withoutMast 18 = .ok (.istore 4, 2) := by decide +kernel
theorem dX3_withoutMast_20 : decode cX3_withoutMast 20 = .ok (.aload_n 0, 1) := by decide +kernel
theorem dX3_withoutMast_21 : decode cX3_withoutMast 21 = .ok (.iload 4, 2) := by decide +kernel
theorem dX3_withoutMast_23 : decode cX3_withoutMast 23 = .ok (.invokevirtual 28, 3) := by decide +kernel
theorem dX3_withoutMast_26 : decode cX3_withoutMast 26 = .ok (.ifCond .eq 16, 3) := by decide +kernel
theorem dX3_withoutMast_29 : decode cX3_withoutMast 29 = .ok (.aload_n 0, 1) := by decide +kernel
theorem dX3_withoutMast_30 : decode cX3_withoutMast 30 = .ok (.getfield 15, 3) := by decide +kernel
theorem dX3_withoutMast_33 : decode cX3_withoutMast 33 = .ok (.iload 4, 2) := by decide +kernel
theorem dX3_withoutMast_35 : decode cX3_withoutMast 35 = .ok (.iaload, 1) := by decide +kernel
theorem dX3_withoutMast_36 : decode cX3_withoutMast 36 = .ok (.ifCond .ne 6, 3) := by decide +kernel
theorem dX3_withoutMast_39 : decode cX3_withoutMast 39 = .ok (.iinc 2 1, 3) := by decide +kernel
theorem dX3_withoutMast_42 : decode cX3_withoutMast 42 = .ok (.iinc 3 1, 3) := by decide +kernel
theorem dX3_withoutMast_45 : decode cX3_withoutMast 45 = .ok (.goto (-41), 3) := by decide +kernel
theorem dX3_withoutMast_48 : decode cX3_withoutMast 48 = .ok (.iload_n 2, 1) := by decide +kernel
theorem dX3_withoutMast_49 : decode cX3_withoutMast 49 = .ok (.ireturn, 1) := by decide +kernel
theorem dX4_init_0 : decode cX4_init 0 = .ok (.aload_n 0, 1) := by decide +kernel
theorem dX4_init_1 : decode cX4_init 1 = .ok (.invokespecial 3, 3) := by decide +kernel
theorem dX4_init_4 : decode cX4_init 4 = .ok (.aload_n 0, 1) := by decide +kernel
theorem dX4_init_5 : decode cX4_init 5 = .ok (.bipush 20, 2) := by decide +kernel
theorem dX4_init_7 : decode cX4_init 7 = .ok (.newarray .int, 2) := by decide +kernel
theorem dX4_init_9 : decode cX4_init 9 = .ok (.putfield 9, 3) := by decide +kernel
theorem dX4_init_12 : decode cX4_init 12 = .ok (.aload_n 0, 1) := by decide +kernel
theorem dX4_init_13 : decode cX4_init 13 = .ok (.bipush 20, 2) := by decide +kernel
theorem dX4_init_15 : decode cX4_init 15 = .ok (.newarray .int, 2) := by decide +kernel
theorem dX4_init_17 : decode cX4_init 17 = .ok (.putfield 15, 3) := by decide +kernel
theorem dX4_init_20 : decode cX4_init 20 = .ok (.aload_n 0, 1) := by decide +kernel
theorem dX4_init_21 : decode cX4_init 21 = .ok (.bipush 20, 2) := by decide +kernel
theorem dX4_init_23 : decode cX4_init 23 = .ok (.newarray .int, 2) := by decide +kernel
theorem dX4_init_25 : decode cX4_init 25 = .ok (.putfield 18, 3) := by decide +kernel
theorem dX4_init_28 : decode cX4_init 28 = .ok (.aload_n 0, 1) := by decide +kernel
theorem dX4_init_29 : decode cX4_init 29 = .ok (.bipush 20, 2) := by decide +kernel
theorem dX4_init_31 : decode cX4_init 31 = .ok (.newarray .int, 2) := by decide +kernel
theorem dX4_init_33 : decode cX4_init 33 = .ok (.putfield 21, 3) := by decide +kernel
theorem dX4_init_36 : decode cX4_init 36 = .ok (.aload_n 0, 1) := by decide +kernel
theorem dX4_init_37 : decode cX4_init 37 = .ok (.iconst 0, 1) := by decide +kernel
theorem dX4_init_38 : decode cX4_init 38 = .ok (.putfield 24, 3) := by decide +kernel
theorem dX4_init_41 : decode cX4_init 41 = .ok (.aload_n 0, 1) := by decide +kernel
theorem dX4_init_42 : decode cX4_init 42 = .ok (.iconst 0, 1) := by decide +kernel
theorem dX4_init_43 : decode cX4_init 43 = .ok (.putfield 28, 3) := by decide +kernel
theorem dX4_init_46 : decode cX4_init 46 = .ok (.return_, 1) := by decide +kernel
set_option maxRecDepth 20000 in
theorem ggX4_survey_X3_topOf : GoodIn wsX4_survey wsX3_topOf := goodIn_r _ [12, 13, 14, 15, 16, 17, 11, 18, 19, 46, 47, 48, 49, 50] (by decide +kernel) (by decide +kernel)
set_option maxRecDepth 20000 in
theorem gX4_survey_X3_topOf : GoodIn wsX4_survey (wsV RX4 37 RX3 yX3_topOf wsX3_topOf) := goodIn_app (goodIn_of _ (by decide +kernel)) ggX4_survey_X3_topOf
set_option maxRecDepth 20000 in
theorem ggX4_survey_X4_linksOf : GoodIn wsX4_survey wsX4_linksOf := goodIn_r _ [24, 2, 25, 26, 27, 28, 29, 5, 30, 31, 32, 11, 33, 34, 35, 36, 37, 38, 39, 40, 41, 42, 43, 44, 13, 45, 15, 16, 17, 18, 19, 51, 52, 53, 54, 55, 56, 46, 47, 48, 49, 50] (by decide +kernel) (by decide +kernel)
set_option maxRecDepth 20000 in
theorem gX4_survey_X4_linksOf : GoodIn wsX4_survey (wsV RX4 41 RX4 yX4_linksOf wsX4_linksOf) := goodIn_app (goodIn_of _ (by decide +kernel)) ggX4_survey_X4_linksOf
theorem dX4_survey_0 : decode cX4_survey 0 = .ok (.aload_n 0, 1) := by decide +kernel
theorem dX4_survey_1 : decode cX4_survey 1 = .ok (.aload_n 1, 1) := by decide +kernel
theorem dX4_survey_2 : decode cX4_survey 2 = .ok (.getfield 31, 3) := by decide +kernel
theorem dX4_survey_5 : decode cX4_survey 5 = .ok (.putfield 24, 3) := by decide +kernel
theorem dX4_survey_8 : decode cX4_survey 8 = .ok (.aload_n 0, 1) := by decide +kernel
theorem dX4_survey_9 : decode cX4_survey 9 = .ok (.iconst 0, 1) := by decide +kernel
theorem dX4_survey_10 : decode cX4_survey 10 = .ok (.putfield 28, 3) := by decide +kernel
theorem dX4_survey_13 : decode cX4_survey 13 = .ok (.iconst 0, 1) := by decide +kernel
theorem dX4_survey_14 : decode cX4_survey 14 = .ok (.istore_n 3, 1) := by decide +kernel
theorem dX4_survey_15 : decode cX4_survey 15 = .ok (.iload_n 3, 1) := by decide +kernel
theorem dX4_survey_16 : decode cX4_survey 16 = .ok (.aload_n 0, 1) := by decide +kernel
theorem dX4_survey_17 : decode cX4_survey 17 = .ok (.getfield 24, 3) := by decide +kernel
theorem dX4_survey_20 : decode cX4_survey 20 = .ok (.if_icmp .ge 89, 3) := by decide +kernel
theorem dX4_survey_23 : decode cX4_survey 23 = .ok (.aload_n 1, 1) := by decide +kernel
theorem dX4_survey_24 : decode cX4_survey 24 = .ok (.getfield 34, 3) := by decide +kernel
