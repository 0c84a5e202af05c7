theorem dX4_survey_27 : decode cX4_survey 27 = .ok (.iload_n 3, 1) := by decide +kernel
theorem dX4_survey_28 : decode cX4_survey 28 = .ok (.iaload, 1) := by decide +kernel
theorem dX4_survey_29 : decode cX4_survey 29 = .ok (.ifCond .ne 7, 3) := by decide +kernel
theorem dX4_survey_32 : decode cX4_survey 32 = .ok (.iconst 1, 1) := by decide +kernel
theorem dX4_survey_33 : decode cX4_survey 33 = .ok (.goto 4, 3) := by decide +kernel
theorem dX4_survey_36 : decode cX4_survey 36 = .ok (.iconst 0, 1) := by decide +kernel
theorem dX4_survey_37 : decode cX4_survey 37 = .ok (.istore 4, 2) := by decide +kernel
theorem dX4_survey_39 : decode cX4_survey 39 = .ok (.aload_n 0, 1) := by decide +kernel
theorem dX4_survey_40 : decode cX4_survey 40 = .ok (.getfield 9, 3) := by decide +kernel
theorem dX4_survey_43 : decode cX4_survey 43 = .ok (.iload_n 3, 1) := by decide +kernel
theorem dX4_survey_44 : decode cX4_survey 44 = .ok (.aload_n 1, 1) := by decide +kernel
theorem dX4_survey_45 : decode cX4_survey 45 = .ok (.iload_n 3, 1) := by decide +kernel
theorem dX4_survey_46 : decode cX4_survey 46 = .ok (.invokevirtual 37, 3) := by decide +kernel
theorem dX4_survey_49 : decode cX4_survey 49 = .ok (.iload 4, 2) := by decide +kernel
theorem dX4_survey_51 : decode cX4_survey 51 = .ok (.ifCond .eq 7, 3) := by decide +kernel
theorem dX4_survey_54 : decode cX4_survey 54 = .ok (.iload_n 2, 1) := by decide +kernel
theorem dX4_survey_55 : decode cX4_survey 55 = .ok (.goto 4, 3) := by decide +kernel
theorem dX4_survey_58 : decode cX4_survey 58 = .ok (.iconst 0, 1) := by decide +kernel
theorem dX4_survey_59 : decode cX4_survey 59 = .ok (.iadd, 1) := by decide +kernel
theorem dX4_survey_60 : decode cX4_survey 60 = .ok (.iastore, 1) := by decide +kernel
theorem dX4_survey_61 : decode cX4_survey 61 = .ok (.aload_n 0, 1) := by decide +kernel
theorem dX4_survey_62 : decode cX4_survey 62 = .ok (.getfield 18, 3) := by decide +kernel
theorem dX4_survey_65 : decode cX4_survey 65 = .ok (.iload_n 3, 1) := by decide +kernel
theorem dX4_survey_66 : decode cX4_survey 66 = .ok (.iload 4, 2) := by decide +kernel
theorem dX4_survey_68 : decode cX4_survey 68 = .ok (.ifCond .eq 12, 3) := by decide +kernel
theorem dX4_survey_71 : decode cX4_survey 71 = .ok (.iload_n 2, 1) := by decide +kernel
theorem dX4_survey_72 : decode cX4_survey 72 = .ok (.ifCond .le 8, 3) := by decide +kernel
theorem dX4_survey_75 : decode cX4_survey 75 = .ok (.bipush 33, 2) := by decide +kernel
theorem dX4_survey_77 : decode cX4_survey 77 = .ok (.goto 4, 3) := by decide +kernel
theorem dX4_survey_80 : decode cX4_survey 80 = .ok (.iconst 1, 1) := by decide +kernel
theorem dX4_survey_81 : decode cX4_survey 81 = .ok (.iastore, 1) := by decide +kernel
theorem dX4_survey_82 : decode cX4_survey 82 = .ok (.iload 4, 2) := by decide +kernel
theorem dX4_survey_84 : decode cX4_survey 84 = .ok (.ifCond .eq 7, 3) := by decide +kernel
theorem dX4_survey_87 : decode cX4_survey 87 = .ok (.iload_n 2, 1) := by decide +kernel
theorem dX4_survey_88 : decode cX4_survey 88 = .ok (.ifCond .le 15, 3) := by decide +kernel
theorem dX4_survey_91 : decode cX4_survey 91 = .ok (.aload_n 0, 1) := by decide +kernel
theorem dX4_survey_92 : decode cX4_survey 92 = .ok (.dup, 1) := by decide +kernel
theorem dX4_survey_93 : decode cX4_survey 93 = .ok (.getfield 28, 3) := by decide +kernel
theorem dX4_survey_96 : decode cX4_survey 96 = .ok (.iconst 1, 1) := by decide +kernel
theorem dX4_survey_97 : decode cX4_survey 97 = .ok (.iload_n 3, 1) := by decide +kernel
theorem dX4_survey_98 : decode cX4_survey 98 = .ok (.ishl, 1) := by decide +kernel
theorem dX4_survey_99 : decode cX4_survey 99 = .ok (.ior, 1) := by decide +kernel
theorem dX4_survey_100 : decode cX4_survey 100 = .ok (.putfield 28, 3) := by decide +kernel
theorem dX4_survey_103 : decode cX4_survey 103 = .ok (.iinc 3 1, 3) := by decide +kernel
theorem dX4_survey_106 : decode cX4_survey 106 = .ok (.goto (-91), 3) := by decide +kernel
theorem dX4_survey_109 : decode cX4_survey 109 = .ok (.iconst 0, 1) := by decide +kernel
theorem dX4_survey_110 : decode cX4_survey 110 = .ok (.istore_n 3, 1) := by decide +kernel
theorem dX4_survey_111 : decode cX4_survey 111 = .ok (.iload_n 3, 1) := by decide +kernel
theorem dX4_survey_112 : decode cX4_survey 112 = .ok (.aload_n 0, 1) := by decide +kernel
theorem dX4_survey_113 : decode cX4_survey 113 = .ok (.getfield 24, 3) := by decide +kernel
theorem dX4_survey_116 : decode cX4_survey 116 = .ok (.if_icmp .ge 21, 3) := by decide +kernel
theorem dX4_survey_119 : decode cX4_survey 119 = .ok (.aload_n 0, 1) := by decide +kernel
theorem dX4_survey_120 : decode cX4_survey 120 = .ok (.getfield 15, 3) := by decide +kernel
theorem dX4_survey_123 : decode cX4_survey 123 = .ok (.iload_n 3, 1) := by decide +kernel
theorem dX4_survey_124 : decode cX4_survey 124 = .ok (.aload_n 0, 1) := by decide +kernel
theorem dX4_survey_125 : decode cX4_survey 125 = .ok (.aload_n 1, 1) := by decide +kernel
theorem dX4_survey_126 : decode cX4_survey 126 = .ok (.iload_n 3, 1) := by decide +kernel
theorem dX4_survey_127 : decode cX4_survey 127 = .ok (.invokevirtual 41, 3) := by decide +kernel
theorem dX4_survey_130 : decode cX4_survey 130 = .ok (.iastore, 1) := by decide +kernel
theorem dX4_survey_131 : decode cX4_survey 131 = .ok (.iinc 3 1, 3) := by decide +kernel
theorem dX4_survey_134 : decode cX4_survey 134 = .ok (.goto (-23), 3) := by decide +kernel
theorem dX4_survey_137 : decode cX4_survey 137 = .ok (.return_, 1) := by decide +kernel
set_option maxRecDepth 20000 in
theorem ggX4_linksOf_X3_pointsSee : GoodIn wsX4_linksOf wsX3_pointsSee := goodIn_r _ [12, 13, 14, 4, 15, 16, 17, 18, 19, 20, 21, 11, 22, 23, 3, 5, 24, 25, 26, 27, 28, 29, 30, 37, 38, 39, 40, 41] (by decide +kernel) (by decide +kernel)
set_option maxRecDepth 20000 in
theorem gX4_linksOf_X3_pointsSee : GoodIn wsX4_linksOf (wsV RX4 53 RX3 yX3_pointsSee wsX3_pointsSee) := goodIn_app (goodIn_of _ (by decide +kernel)) ggX4_linksOf_X3_pointsSee
theorem dX4_linksOf_0 : decode cX4_linksOf 0 = .ok (.iconst 0, 1) := by decide +kernel
theorem dX4_linksOf_1 : decode cX4_linksOf 1 = .ok (.istore_n 3, 1) := by decide +kernel
theorem dX4_linksOf_2 : decode cX4_linksOf 2 = .ok (.iconst 0, 1) := by decide +kernel
theorem dX4_linksOf_3 : decode cX4_linksOf 3 = .ok (.istore 4, 2) := by decide +kernel
theorem dX4_linksOf_5 : decode cX4_linksOf 5 = .ok (.iload 4, 2) := by decide +kernel
theorem dX4_linksOf_7 : decode cX4_linksOf 7 = .ok (.aload_n 0, 1) := by decide +kernel
theorem dX4_linksOf_8 : decode cX4_linksOf 8 = .ok (.getfield 24, 3) := by decide +kernel
theorem dX4_linksOf_11 : decode cX4_linksOf 11 = .ok (.if_icmp .ge 71, 3) := by decide +kernel
theorem dX4_linksOf_14 : decode cX4_linksOf 14 = .ok (.iload 4, 2) := by decide +kernel
theorem dX4_linksOf_16 : decode cX4_linksOf 16 = .ok (.iload_n 2, 1) := by decide +kernel
theorem dX4_linksOf_17 : decode cX4_linksOf 17 = .ok (.if_icmp .eq 21, 3) := by decide +kernel
theorem dX4_linksOf_20 : decode cX4_linksOf 20 = .ok (.iload 4, 2) := by decide +kernel
theorem dX4_linksOf_22 : decode cX4_linksOf 22 = .ok (.iload_n 2, 1) := by decide +kernel
theorem dX4_linksOf_23 : decode cX4_linksOf 23 = .ok (.isub, 1) := by decide +kernel
theorem dX4_linksOf_24 : decode cX4_linksOf 24 = .ok (.invokestatic 45, 3) := by decide +kernel
theorem dX4_linksOf_27 : decode cX4_linksOf 27 = .ok (.aload_n 1, 1) := by decide +kernel
theorem dX4_linksOf_28 : decode cX4_linksOf 28 = .ok (.getfield 50, 3) := by decide +kernel
theorem dX4_linksOf_31 : decode cX4_linksOf 31 = .ok (.if_icmp .gt 7, 3) := by decide +kernel
theorem dX4_linksOf_34 : decode cX4_linksOf 34 = .ok (.iconst 1, 1) := by decide +kernel
theorem dX4_linksOf_35 : decode cX4_linksOf 35 = .ok (.goto 4, 3) := by decide +kernel
theorem dX4_linksOf_38 : decode cX4_linksOf 38 = .ok (.iconst 0, 1) := by decide +kernel
theorem dX4_linksOf_39 : decode cX4_linksOf 39 = .ok (.istore 5, 2) := by decide +kernel
theorem dX4_linksOf_41 : decode cX4_linksOf 41 = .ok (.iload 5, 2) := by decide +kernel
theorem dX4_linksOf_43 : decode cX4_linksOf 43 = .ok (.ifCond .eq 33, 3) := by decide +kernel
theorem dX4_linksOf_46 : decode cX4_linksOf 46 = .ok (.aload_n 1, 1) := by decide +kernel
theorem dX4_linksOf_47 : decode cX4_linksOf 47 = .ok (.iload_n 2, 1) := by decide +kernel
theorem dX4_linksOf_48 : decode cX4_linksOf 48 = .ok (.aload_n 0, 1) := by decide +kernel
theorem dX4_linksOf_49 : decode cX4_linksOf 49 = .ok (.getfield 9, 3) := by decide +kernel
theorem dX4_linksOf_52 : decode cX4_linksOf 52 = .ok (.iload_n 2, 1) := by decide +kernel
theorem dX4_linksOf_53 : decode cX4_linksOf 53 = .ok (.iaload, 1) := by decide +kernel
theorem dX4_linksOf_54 : decode cX4_linksOf 54 = .ok (.iload 4, 2) := by decide +kernel
theorem dX4_linksOf_56 : decode cX4_linksOf 56 = .ok (.aload_n 0, 1) := by decide +kernel
theorem dX4_linksOf_57 : decode cX4_linksOf 57 = .ok (.getfield 9, 3) := by decide +kernel
theorem dX4_linksOf_60 : decode cX4_linksOf 60 = .ok (.iload 4, 2) := by decide +kernel
theorem dX4_linksOf_62 : decode cX4_linksOf 62 = .ok (.iaload, 1) := by decide +kernel
theorem dX4_linksOf_63 : decode cX4_linksOf 63 = .ok (.invokevirtual 53, 3) := by decide +kernel
theorem dX4_linksOf_66 : decode cX4_linksOf 66 = .ok (.ifCond .eq 10, 3) := by decide +kernel
theorem dX4_linksOf_69 : decode cX4_linksOf 69 = .ok (.iload_n 3, 1) := by decide +kernel
theorem dX4_linksOf_70 : decode cX4_linksOf 70 = .ok (.iconst 1, 1) := by decide +kernel
theorem dX4_linksOf_71 : decode cX4_linksOf 71 = .ok (.iload 4, 2) := by decide +kernel
theorem dX4_linksOf_73 : decode cX4_linksOf 73 = .ok (.ishl, 1) := by decide +kernel
theorem dX4_linksOf_74 : decode cX4_linksOf 74 = .ok (.ior, 1) := by decide +kernel
theorem dX4_linksOf_75 : decode cX4_linksOf 75 = .ok (.istore_n 3, 1) := by decide +kernel
theorem dX4_linksOf_76 : decode cX4_linksOf 76 = .ok (.iinc 4 1, 3) := by decide +kernel
theorem dX4_linksOf_79 : decode cX4_linksOf 79 = .ok (.goto (-74), 3) := by decide +kernel
theorem dX4_linksOf_82 : decode cX4_linksOf 82 = .ok (.iload_n 3, 1) := by decide +kernel
theorem dX4_linksOf_83 : decode cX4_linksOf 83 = .ok (.ireturn, 1) := by decide +kernel
set_option maxRecDepth 20000 in
theorem ggX4_findChain_X4_findCosts : GoodIn wsX4_findChain wsX4_findCosts := goodIn_r _ [8, 1, 2, 9, 3, 10, 11, 12, 13, 14, 15, 16, 7, 17, 18, 19, 20, 21, 22, 38, 39, 40, 41, 42, 43] (by decide +kernel) (by decide +kernel)
set_option maxRecDepth 20000 in
theorem gX4_findChain_X4_findCosts : GoodIn wsX4_findChain (wsV RX4 57 RX4 yX4_findCosts wsX4_findCosts) := goodIn_app (goodIn_of _ (by decide +kernel)) ggX4_findChain_X4_findCosts
set_option maxRecDepth 20000 in
theorem ggX4_findChain_X1_clear : GoodIn wsX4_findChain wsX1_clear := goodIn_r _ [27, 28, 44, 45] (by decide +kernel) (by decide +kernel)
set_option maxRecDepth 20000 in
theorem gX4_findChain_X1_clear : GoodIn wsX4_findChain (wsV RX4 62 RX1 yX1_clear wsX1_clear) := goodIn_app (goodIn_of _ (by decide +kernel)) ggX4_findChain_X1_clear
set_option maxRecDepth 20000 in
theorem ggX4_findChain_X1_append : GoodIn wsX4_findChain wsX1_append := goodIn_r _ [32, 28, 33, 44, 45] (by decide +kernel) (by decide +kernel)
set_option maxRecDepth 20000 in
theorem gX4_findChain_X1_append : GoodIn wsX4_findChain (wsV RX4 67 RX1 yX1_append wsX1_append) := goodIn_app (goodIn_of _ (by decide +kernel)) ggX4_findChain_X1_append
set_option maxRecDepth 20000 in
theorem ggX4_findChain_X4_nextAfter : GoodIn wsX4_findChain wsX4_nextAfter := goodIn_r _ [37, 1, 2, 9, 14, 15, 16, 7, 17, 18, 19, 20, 21, 22, 38, 39, 40, 41, 42, 43] (by decide +kernel) (by decide +kernel)
set_option maxRecDepth 20000 in
theorem gX4_findChain_X4_nextAfter : GoodIn wsX4_findChain (wsV RX4 70 RX4 yX4_nextAfter wsX4_nextAfter) := goodIn_app (goodIn_of _ (by decide +kernel)) ggX4_findChain_X4_nextAfter
theorem dX4_findChain_0 : decode cX4_findChain 0 = .ok (.iload_n 1, 1) := by decide +kernel
theorem dX4_findChain_1 : decode cX4_findChain 1 = .ok (.ifCond .lt 11, 3) := by decide +kernel
theorem dX4_findChain_4 : decode cX4_findChain 4 = .ok (.iload_n 1, 1) := by decide +kernel
theorem dX4_findChain_5 : decode cX4_findChain 5 = .ok (.aload_n 0, 1) := by decide +kernel
theorem dX4_findChain_6 : decode cX4_findChain 6 = .ok (.getfield 24, 3) := by decide +kernel
theorem dX4_findChain_9 : decode cX4_findChain 9 = .ok (.if_icmp .lt 5, 3) := by decide +kernel
theorem dX4_findChain_12 : decode cX4_findChain 12 = .ok (.iconst 0, 1) := by decide +kernel
theorem dX4_findChain_13 : decode cX4_findChain 13 = .ok (.ireturn, 1) := by decide +kernel
theorem dX4_findChain_14 : decode cX4_findChain 14 = .ok (.aload_n 0, 1) := by decide +kernel
theorem dX4_findChain_15 : decode cX4_findChain 15 = .ok (.iload_n 2, 1) := by decide +kernel
theorem dX4_findChain_16 : decode cX4_findChain 16 = .ok (.invokevirtual 57, 3) := by decide +kernel
theorem dX4_findChain_19 : decode cX4_findChain 19 = .ok (.aload_n 0, 1) := by decide +kernel
theorem dX4_findChain_20 : decode cX4_findChain 20 = .ok (.getfield 21, 3) := by decide +kernel
theorem dX4_findChain_23 : decode cX4_findChain 23 = .ok (.iload_n 1, 1) := by decide +kernel
theorem dX4_findChain_24 : decode cX4_findChain 24 = .ok (.iaload, 1) := by decide +kernel
theorem dX4_findChain_25 : decode cX4_findChain 25 = .ok (.ldc 61, 2) := by decide +kernel
theorem dX4_findChain_27 : decode cX4_findChain 27 = .ok (.if_icmp .lt 5, 3) := by decide +kernel
theorem dX4_findChain_30 : decode cX4_findChain 30 = .ok (.iconst 0, 1) := by decide +kernel
theorem dX4_findChain_31 : decode cX4_findChain 31 = .ok (.ireturn, 1) := by decide +kernel
theorem dX4_findChain_32 : decode cX4_findChain 32 = .ok (.aload_n 3, 1) := by decide +kernel
theorem dX4_findChain_33 : decode cX4_findChain 33 = .ok (.invokevirtual 62, 3) := by decide +kernel
theorem dX4_findChain_36 : decode cX4_findChain 36 = .ok (.aload_n 3, 1) := by decide +kernel
theorem dX4_findChain_37 : decode cX4_findChain 37 = .ok (.iload_n 1, 1) := by decide +kernel
theorem dX4_findChain_38 : decode cX4_findChain 38 = .ok (.invokevirtual 67, 3) := by decide +kernel
theorem dX4_findChain_41 : decode cX4_findChain 41 = .ok (.iload_n 1, 1) := by decide +kernel
theorem dX4_findChain_42 : decode cX4_findChain 42 = .ok (.istore 4, 2) := by decide +kernel
theorem dX4_findChain_44 : decode cX4_findChain 44 = .ok (.iconst 1, 1) := by decide +kernel
theorem dX4_findChain_45 : decode cX4_findChain 45 = .ok (.istore 5, 2) := by decide +kernel
theorem dX4_findChain_47 : decode cX4_findChain 47 = .ok (.iload 5, 2) := by decide +kernel
theorem dX4_findChain_49 : decode cX4_findChain 49 = .ok (.aload_n 0, 1) := by decide +kernel
theorem dX4_findChain_50 : decode cX4_findChain 50 = .ok (.getfield 24, 3) := by decide +kernel
theorem dX4_findChain_53 : decode cX4_findChain 53 = .ok (.if_icmp .ge 30, 3) := by decide +kernel
theorem dX4_findChain_56 : decode cX4_findChain 56 = .ok (.iload 4, 2) := by decide +kernel
theorem dX4_findChain_58 : decode cX4_findChain 58 = .ok (.iload_n 2, 1) := by decide +kernel
theorem dX4_findChain_59 : decode cX4_findChain 59 = .ok (.if_icmp .eq 24, 3) := by decide +kernel
theorem dX4_findChain_62 : decode cX4_findChain 62 = .ok (.aload_n 0, 1) := by decide +kernel
theorem dX4_findChain_63 : decode cX4_findChain 63 = .ok (.iload 4, 2) := by decide +kernel
theorem dX4_findChain_65 : decode cX4_findChain 65 = .ok (.iload_n 2, 1) := by decide +kernel
theorem dX4_findChain_66 : decode cX4_findChain 66 = .ok (.invokevirtual 70, 3) := by decide +kernel
theorem dX4_findChain_69 : decode cX4_findChain 69 = .ok (.istore 4, 2) := by decide +kernel
theorem dX4_findChain_71 : decode cX4_findChain 71 = .ok (.aload_n 3, 1) := by decide +kernel
theorem dX4_findChain_72 : decode cX4_findChain 72 = .ok (.iload 4, 2) := by decide +kernel
theorem dX4_findChain_74 : decode cX4_findChain 74 = .ok (.invokevirtual 67, 3) := by decide +kernel
theorem dX4_findChain_77 : decode cX4_findChain 77 = .ok (.iinc 5 1, 3) := by decide +kernel
theorem dX4_findChain_80 : decode cX4_findChain 80 = .ok (.goto (-33), 3) := by decide +kernel
theorem dX4_findChain_83 : decode cX4_findChain 83 = .ok (.iconst 1, 1) := by decide +kernel
theorem dX4_findChain_84 : decode cX4_findChain 84 = .ok (.ireturn, 1) := by decide +kernel
set_option maxRecDepth 20000 in
theorem ggX4_findCosts_X4_mayFollow : GoodIn wsX4_findCosts wsX4_mayFollow := goodIn_r _ [13, 14, 15, 16, 17, 18, 19, 20, 21, 22, 23, 24] (by decide +kernel) (by decide +kernel)
set_option maxRecDepth 20000 in
theorem gX4_findCosts_X4_mayFollow : GoodIn wsX4_findCosts (wsV RX4 74 RX4 yX4_mayFollow wsX4_mayFollow) := goodIn_app (goodIn_of _ (by decide +kernel)) ggX4_findCosts_X4_mayFollow
theorem dX4_findCosts_0 : decode cX4_findCosts 0 = .ok (.iconst 0, 1) := by decide +kernel
theorem dX4_findCosts_1 : decode cX4_findCosts 1 = .ok (.istore_n 2, 1) := by decide +kernel
theorem dX4_findCosts_2 : decode cX4_findCosts 2 = .ok (.iload_n 2, 1) := by decide +kernel
theorem dX4_findCosts_3 : decode cX4_findCosts 3 = .ok (.aload_n 0, 1) := by decide +kernel
theorem dX4_findCosts_4 : decode cX4_findCosts 4 = .ok (.getfield 24, 3) := by decide +kernel
theorem dX4_findCosts_7 : decode cX4_findCosts 7 = .ok (.if_icmp .ge 31, 3) := by decide +kernel
theorem dX4_findCosts_10 : decode cX4_findCosts 10 = .ok (.aload_n 0, 1) := by decide +kernel
theorem dX4_findCosts_11 : decode cX4_findCosts 11 = .ok (.getfield 21, 3) := by decide +kernel
theorem dX4_findCosts_14 : decode cX4_findCosts 14 = .ok (.iload_n 2, 1) := by decide +kernel
theorem dX4_findCosts_15 : decode cX4_findCosts 15 = .ok (.iload_n 2, 1) := by decide +kernel
theorem dX4_findCosts_16 : decode cX4_findCosts 16 = .ok (.iload_n 1, 1) := by decide +kernel
theorem dX4_findCosts_17 : decode cX4_findCosts 17 = .ok (.if_icmp .ne 12, 3) := by decide +kernel
theorem dX4_findCosts_20 : decode cX4_findCosts 20 = .ok (.aload_n 0, 1) := by decide +kernel
theorem dX4_findCosts_21 : decode cX4_findCosts 21 = .ok (.getfield 18, 3) := by decide +kernel
theorem dX4_findCosts_24 : decode cX4_findCosts 24 = .ok (.iload_n 2, 1) := by decide +kernel
theorem dX4_findCosts_25 : decode cX4_findCosts 25 = .ok (.iaload, 1) := by decide +kernel
theorem dX4_findCosts_26 : decode cX4_findCosts 26 = .ok (.goto 5, 3) := by decide +kernel
theorem dX4_findCosts_29 : decode cX4_findCosts 29 = .ok (.ldc 61, 2) := by decide +kernel
theorem dX4_findCosts_31 : decode cX4_findCosts 31 = .ok (.iastore, 1) := by decide +kernel
theorem dX4_findCosts_32 : decode cX4_findCosts 32 = .ok (.iinc 2 1, 3) := by decide +kernel
theorem dX4_findCosts_35 : decode cX4_findCosts 35 = .ok (.goto (-33), 3) := by decide +kernel
theorem dX4_findCosts_38 : decode cX4_findCosts 38 = .ok (.iconst 0, 1) := by decide +kernel
theorem dX4_findCosts_39 : decode cX4_findCosts 39 = .ok (.istore_n 2, 1) := by decide +kernel
theorem dX4_findCosts_40 : decode cX4_findCosts 40 = .ok (.iload_n 2, 1) := by decide +kernel
theorem dX4_findCosts_41 : decode cX4_findCosts 41 = .ok (.aload_n 0, 1) := by decide +kernel
theorem dX4_findCosts_42 : decode cX4_findCosts 42 = .ok (.getfield 24, 3) := by decide +kernel
theorem dX4_findCosts_45 : decode cX4_findCosts 45 = .ok (.if_icmp .ge 83, 3) := by decide +kernel
theorem dX4_findCosts_48 : decode cX4_findCosts 48 = .ok (.iconst 0, 1) := by decide +kernel
theorem dX4_findCosts_49 : decode cX4_findCosts 49 = .ok (.istore_n 3, 1) := by decide +kernel
theorem dX4_findCosts_50 : decode cX4_findCosts 50 = .ok (.iload_n 3, 1) := by decide +kernel
theorem dX4_findCosts_51 : decode cX4_findCosts 51 = .ok (.aload_n 0, 1) := by decide +kernel
theorem dX4_findCosts_52 : decode cX4_findCosts 52 = .ok (.getfield 24, 3) := by decide +kernel
theorem dX4_findCosts_55 : decode cX4_findCosts 55 = .ok (.if_icmp .ge 67, 3) := by decide +kernel
theorem dX4_findCosts_58 : decode cX4_findCosts 58 = .ok (.iconst 0, 1) := by decide +kernel
theorem dX4_findCosts_59 : decode cX4_findCosts 59 = .ok (.istore 4, 2) := by decide +kernel
theorem dX4_findCosts_61 : decode cX4_findCosts 61 = .ok (.iload 4, 2) := by decide +kernel
theorem dX4_findCosts_63 : decode cX4_findCosts 63 = .ok (.aload_n 0, 1) := by decide +kernel
theorem dX4_findCosts_64 : decode cX4_findCosts 64 = .ok (.getfield 24, 3) := by decide +kernel
theorem dX4_findCosts_67 : decode cX4_findCosts 67 = .ok (.if_icmp .ge 49, 3) := by decide +kernel
theorem dX4_findCosts_70 : decode cX4_findCosts 70 = .ok (.aload_n 0, 1) := by decide +kernel
theorem dX4_findCosts_71 : decode cX4_findCosts 71 = .ok (.iload_n 3, 1) := by decide +kernel
theorem dX4_findCosts_72 : decode cX4_findCosts 72 = .ok (.iload 4, 2) := by decide +kernel
theorem dX4_findCosts_74 : decode cX4_findCosts 74 = .ok (.iload_n 1, 1) := by decide +kernel
theorem dX4_findCosts_75 : decode cX4_findCosts 75 = .ok (.invokevirtual 74, 3) := by decide +kernel
theorem dX4_findCosts_78 : decode cX4_findCosts 78 = .ok (.ifCond .eq 32, 3) := by decide +kernel
theorem dX4_findCosts_81 : decode cX4_findCosts 81 = .ok (.aload_n 0, 1) := by decide +kernel
theorem dX4_findCosts_82 : decode cX4_findCosts 82 = .ok (.getfield 21, 3) := by decide +kernel
theorem dX4_findCosts_85 : decode cX4_findCosts 85 = .ok (.iload_n 3, 1) := by decide +kernel
theorem dX4_findCosts_86 : decode cX4_findCosts 86 = .ok (.aload_n 0, 1) := by decide +kernel
theorem dX4_findCosts_87 : decode cX4_findCosts 87 = .ok (.getfield 21, 3) := by decide +kernel
theorem dX4_findCosts_90 : decode cX4_findCosts 90 = .ok (.iload_n 3, 1) := by decide +kernel
theorem dX4_findCosts_91 : decode cX4_findCosts 91 = .ok (.iaload, 1) := by decide +kernel
theorem dX4_findCosts_92 : decode cX4_findCosts 92 = .ok (.aload_n 0, 1) := by decide +kernel
theorem dX4_findCosts_93 : decode cX4_findCosts 93 = .ok (.getfield 18, 3) := by decide +kernel
theorem dX4_findCosts_96 : decode cX4_findCosts 96 = .ok (.iload_n 3, 1) := by decide +kernel
theorem dX4_findCosts_97 : decode cX4_findCosts 97 = .ok (.iaload, 1) := by decide +kernel
theorem dX4_findCosts_98 : decode cX4_findCosts 98 = .ok (.aload_n 0, 1) := by decide +kernel
theorem dX4_findCosts_99 : decode cX4_findCosts 99 = .ok (.getfield 21, 3) := by decide +kernel
theorem dX4_findCosts_102 : decode cX4_findCosts 102 = .ok (.iload 4, 2) := by decide +kernel
theorem dX4_findCosts_104 : decode cX4_findCosts 104 = .ok (.iaload, 1) := by decide +kernel
theorem dX4_findCosts_105 : decode cX4_findCosts 105 = .ok (.iadd, 1) := by decide +kernel
theorem dX4_findCosts_106 : decode cX4_findCosts 106 = .ok (.invokestatic 78, 3) := by decide +kernel
theorem dX4_findCosts_109 : decode cX4_findCosts 109 = .ok (.iastore, 1) := by decide +kernel
theorem dX4_findCosts_110 : decode cX4_findCosts 110 = .ok (.iinc 4 1, 3) := by decide +kernel
theorem dX4_findCosts_113 : decode cX4_findCosts 113 = .ok (.goto (-52), 3) := by decide +kernel
theorem dX4_findCosts_116 : decode cX4_findCosts 116 = .ok (.iinc 3 1, 3) := by decide +kernel
theorem dX4_findCosts_119 : decode cX4_findCosts 119 = .ok (.goto (-69), 3) := by decide +kernel
theorem dX4_findCosts_122 : decode cX4_findCosts 122 = .ok (.iinc 2 1, 3) := by decide +kernel
theorem dX4_findCosts_125 : decode cX4_findCosts 125 = .ok (.goto (-85), 3) := by decide +kernel
theorem dX4_findCosts_128 : decode cX4_findCosts 128 = .ok (.return_, 1) := by decide +kernel
set_option maxRecDepth 20000 in
theorem ggX4_mayFollow_X6_holds : GoodIn wsX4_mayFollow wsX6_holds := goodIn_r _ [5] (by decide +kernel) (by decide +kernel)
set_option maxRecDepth 20000 in
theorem gX4_mayFollow_X6_holds_n81 : GoodIn wsX4_mayFollow (wsX6_holds) := ggX4_mayFollow_X6_holds
theorem dX4_mayFollow_0 : decode cX4_mayFollow 0 = .ok (.aload_n 0, 1) := by decide +kernel
theorem dX4_mayFollow_1 : decode cX4_mayFollow 1 = .ok (.getfield 15, 3) := by decide +kernel
theorem dX4_mayFollow_4 : decode cX4_mayFollow 4 = .ok (.iload_n 1, 1) := by decide +kernel
theorem dX4_mayFollow_5 : decode cX4_mayFollow 5 = .ok (.iaload, 1) := by decide +kernel
theorem dX4_mayFollow_6 : decode cX4_mayFollow 6 = .ok (.iload_n 2, 1) := by decide +kernel
theorem dX4_mayFollow_7 : decode cX4_mayFollow 7 = .ok (.invokestatic 81, 3) := by decide +kernel
theorem dX4_mayFollow_10 : decode cX4_mayFollow 10 = .ok (.ifCond .eq 23, 3) := by decide +kernel
theorem dX4_mayFollow_13 : decode cX4_mayFollow 13 = .ok (.iload_n 2, 1) := by decide +kernel
theorem dX4_mayFollow_14 : decode cX4_mayFollow 14 = .ok (.iload_n 3, 1) := by decide +kernel
theorem dX4_mayFollow_15 : decode cX4_mayFollow 15 = .ok (.if_icmp .eq 14, 3) := by decide +kernel
theorem dX4_mayFollow_18 : decode cX4_mayFollow 18 = .ok (.aload_n 0, 1) := by decide +kernel
theorem dX4_mayFollow_19 : decode cX4_mayFollow 19 = .ok (.getfield 28, 3) := by decide +kernel
theorem dX4_mayFollow_22 : decode cX4_mayFollow 22 = .ok (.iload_n 2, 1) := by decide +kernel
theorem dX4_mayFollow_23 : decode cX4_mayFollow 23 = .ok (.invokestatic 81, 3) := by decide +kernel
theorem dX4_mayFollow_26 : decode cX4_mayFollow 26 = .ok (.ifCond .eq 7, 3) := by decide +kernel
theorem dX4_mayFollow_29 : decode cX4_mayFollow 29 = .ok (.iconst 1, 1) := by decide +kernel
theorem dX4_mayFollow_30 : decode cX4_mayFollow 30 = .ok (.goto 4, 3) := by decide +kernel
theorem dX4_mayFollow_33 : decode cX4_mayFollow 33 = .ok (.iconst 0, 1) := by decide +kernel
theorem dX4_mayFollow_34 : decode cX4_mayFollow 34 = .ok (.ireturn, 1) := by decide +kernel
set_option maxRecDepth 20000 in
theorem ggX4_nextAfter_X4_mayFollow : GoodIn wsX4_nextAfter wsX4_mayFollow := goodIn_r _ [8, 9, 10, 11, 12, 13, 14, 15, 16, 17, 18, 19] (by decide +kernel) (by decide +kernel)
set_option maxRecDepth 20000 in
theorem gX4_nextAfter_X4_mayFollow : GoodIn wsX4_nextAfter (wsV RX4 74 RX4 yX4_mayFollow wsX4_mayFollow) := goodIn_app (goodIn_of _ (by decide +kernel)) ggX4_nextAfter_X4_mayFollow
theorem dX4_nextAfter_0 : decode cX4_nextAfter 0 = .ok (.iconst 0, 1) := by decide +kernel
theorem dX4_nextAfter_1 : decode cX4_nextAfter 1 = .ok (.istore_n 3, 1) := by decide +kernel
theorem dX4_nextAfter_2 : decode cX4_nextAfter 2 = .ok (.iload_n 3, 1) := by decide +kernel
theorem dX4_nextAfter_3 : decode cX4_nextAfter 3 = .ok (.aload_n 0, 1) := by decide +kernel
theorem dX4_nextAfter_4 : decode cX4_nextAfter 4 = .ok (.getfield 24, 3) := by decide +kernel
theorem dX4_nextAfter_7 : decode cX4_nextAfter 7 = .ok (.if_icmp .ge 43, 3) := by decide +kernel
theorem dX4_nextAfter_10 : decode cX4_nextAfter 10 = .ok (.aload_n 0, 1) := by decide +kernel
theorem dX4_nextAfter_11 : decode cX4_nextAfter 11 = .ok (.iload_n 1, 1) := by decide +kernel
theorem dX4_nextAfter_12 : decode cX4_nextAfter 12 = .ok (.iload_n 3, 1) := by decide +kernel
theorem dX4_nextAfter_13 : decode cX4_nextAfter 13 = .ok (.iload_n 2, 1) := by decide +kernel
theorem dX4_nextAfter_14 : decode cX4_nextAfter 14 = .ok (.invokevirtual 74, 3) := by decide +kernel
theorem dX4_nextAfter_17 : decode cX4_nextAfter 17 = .ok (.ifCond .eq 27, 3) := by decide +kernel
theorem dX4_nextAfter_20 : decode cX4_nextAfter 20 = .ok (.aload_n 0, 1) := by decide +kernel
theorem dX4_nextAfter_21 : decode cX4_nextAfter 21 = .ok (.getfield 21, 3) := by decide +kernel
theorem dX4_nextAfter_24 : decode cX4_nextAfter 24 = .ok (.iload_n 1, 1) := by decide +kernel
theorem dX4_nextAfter_25 : decode cX4_nextAfter 25 = .ok (.iaload, 1) := by decide +kernel
theorem dX4_nextAfter_26 : decode cX4_nextAfter 26 = .ok (.aload_n 0, 1) := by decide +kernel
theorem dX4_nextAfter_27 : decode cX4_nextAfter 27 = .ok (.getfield 18, 3) := by decide +kernel
theorem dX4_nextAfter_30 : decode cX4_nextAfter 30 = .ok (.iload_n 1, 1) := by decide +kernel
theorem dX4_nextAfter_31 : decode cX4_nextAfter 31 = .ok (.iaload, 1) := by decide +kernel
theorem dX4_nextAfter_32 : decode cX4_nextAfter 32 = .ok (.aload_n 0, 1) := by decide +kernel
theorem dX4_nextAfter_33 : decode cX4_nextAfter 33 = .ok (.getfield 21, 3) := by decide +kernel
theorem dX4_nextAfter_36 : decode cX4_nextAfter 36 = .ok (.iload_n 3, 1) := by decide +kernel
theorem dX4_nextAfter_37 : decode cX4_nextAfter 37 = .ok (.iaload, 1) := by decide +kernel
theorem dX4_nextAfter_38 : decode cX4_nextAfter 38 = .ok (.iadd, 1) := by decide +kernel
theorem dX4_nextAfter_39 : decode cX4_nextAfter 39 = .ok (.if_icmp .ne 5, 3) := by decide +kernel
theorem dX4_nextAfter_42 : decode cX4_nextAfter 42 = .ok (.iload_n 3, 1) := by decide +kernel
theorem dX4_nextAfter_43 : decode cX4_nextAfter 43 = .ok (.ireturn, 1) := by decide +kernel
theorem dX4_nextAfter_44 : decode cX4_nextAfter 44 = .ok (.iinc 3 1, 3) := by decide +kernel
theorem dX4_nextAfter_47 : decode cX4_nextAfter 47 = .ok (.goto (-45), 3) := by decide +kernel
theorem dX4_nextAfter_50 : decode cX4_nextAfter 50 = .ok (.iload_n 2, 1) := by decide +kernel
theorem dX4_nextAfter_51 : decode cX4_nextAfter 51 = .ok (.ireturn, 1) := by decide +kernel
set_option maxRecDepth 20000 in
theorem ggX4_join_X4_reached : GoodIn wsX4_join wsX4_reached := goodIn_r _ [5, 6, 7, 8, 9, 10, 11, 12, 13, 14, 15, 16] (by decide +kernel) (by decide +kernel)
set_option maxRecDepth 20000 in
theorem gX4_join_X4_reached : GoodIn wsX4_join (wsV RX4 85 RX4 yX4_reached wsX4_reached) := goodIn_app (goodIn_of _ (by decide +kernel)) ggX4_join_X4_reached
set_option maxRecDepth 20000 in
theorem ggX4_join_X6_holds : GoodIn wsX4_join wsX6_holds := goodIn_r _ [10] (by decide +kernel) (by decide +kernel)
set_option maxRecDepth 20000 in
theorem gX4_join_X6_holds_n81 : GoodIn wsX4_join (wsX6_holds) := ggX4_join_X6_holds
theorem dX4_join_0 : decode cX4_join 0 = .ok (.aload_n 0, 1) := by decide +kernel
theorem dX4_join_1 : decode cX4_join 1 = .ok (.iload_n 1, 1) := by decide +kernel
theorem dX4_join_2 : decode cX4_join 2 = .ok (.iload_n 3, 1) := by decide +kernel
theorem dX4_join_3 : decode cX4_join 3 = .ok (.invokevirtual 85, 3) := by decide +kernel
theorem dX4_join_6 : decode cX4_join 6 = .ok (.iload_n 2, 1) := by decide +kernel
theorem dX4_join_7 : decode cX4_join 7 = .ok (.invokestatic 81, 3) := by decide +kernel
theorem dX4_join_10 : decode cX4_join 10 = .ok (.ireturn, 1) := by decide +kernel
set_option maxRecDepth 20000 in
theorem ggX4_reached_X6_holds : GoodIn wsX4_reached wsX6_holds := goodIn_r _ [5] (by decide +kernel) (by decide +kernel)
set_option maxRecDepth 20000 in
theorem gX4_reached_X6_holds_n81 : GoodIn wsX4_reached (wsX6_holds) := ggX4_reached_X6_holds
theorem dX4_reached_0 : decode cX4_reached 0 = .ok (.iconst 1, 1) := by decide +kernel
theorem dX4_reached_1 : decode cX4_reached 1 = .ok (.iload_n 1, 1) := by decide +kernel
theorem dX4_reached_2 : decode cX4_reached 2 = .ok (.ishl, 1) := by decide +kernel
theorem dX4_reached_3 : decode cX4_reached 3 = .ok (.istore_n 3, 1) := by decide +kernel
theorem dX4_reached_4 : decode cX4_reached 4 = .ok (.iconst 0, 1) := by decide +kernel
theorem dX4_reached_5 : decode cX4_reached 5 = .ok (.istore 4, 2) := by decide +kernel
theorem dX4_reached_7 : decode cX4_reached 7 = .ok (.iload 4, 2) := by decide +kernel
theorem dX4_reached_9 : decode cX4_reached 9 = .ok (.aload_n 0, 1) := by decide +kernel
theorem dX4_reached_10 : decode cX4_reached 10 = .ok (.getfield 24, 3) := by decide +kernel
theorem dX4_reached_13 : decode cX4_reached 13 = .ok (.if_icmp .ge 54, 3) := by decide +kernel
theorem dX4_reached_16 : decode cX4_reached 16 = .ok (.iconst 0, 1) := by decide +kernel
theorem dX4_reached_17 : decode cX4_reached 17 = .ok (.istore 5, 2) := by decide +kernel
theorem dX4_reached_19 : decode cX4_reached 19 = .ok (.iload 5, 2) := by decide +kernel
theorem dX4_reached_21 : decode cX4_reached 21 = .ok (.aload_n 0, 1) := by decide +kernel
theorem dX4_reached_22 : decode cX4_reached 22 = .ok (.getfield 24, 3) := by decide +kernel
theorem dX4_reached_25 : decode cX4_reached 25 = .ok (.if_icmp .ge 36, 3) := by decide +kernel
theorem dX4_reached_28 : decode cX4_reached 28 = .ok (.iload 5, 2) := by decide +kernel
theorem dX4_reached_30 : decode cX4_reached 30 = .ok (.iload_n 1, 1) := by decide +kernel
theorem dX4_reached_31 : decode cX4_reached 31 = .ok (.if_icmp .eq 14, 3) := by decide +kernel
theorem dX4_reached_34 : decode cX4_reached 34 = .ok (.iload_n 3, 1) := by decide +kernel
theorem dX4_reached_35 : decode cX4_reached 35 = .ok (.iload_n 2, 1) := by decide +kernel
theorem dX4_reached_36 : decode cX4_reached 36 = .ok (.iand, 1) := by decide +kernel
theorem dX4_reached_37 : decode cX4_reached 37 = .ok (.iload 5, 2) := by decide +kernel
theorem dX4_reached_39 : decode cX4_reached 39 = .ok (.invokestatic 81, 3) := by decide +kernel
theorem dX4_reached_42 : decode cX4_reached 42 = .ok (.ifCond .eq 13, 3) := by decide +kernel
theorem dX4_reached_45 : decode cX4_reached 45 = .ok (.iload_n 3, 1) := by decide +kernel
theorem dX4_reached_46 : decode cX4_reached 46 = .ok (.aload_n 0, 1) := by decide +kernel
theorem dX4_reached_47 : decode cX4_reached 47 = .ok (.getfield 15, 3) := by decide +kernel
theorem dX4_reached_50 : decode cX4_reached 50 = .ok (.iload 5, 2) := by decide +kernel
theorem dX4_reached_52 : decode cX4_reached 52 = .ok (.iaload, 1) := by decide +kernel
theorem dX4_reached_53 : decode cX4_reached 53 = .ok (.ior, 1) := by decide +kernel
theorem dX4_reached_54 : decode cX4_reached 54 = .ok (.istore_n 3, 1) := by decide +kernel
theorem dX4_reached_55 : decode cX4_reached 55 = .ok (.iinc 5 1, 3) := by decide +kernel
theorem dX4_reached_58 : decode cX4_reached 58 = .ok (.goto (-39), 3) := by decide +kernel
theorem dX4_reached_61 : decode cX4_reached 61 = .ok (.iinc 4 1, 3) := by decide +kernel
theorem dX4_reached_64 : decode cX4_reached 64 = .ok (.goto (-57), 3) := by decide +kernel
theorem dX4_reached_67 : decode cX4_reached 67 = .ok (.iload_n 3, 1) := by decide +kernel
theorem dX4_reached_68 : decode cX4_reached 68 = .ok (.ireturn, 1) := by decide +kernel
set_option maxRecDepth 20000 in
theorem ggX4_notToBeMissed_X6_holds : GoodIn wsX4_notToBeMissed wsX6_holds := goodIn_r _ [5] (by decide +kernel) (by decide +kernel)
set_option maxRecDepth 20000 in
theorem gX4_notToBeMissed_X6_holds_n81 : GoodIn wsX4_notToBeMissed (wsX6_holds) := ggX4_notToBeMissed_X6_holds
set_option maxRecDepth 20000 in
theorem ggX4_notToBeMissed_X4_join : GoodIn wsX4_notToBeMissed wsX4_join := goodIn_r _ [10, 11, 12, 13, 9, 14, 1, 15, 3, 4, 5, 16, 17, 18, 19, 20, 21] (by decide +kernel) (by decide +kernel)
set_option maxRecDepth 20000 in
theorem gX4_notToBeMissed_X4_join : GoodIn wsX4_notToBeMissed (wsV RX4 88 RX4 yX4_join wsX4_join) := goodIn_app (goodIn_of _ (by decide +kernel)) ggX4_notToBeMissed_X4_join
theorem dX4_notToBeMissed_0 : decode cX4_notToBeMissed 0 = .ok (.iconst 0, 1) := by decide +kernel
theorem dX4_notToBeMissed_1 : decode cX4_notToBeMissed 1 = .ok (.istore_n 3, 1) := by decide +kernel
theorem dX4_notToBeMissed_2 : decode cX4_notToBeMissed 2 = .ok (.iconst 0, 1) := by decide +kernel
theorem dX4_notToBeMissed_3 : decode cX4_notToBeMissed 3 = .ok (.istore 4, 2) := by decide +kernel
theorem dX4_notToBeMissed_5 : decode cX4_notToBeMissed 5 = .ok (.iload 4, 2) := by decide +kernel
theorem dX4_notToBeMissed_7 : decode cX4_notToBeMissed 7 = .ok (.aload_n 0, 1) := by decide +kernel
theorem dX4_notToBeMissed_8 : decode cX4_notToBeMissed 8 = .ok (.getfield 24, 3) := by decide +kernel
theorem dX4_notToBeMissed_11 : decode cX4_notToBeMissed 11 = .ok (.if_icmp .ge 72, 3) := by decide +kernel
theorem dX4_notToBeMissed_14 : decode cX4_notToBeMissed 14 = .ok (.iload 4, 2) := by decide +kernel
theorem dX4_notToBeMissed_16 : decode cX4_notToBeMissed 16 = .ok (.iload_n 1, 1) := by decide +kernel
theorem dX4_notToBeMissed_17 : decode cX4_notToBeMissed 17 = .ok (.if_icmp .eq 25, 3) := by decide +kernel
theorem dX4_notToBeMissed_20 : decode cX4_notToBeMissed 20 = .ok (.iload 4, 2) := by decide +kernel
theorem dX4_notToBeMissed_22 : decode cX4_notToBeMissed 22 = .ok (.iload_n 2, 1) := by decide +kernel
theorem dX4_notToBeMissed_23 : decode cX4_notToBeMissed 23 = .ok (.if_icmp .eq 19, 3) := by decide +kernel
theorem dX4_notToBeMissed_26 : decode cX4_notToBeMissed 26 = .ok (.aload_n 0, 1) := by decide +kernel
theorem dX4_notToBeMissed_27 : decode cX4_notToBeMissed 27 = .ok (.getfield 28, 3) := by decide +kernel
theorem dX4_notToBeMissed_30 : decode cX4_notToBeMissed 30 = .ok (.iload 4, 2) := by decide +kernel
theorem dX4_notToBeMissed_32 : decode cX4_notToBeMissed 32 = .ok (.invokestatic 81, 3) := by decide +kernel
theorem dX4_notToBeMissed_35 : decode cX4_notToBeMissed 35 = .ok (.ifCond .eq 7, 3) := by decide +kernel
theorem dX4_notToBeMissed_38 : decode cX4_notToBeMissed 38 = .ok (.iconst 1, 1) := by decide +kernel
theorem dX4_notToBeMissed_39 : decode cX4_notToBeMissed 39 = .ok (.goto 4, 3) := by decide +kernel
theorem dX4_notToBeMissed_42 : decode cX4_notToBeMissed 42 = .ok (.iconst 0, 1) := by decide +kernel
theorem dX4_notToBeMissed_43 : decode cX4_notToBeMissed 43 = .ok (.istore 5, 2) := by decide +kernel
theorem dX4_notToBeMissed_45 : decode cX4_notToBeMissed 45 = .ok (.iload 5, 2) := by decide +kernel
theorem dX4_notToBeMissed_47 : decode cX4_notToBeMissed 47 = .ok (.ifCond .eq 30, 3) := by decide +kernel
theorem dX4_notToBeMissed_50 : decode cX4_notToBeMissed 50 = .ok (.aload_n 0, 1) := by decide +kernel
theorem dX4_notToBeMissed_51 : decode cX4_notToBeMissed 51 = .ok (.iload_n 1, 1) := by decide +kernel
theorem dX4_notToBeMissed_52 : decode cX4_notToBeMissed 52 = .ok (.iload_n 2, 1) := by decide +kernel
theorem dX4_notToBeMissed_53 : decode cX4_notToBeMissed 53 = .ok (.aload_n 0, 1) := by decide +kernel
theorem dX4_notToBeMissed_54 : decode cX4_notToBeMissed 54 = .ok (.getfield 28, 3) := by decide +kernel
theorem dX4_notToBeMissed_57 : decode cX4_notToBeMissed 57 = .ok (.iconst 1, 1) := by decide +kernel
theorem dX4_notToBeMissed_58 : decode cX4_notToBeMissed 58 = .ok (.iload 4, 2) := by decide +kernel
theorem dX4_notToBeMissed_60 : decode cX4_notToBeMissed 60 = .ok (.ishl, 1) := by decide +kernel
theorem dX4_notToBeMissed_61 : decode cX4_notToBeMissed 61 = .ok (.iconst (-1), 1) := by decide +kernel
theorem dX4_notToBeMissed_62 : decode cX4_notToBeMissed 62 = .ok (.ixor, 1) := by decide +kernel
theorem dX4_notToBeMissed_63 : decode cX4_notToBeMissed 63 = .ok (.iand, 1) := by decide +kernel
theorem dX4_notToBeMissed_64 : decode cX4_notToBeMissed 64 = .ok (.invokevirtual 88, 3) := by decide +kernel
theorem dX4_notToBeMissed_67 : decode cX4_notToBeMissed 67 = .ok (.ifCond .ne 10, 3) := by decide +kernel
theorem dX4_notToBeMissed_70 : decode cX4_notToBeMissed 70 = .ok (.iload_n 3, 1) := by decide +kernel
theorem dX4_notToBeMissed_71 : decode cX4_notToBeMissed 71 = .ok (.iconst 1, 1) := by decide +kernel
theorem dX4_notToBeMissed_72 : decode cX4_notToBeMissed 72 = .ok (.iload 4, 2) := by decide +kernel
theorem dX4_notToBeMissed_74 : decode cX4_notToBeMissed 74 = .ok (.ishl, 1) := by decide +kernel
theorem dX4_notToBeMissed_75 : decode cX4_notToBeMissed 75 = .ok (.ior, 1) := by decide +kernel
theorem dX4_notToBeMissed_76 : decode cX4_notToBeMissed 76 = .ok (.istore_n 3, 1) := by decide +kernel
theorem dX4_notToBeMissed_77 : decode cX4_notToBeMissed 77 = .ok (.iinc 4 1, 3) := by decide +kernel
theorem dX4_notToBeMissed_80 : decode cX4_notToBeMissed 80 = .ok (.goto (-75), 3) := by decide +kernel
theorem dX4_notToBeMissed_83 : decode cX4_notToBeMissed 83 = .ok (.iload_n 3, 1) := by decide +kernel
theorem dX4_notToBeMissed_84 : decode cX4_notToBeMissed 84 = .ok (.ireturn, 1) := by decide +kernel
set_option maxRecDepth 20000 in
theorem ggX4_countGroups_X6_holds : GoodIn wsX4_countGroups wsX6_holds := goodIn_r _ [4] (by decide +kernel) (by decide +kernel)
set_option maxRecDepth 20000 in
theorem gX4_countGroups_X6_holds_n81 : GoodIn wsX4_countGroups (wsX6_holds) := ggX4_countGroups_X6_holds
set_option maxRecDepth 20000 in
theorem ggX4_countGroups_X4_reached : GoodIn wsX4_countGroups wsX4_reached := goodIn_r _ [9, 1, 10, 2, 3, 4, 11, 12, 13, 14, 15, 16] (by decide +kernel) (by decide +kernel)
set_option maxRecDepth 20000 in
theorem gX4_countGroups_X4_reached : GoodIn wsX4_countGroups (wsV RX4 85 RX4 yX4_reached wsX4_reached) := goodIn_app (goodIn_of _ (by decide +kernel)) ggX4_countGroups_X4_reached
theorem dX4_countGroups_0 : decode cX4_countGroups 0 = .ok (.iconst 1, 1) := by decide +kernel
theorem dX4_countGroups_1 : decode cX4_countGroups 1 = .ok (.aload_n 0, 1) := by decide +kernel
theorem dX4_countGroups_2 : decode cX4_countGroups 2 = .ok (.getfield 24, 3) := by decide +kernel
theorem dX4_countGroups_5 : decode cX4_countGroups 5 = .ok (.ishl, 1) := by decide +kernel
theorem dX4_countGroups_6 : decode cX4_countGroups 6 = .ok (.iconst 1, 1) := by decide +kernel
theorem dX4_countGroups_7 : decode cX4_countGroups 7 = .ok (.isub, 1) := by decide +kernel
theorem dX4_countGroups_8 : decode cX4_countGroups 8 = .ok (.istore_n 1, 1) := by decide +kernel
theorem dX4_countGroups_9 : decode cX4_countGroups 9 = .ok (.iconst 0, 1) := by decide +kernel
theorem dX4_countGroups_10 : decode cX4_countGroups 10 = .ok (.istore_n 2, 1) := by decide +kernel
theorem dX4_countGroups_11 : decode cX4_countGroups 11 = .ok (.iconst 0, 1) := by decide +kernel
theorem dX4_countGroups_12 : decode cX4_countGroups 12 = .ok (.istore_n 3, 1) := by decide +kernel
theorem dX4_countGroups_13 : decode cX4_countGroups 13 = .ok (.iconst 0, 1) := by decide +kernel
theorem dX4_countGroups_14 : decode cX4_countGroups 14 = .ok (.istore 4, 2) := by decide +kernel
theorem dX4_countGroups_16 : decode cX4_countGroups 16 = .ok (.iload 4, 2) := by decide +kernel
theorem dX4_countGroups_18 : decode cX4_countGroups 18 = .ok (.aload_n 0, 1) := by decide +kernel
theorem dX4_countGroups_19 : decode cX4_countGroups 19 = .ok (.getfield 24, 3) := by decide +kernel
theorem dX4_countGroups_22 : decode cX4_countGroups 22 = .ok (.if_icmp .ge 31, 3) := by decide +kernel
theorem dX4_countGroups_25 : decode cX4_countGroups 25 = .ok (.iload_n 2, 1) := by decide +kernel
theorem dX4_countGroups_26 : decode cX4_countGroups 26 = .ok (.iload 4, 2) := by decide +kernel
theorem dX4_countGroups_28 : decode cX4_countGroups 28 = .ok (.invokestatic 81, 3) := by decide +kernel
theorem dX4_countGroups_31 : decode cX4_countGroups 31 = .ok (.ifCond .ne 16, 3) := by decide +kernel
theorem dX4_countGroups_34 : decode cX4_countGroups 34 = .ok (.iload_n 2, 1) := by decide +kernel
theorem dX4_countGroups_35 : decode cX4_countGroups 35 = .ok (.aload_n 0, 1) := by decide +kernel
theorem dX4_countGroups_36 : decode cX4_countGroups 36 = .ok (.iload 4, 2) := by decide +kernel
theorem dX4_countGroups_38 : decode cX4_countGroups 38 = .ok (.iload_n 1, 1) := by decide +kernel
theorem dX4_countGroups_39 : decode cX4_countGroups 39 = .ok (.invokevirtual 85, 3) := by decide +kernel
theorem dX4_countGroups_42 : decode cX4_countGroups 42 = .ok (.ior, 1) := by decide +kernel
theorem dX4_countGroups_43 : decode cX4_countGroups 43 = .ok (.istore_n 2, 1) := by decide +kernel
theorem dX4_countGroups_44 : decode cX4_countGroups 44 = .ok (.iinc 3 1, 3) := by decide +kernel
theorem dX4_countGroups_47 : decode cX4_countGroups 47 = .ok (.iinc 4 1, 3) := by decide +kernel
theorem dX4_countGroups_50 : decode cX4_countGroups 50 = .ok (.goto (-34), 3) := by decide +kernel
theorem dX4_countGroups_53 : decode cX4_countGroups 53 = .ok (.iload_n 3, 1) := by decide +kernel
theorem dX4_countGroups_54 : decode cX4_countGroups 54 = .ok (.ireturn, 1) := by decide +kernel
theorem dX5_init_0 : decode cX5_init 0 = .ok (.aload_n 0, 1) := by decide +kernel
theorem dX5_init_1 : decode cX5_init 1 = .ok (.invokespecial 3, 3) := by decide +kernel
theorem dX5_init_4 : decode cX5_init 4 = .ok (.aload_n 0, 1) := by decide +kernel
theorem dX5_init_5 : decode cX5_init 5 = .ok (.bipush 120, 2) := by decide +kernel
theorem dX5_init_7 : decode cX5_init 7 = .ok (.newarray .byte, 2) := by decide +kernel
theorem dX5_init_9 : decode cX5_init 9 = .ok (.putfield 9, 3) := by decide +kernel
theorem dX5_init_12 : decode cX5_init 12 = .ok (.aload_n 0, 1) := by decide +kernel
theorem dX5_init_13 : decode cX5_init 13 = .ok (.iconst 0, 1) := by decide +kernel
theorem dX5_init_14 : decode cX5_init 14 = .ok (.putfield 15, 3) := by decide +kernel
theorem dX5_init_17 : decode cX5_init 17 = .ok (.aload_n 0, 1) := by decide +kernel
theorem dX5_init_18 : decode cX5_init 18 = .ok (.iconst 0, 1) := by decide +kernel
theorem dX5_init_19 : decode cX5_init 19 = .ok (.putfield 19, 3) := by decide +kernel
theorem dX5_init_22 : decode cX5_init 22 = .ok (.aload_n 0, 1) := by decide +kernel
theorem dX5_init_23 : decode cX5_init 23 = .ok (.iconst (-1), 1) := by decide +kernel
theorem dX5_init_24 : decode cX5_init 24 = .ok (.putfield 22, 3) := by decide +kernel
theorem dX5_init_27 : decode cX5_init 27 = .ok (.return_, 1) := by decide +kernel
theorem dX5_append_0 : decode cX5_append 0 = .ok (.aload_n 0, 1) := by decide +kernel
theorem dX5_append_1 : decode cX5_append 1 = .ok (.getfield 15, 3) := by decide +kernel
theorem dX5_append_4 : decode cX5_append 4 = .ok (.bipush 120, 2) := by decide +kernel
theorem dX5_append_6 : decode cX5_append 6 = .ok (.if_icmp .lt 5, 3) := by decide +kernel
theorem dX5_append_9 : decode cX5_append 9 = .ok (.iconst 0, 1) := by decide +kernel
theorem dX5_append_10 : decode cX5_append 10 = .ok (.ireturn, 1) := by decide +kernel
theorem dX5_append_11 : decode cX5_append 11 = .ok (.aload_n 0, 1) := by decide +kernel
theorem dX5_append_12 : decode cX5_append 12 = .ok (.getfield 9, 3) := by decide +kernel
theorem dX5_append_15 : decode cX5_append 15 = .ok (.aload_n 0, 1) := by decide +kernel
theorem dX5_append_16 : decode cX5_append 16 = .ok (.getfield 15, 3) := by decide +kernel
theorem dX5_append_19 : decode cX5_append 19 = .ok (.iload_n 1, 1) := by decide +kernel
theorem dX5_append_20 : decode cX5_append 20 = .ok (.i2b, 1) := by decide +kernel
theorem dX5_append_21 : decode cX5_append 21 = .ok (.bastore, 1) := by decide +kernel
theorem dX5_append_22 : decode cX5_append 22 = .ok (.aload_n 0, 1) := by decide +kernel
theorem dX5_append_23 : decode cX5_append 23 = .ok (.dup, 1) := by decide +kernel
theorem dX5_append_24 : decode cX5_append 24 = .ok (.getfield 15, 3) := by decide +kernel
theorem dX5_append_27 : decode cX5_append 27 = .ok (.iconst 1, 1) := by decide +kernel
theorem dX5_append_28 : decode cX5_append 28 = .ok (.iadd, 1) := by decide +kernel
theorem dX5_append_29 : decode cX5_append 29 = .ok (.putfield 15, 3) := by decide +kernel
theorem dX5_append_32 : decode cX5_append 32 = .ok (.iconst 1, 1) := by decide +kernel
theorem dX5_append_33 : decode cX5_append 33 = .ok (.ireturn, 1) := by decide +kernel
set_option maxRecDepth 20000 in
theorem ggX5_read_X3_clear : GoodIn wsX5_read wsX3_clear := goodIn_r _ [8, 9, 46, 47, 48, 49, 50] (by decide +kernel) (by decide +kernel)
set_option maxRecDepth 20000 in
theorem gX5_read_X3_clear : GoodIn wsX5_read (wsV RX5 25 RX3 yX3_clear wsX3_clear) := goodIn_app (goodIn_of _ (by decide +kernel)) ggX5_read_X3_clear
set_option maxRecDepth 20000 in
theorem ggX5_read_X5_skipBlanks : GoodIn wsX5_read wsX5_skipBlanks := goodIn_r _ [14, 1, 3, 15, 16, 17, 13, 18, 19, 42, 43, 44, 45] (by decide +kernel) (by decide +kernel)
set_option maxRecDepth 20000 in
theorem gX5_read_X5_skipBlanks : GoodIn wsX5_read (wsV RX5 30 RX5 yX5_skipBlanks wsX5_skipBlanks) := goodIn_app (goodIn_of _ (by decide +kernel)) ggX5_read_X5_skipBlanks
set_option maxRecDepth 20000 in
theorem ggX5_read_X5_readStations : GoodIn wsX5_read wsX5_readStations := goodIn_r _ [23, 24, 2, 25, 26, 27, 13, 28, 1, 15, 16, 17, 18, 3, 19, 29, 30, 31, 10, 11, 12, 14, 32, 33, 34, 35, 36, 37, 38, 7, 39, 9, 40, 41, 46, 47, 48, 49, 50, 42, 43, 44, 45] (by decide +kernel) (by decide +kernel)
set_option maxRecDepth 20000 in
theorem gX5_read_X5_readStations : GoodIn wsX5_read (wsV RX5 33 RX5 yX5_readStations wsX5_readStations) := goodIn_app (goodIn_of _ (by decide +kernel)) ggX5_read_X5_readStations
set_option maxRecDepth 20000 in
theorem ggX5_read_X5_accept : GoodIn wsX5_read wsX5_accept := goodIn_r _ [35, 1, 15, 16, 17, 13, 18, 3, 19, 10, 11, 12, 14, 42, 43, 44, 45] (by decide +kernel) (by decide +kernel)
set_option maxRecDepth 20000 in
theorem gX5_read_X5_accept : GoodIn wsX5_read (wsV RX5 37 RX5 yX5_accept wsX5_accept) := goodIn_app (goodIn_of _ (by decide +kernel)) ggX5_read_X5_accept
theorem dX5_read_0 : decode cX5_read 0 = .ok (.aload_n 1, 1) := by decide +kernel
theorem dX5_read_1 : decode cX5_read 1 = .ok (.invokevirtual 25, 3) := by decide +kernel
theorem dX5_read_4 : decode cX5_read 4 = .ok (.aload_n 0, 1) := by decide +kernel
theorem dX5_read_5 : decode cX5_read 5 = .ok (.iconst 0, 1) := by decide +kernel
theorem dX5_read_6 : decode cX5_read 6 = .ok (.putfield 19, 3) := by decide +kernel
theorem dX5_read_9 : decode cX5_read 9 = .ok (.aload_n 0, 1) := by decide +kernel
theorem dX5_read_10 : decode cX5_read 10 = .ok (.iconst (-1), 1) := by decide +kernel
theorem dX5_read_11 : decode cX5_read 11 = .ok (.putfield 22, 3) := by decide +kernel
theorem dX5_read_14 : decode cX5_read 14 = .ok (.aload_n 0, 1) := by decide +kernel
theorem dX5_read_15 : decode cX5_read 15 = .ok (.invokevirtual 30, 3) := by decide +kernel
theorem dX5_read_18 : decode cX5_read 18 = .ok (.iconst 0, 1) := by decide +kernel
theorem dX5_read_19 : decode cX5_read 19 = .ok (.istore_n 2, 1) := by decide +kernel
theorem dX5_read_20 : decode cX5_read 20 = .ok (.iload_n 2, 1) := by decide +kernel
theorem dX5_read_21 : decode cX5_read 21 = .ok (.bipush 120, 2) := by decide +kernel
theorem dX5_read_23 : decode cX5_read 23 = .ok (.if_icmp .ge 67, 3) := by decide +kernel
theorem dX5_read_26 : decode cX5_read 26 = .ok (.aload_n 0, 1) := by decide +kernel
theorem dX5_read_27 : decode cX5_read 27 = .ok (.getfield 22, 3) := by decide +kernel
theorem dX5_read_30 : decode cX5_read 30 = .ok (.iconst (-1), 1) := by decide +kernel
theorem dX5_read_31 : decode cX5_read 31 = .ok (.if_icmp .ne 59, 3) := by decide +kernel
theorem dX5_read_34 : decode cX5_read 34 = .ok (.aload_n 0, 1) := by decide +kernel
theorem dX5_read_35 : decode cX5_read 35 = .ok (.aload_n 1, 1) := by decide +kernel
theorem dX5_read_36 : decode cX5_read 36 = .ok (.invokevirtual 33, 3) := by decide +kernel
theorem dX5_read_39 : decode cX5_read 39 = .ok (.iload_n 2, 1) := by decide +kernel
theorem dX5_read_40 : decode cX5_read 40 = .ok (.ifCond .le 19, 3) := by decide +kernel
theorem dX5_read_43 : decode cX5_read 43 = .ok (.aload_n 0, 1) := by decide +kernel
theorem dX5_read_44 : decode cX5_read 44 = .ok (.getfield 19, 3) := by decide +kernel
theorem dX5_read_47 : decode cX5_read 47 = .ok (.aload_n 0, 1) := by decide +kernel
theorem dX5_read_48 : decode cX5_read 48 = .ok (.getfield 15, 3) := by decide +kernel
theorem dX5_read_51 : decode cX5_read 51 = .ok (.if_icmp .ne 8, 3) := by decide +kernel
theorem dX5_read_54 : decode cX5_read 54 = .ok (.aload_n 0, 1) := by decide +kernel
theorem dX5_read_55 : decode cX5_read 55 = .ok (.getfield 22, 3) := by decide +kernel
theorem dX5_read_58 : decode cX5_read 58 = .ok (.ireturn, 1) := by decide +kernel
theorem dX5_read_59 : decode cX5_read 59 = .ok (.aload_n 0, 1) := by decide +kernel
theorem dX5_read_60 : decode cX5_read 60 = .ok (.getfield 22, 3) := by decide +kernel
theorem dX5_read_63 : decode cX5_read 63 = .ok (.iconst (-1), 1) := by decide +kernel
theorem dX5_read_64 : decode cX5_read 64 = .ok (.if_icmp .ne 20, 3) := by decide +kernel
theorem dX5_read_67 : decode cX5_read 67 = .ok (.aload_n 0, 1) := by decide +kernel
theorem dX5_read_68 : decode cX5_read 68 = .ok (.bipush 44, 2) := by decide +kernel
theorem dX5_read_70 : decode cX5_read 70 = .ok (.invokevirtual 37, 3) := by decide +kernel
theorem dX5_read_73 : decode cX5_read 73 = .ok (.ifCond .ne 11, 3) := by decide +kernel
theorem dX5_read_76 : decode cX5_read 76 = .ok (.aload_n 0, 1) := by decide +kernel
theorem dX5_read_77 : decode cX5_read 77 = .ok (.aload_n 0, 1) := by decide +kernel
theorem dX5_read_78 : decode cX5_read 78 = .ok (.getfield 19, 3) := by decide +kernel
theorem dX5_read_81 : decode cX5_read 81 = .ok (.putfield 22, 3) := by decide +kernel
theorem dX5_read_84 : decode cX5_read 84 = .ok (.iinc 2 1, 3) := by decide +kernel
theorem dX5_read_87 : decode cX5_read 87 = .ok (.goto (-67), 3) := by decide +kernel
theorem dX5_read_90 : decode cX5_read 90 = .ok (.aload_n 0, 1) := by decide +kernel
theorem dX5_read_91 : decode cX5_read 91 = .ok (.getfield 22, 3) := by decide +kernel
theorem dX5_read_94 : decode cX5_read 94 = .ok (.ireturn, 1) := by decide +kernel
set_option maxRecDepth 20000 in
theorem ggX5_readStations_X5_readNumber : GoodIn wsX5_readStations wsX5_readNumber := goodIn_r _ [7, 8, 2, 9, 10, 11, 6, 12, 13, 14, 15, 16, 17, 18, 19, 20, 21, 39, 40, 41, 42] (by decide +kernel) (by decide +kernel)
set_option maxRecDepth 20000 in
theorem gX5_readStations_X5_readNumber : GoodIn wsX5_readStations (wsV RX5 44 RX5 yX5_readNumber wsX5_readNumber) := goodIn_app (goodIn_of _ (by decide +kernel)) ggX5_readStations_X5_readNumber
set_option maxRecDepth 20000 in
theorem ggX5_readStations_X5_accept : GoodIn wsX5_readStations wsX5_accept := goodIn_r _ [25, 8, 9, 10, 11, 6, 12, 13, 14, 18, 19, 20, 21, 39, 40, 41, 42] (by decide +kernel) (by decide +kernel)
set_option maxRecDepth 20000 in
theorem gX5_readStations_X5_accept : GoodIn wsX5_readStations (wsV RX5 37 RX5 yX5_accept wsX5_accept) := goodIn_app (goodIn_of _ (by decide +kernel)) ggX5_readStations_X5_accept
set_option maxRecDepth 20000 in
theorem ggX5_readStations_X3_append : GoodIn wsX5_readStations wsX3_append := goodIn_r _ [30, 31, 32, 33, 34, 35, 36, 37, 38] (by decide +kernel) (by decide +kernel)
set_option maxRecDepth 20000 in
theorem gX5_readStations_X3_append : GoodIn wsX5_readStations (wsV RX5 48 RX3 yX3_append wsX3_append) := goodIn_app (goodIn_of _ (by decide +kernel)) ggX5_readStations_X3_append
theorem dX5_readStations_0 : decode cX5_readStations 0 = .ok (.bipush 20, 2) := by decide +kernel
theorem dX5_readStations_2 : decode cX5_readStations 2 = .ok (.aload_n 1, 1) := by decide +kernel
theorem dX5_readStations_3 : decode cX5_readStations 3 = .ok (.getfield 41, 3) := by decide +kernel
theorem dX5_readStations_6 : decode cX5_readStations 6 = .ok (.isub, 1) := by decide +kernel
theorem dX5_readStations_7 : decode cX5_readStations 7 = .ok (.istore_n 2, 1) := by decide +kernel
theorem dX5_readStations_8 : decode cX5_readStations 8 = .ok (.aload_n 0, 1) := by decide +kernel
theorem dX5_readStations_9 : decode cX5_readStations 9 = .ok (.iconst 0, 1) := by decide +kernel
theorem dX5_readStations_10 : decode cX5_readStations 10 = .ok (.iload_n 2, 1) := by decide +kernel
theorem dX5_readStations_11 : decode cX5_readStations 11 = .ok (.ifCond .le 9, 3) := by decide +kernel
theorem dX5_readStations_14 : decode cX5_readStations 14 = .ok (.sipush 999, 3) := by decide +kernel
theorem dX5_readStations_17 : decode cX5_readStations 17 = .ok (.goto 4, 3) := by decide +kernel
theorem dX5_readStations_20 : decode cX5_readStations 20 = .ok (.iconst (-1), 1) := by decide +kernel
theorem dX5_readStations_21 : decode cX5_readStations 21 = .ok (.invokevirtual 44, 3) := by decide +kernel
theorem dX5_readStations_24 : decode cX5_readStations 24 = .ok (.istore_n 3, 1) := by decide +kernel
theorem dX5_readStations_25 : decode cX5_readStations 25 = .ok (.aload_n 0, 1) := by decide +kernel
theorem dX5_readStations_26 : decode cX5_readStations 26 = .ok (.bipush 42, 2) := by decide +kernel
theorem dX5_readStations_28 : decode cX5_readStations 28 = .ok (.invokevirtual 37, 3) := by decide +kernel
theorem dX5_readStations_31 : decode cX5_readStations 31 = .ok (.ifCond .eq 12, 3) := by decide +kernel
theorem dX5_readStations_34 : decode cX5_readStations 34 = .ok (.aload_n 0, 1) := by decide +kernel
theorem dX5_readStations_35 : decode cX5_readStations 35 = .ok (.iconst 1, 1) := by decide +kernel
theorem dX5_readStations_36 : decode cX5_readStations 36 = .ok (.iload_n 2, 1) := by decide +kernel
theorem dX5_readStations_37 : decode cX5_readStations 37 = .ok (.invokevirtual 44, 3) := by decide +kernel
theorem dX5_readStations_40 : decode cX5_readStations 40 = .ok (.goto 4, 3) := by decide +kernel
theorem dX5_readStations_43 : decode cX5_readStations 43 = .ok (.iconst 1, 1) := by decide +kernel
theorem dX5_readStations_44 : decode cX5_readStations 44 = .ok (.istore 4, 2) := by decide +kernel
theorem dX5_readStations_46 : decode cX5_readStations 46 = .ok (.aload_n 0, 1) := by decide +kernel
theorem dX5_readStations_47 : decode cX5_readStations 47 = .ok (.bipush 109, 2) := by decide +kernel
theorem dX5_readStations_49 : decode cX5_readStations 49 = .ok (.invokevirtual 37, 3) := by decide +kernel
theorem dX5_readStations_52 : decode cX5_readStations 52 = .ok (.ifCond .eq 14, 3) := by decide +kernel
theorem dX5_readStations_55 : decode cX5_readStations 55 = .ok (.aload_n 0, 1) := by decide +kernel
theorem dX5_readStations_56 : decode cX5_readStations 56 = .ok (.iconst 1, 1) := by decide +kernel
theorem dX5_readStations_57 : decode cX5_readStations 57 = .ok (.sipush 200, 3) := by decide +kernel
theorem dX5_readStations_60 : decode cX5_readStations 60 = .ok (.invokevirtual 44, 3) := by decide +kernel
theorem dX5_readStations_63 : decode cX5_readStations 63 = .ok (.goto 4, 3) := by decide +kernel
theorem dX5_readStations_66 : decode cX5_readStations 66 = .ok (.iconst 0, 1) := by decide +kernel
theorem dX5_readStations_67 : decode cX5_readStations 67 = .ok (.istore 5, 2) := by decide +kernel
theorem dX5_readStations_69 : decode cX5_readStations 69 = .ok (.aload_n 0, 1) := by decide +kernel
theorem dX5_readStations_70 : decode cX5_readStations 70 = .ok (.getfield 22, 3) := by decide +kernel
theorem dX5_readStations_73 : decode cX5_readStations 73 = .ok (.iconst (-1), 1) := by decide +kernel
theorem dX5_readStations_74 : decode cX5_readStations 74 = .ok (.if_icmp .ne 12, 3) := by decide +kernel
theorem dX5_readStations_77 : decode cX5_readStations 77 = .ok (.aload_n 1, 1) := by decide +kernel
theorem dX5_readStations_78 : decode cX5_readStations 78 = .ok (.iload 4, 2) := by decide +kernel
theorem dX5_readStations_80 : decode cX5_readStations 80 = .ok (.iload_n 3, 1) := by decide +kernel
theorem dX5_readStations_81 : decode cX5_readStations 81 = .ok (.iload 5, 2) := by decide +kernel
theorem dX5_readStations_83 : decode cX5_readStations 83 = .ok (.invokevirtual 48, 3) := by decide +kernel
theorem dX5_readStations_86 : decode cX5_readStations 86 = .ok (.return_, 1) := by decide +kernel
set_option maxRecDepth 20000 in
theorem ggX5_readNumber_X5_peek : GoodIn wsX5_readNumber wsX5_peek := goodIn_r _ [7, 1, 8, 9, 17, 18, 19, 20] (by decide +kernel) (by decide +kernel)
set_option maxRecDepth 20000 in
theorem gX5_readNumber_X5_peek : GoodIn wsX5_readNumber (wsV RX5 52 RX5 yX5_peek wsX5_peek) := goodIn_app (goodIn_of _ (by decide +kernel)) ggX5_readNumber_X5_peek
set_option maxRecDepth 20000 in
theorem ggX5_readNumber_X6_within : GoodIn wsX5_readNumber wsX6_within := goodIn_r _ [12] (by decide +kernel) (by decide +kernel)
set_option maxRecDepth 20000 in
theorem gX5_readNumber_X6_within_n56 : GoodIn wsX5_readNumber (wsX6_within) := ggX5_readNumber_X6_within
set_option maxRecDepth 20000 in
theorem ggX5_readNumber_X5_skipBlanks : GoodIn wsX5_readNumber wsX5_skipBlanks := goodIn_r _ [16, 1, 8, 3, 4, 5, 6, 7, 9, 17, 18, 19, 20] (by decide +kernel) (by decide +kernel)
set_option maxRecDepth 20000 in
theorem gX5_readNumber_X5_skipBlanks : GoodIn wsX5_readNumber (wsV RX5 30 RX5 yX5_skipBlanks wsX5_skipBlanks) := goodIn_app (goodIn_of _ (by decide +kernel)) ggX5_readNumber_X5_skipBlanks
theorem dX5_readNumber_0 : decode cX5_readNumber 0 = .ok (.aload_n 0, 1) := by decide +kernel
theorem dX5_readNumber_1 : decode cX5_readNumber 1 = .ok (.getfield 19, 3) := by decide +kernel
theorem dX5_readNumber_4 : decode cX5_readNumber 4 = .ok (.istore_n 3, 1) := by decide +kernel
theorem dX5_readNumber_5 : decode cX5_readNumber 5 = .ok (.iconst 0, 1) := by decide +kernel
theorem dX5_readNumber_6 : decode cX5_readNumber 6 = .ok (.istore 4, 2) := by decide +kernel
theorem dX5_readNumber_8 : decode cX5_readNumber 8 = .ok (.iconst 0, 1) := by decide +kernel
theorem dX5_readNumber_9 : decode cX5_readNumber 9 = .ok (.istore 5, 2) := by decide +kernel
theorem dX5_readNumber_11 : decode cX5_readNumber 11 = .ok (.iload 5, 2) := by decide +kernel
theorem dX5_readNumber_13 : decode cX5_readNumber 13 = .ok (.iconst 3, 1) := by decide +kernel
theorem dX5_readNumber_14 : decode cX5_readNumber 14 = .ok (.if_icmp .ge 48, 3) := by decide +kernel
theorem dX5_readNumber_17 : decode cX5_readNumber 17 = .ok (.aload_n 0, 1) := by decide +kernel
theorem dX5_readNumber_18 : decode cX5_readNumber 18 = .ok (.invokevirtual 52, 3) := by decide +kernel
theorem dX5_readNumber_21 : decode cX5_readNumber 21 = .ok (.bipush 48, 2) := by decide +kernel
theorem dX5_readNumber_23 : decode cX5_readNumber 23 = .ok (.bipush 57, 2) := by decide +kernel
theorem dX5_readNumber_25 : decode cX5_readNumber 25 = .ok (.invokestatic 56, 3) := by decide +kernel
theorem dX5_readNumber_28 : decode cX5_readNumber 28 = .ok (.ifCond .eq 34, 3) := by decide +kernel
theorem dX5_readNumber_31 : decode cX5_readNumber 31 = .ok (.bipush 10, 2) := by decide +kernel
theorem dX5_readNumber_33 : decode cX5_readNumber 33 = .ok (.iload 4, 2) := by decide +kernel
theorem dX5_readNumber_35 : decode cX5_readNumber 35 = .ok (.imul, 1) := by decide +kernel
theorem dX5_readNumber_36 : decode cX5_readNumber 36 = .ok (.aload_n 0, 1) := by decide +kernel
theorem dX5_readNumber_37 : decode cX5_readNumber 37 = .ok (.invokevirtual 52, 3) := by decide +kernel
theorem dX5_readNumber_40 : decode cX5_readNumber 40 = .ok (.iadd, 1) := by decide +kernel
theorem dX5_readNumber_41 : decode cX5_readNumber 41 = .ok (.bipush 48, 2) := by decide +kernel
theorem dX5_readNumber_43 : decode cX5_readNumber 43 = .ok (.isub, 1) := by decide +kernel
theorem dX5_readNumber_44 : decode cX5_readNumber 44 = .ok (.istore 4, 2) := by decide +kernel
theorem dX5_readNumber_46 : decode cX5_readNumber 46 = .ok (.aload_n 0, 1) := by decide +kernel
theorem dX5_readNumber_47 : decode cX5_readNumber 47 = .ok (.dup, 1) := by decide +kernel
theorem dX5_readNumber_48 : decode cX5_readNumber 48 = .ok (.getfield 19, 3) := by decide +kernel
theorem dX5_readNumber_51 : decode cX5_readNumber 51 = .ok (.iconst 1, 1) := by decide +kernel
theorem dX5_readNumber_52 : decode cX5_readNumber 52 = .ok (.iadd, 1) := by decide +kernel
theorem dX5_readNumber_53 : decode cX5_readNumber 53 = .ok (.putfield 19, 3) := by decide +kernel
theorem dX5_readNumber_56 : decode cX5_readNumber 56 = .ok (.iinc 5 1, 3) := by decide +kernel
theorem dX5_readNumber_59 : decode cX5_readNumber 59 = .ok (.goto (-48), 3) := by decide +kernel
theorem dX5_readNumber_62 : decode cX5_readNumber 62 = .ok (.aload_n 0, 1) := by decide +kernel
theorem dX5_readNumber_63 : decode cX5_readNumber 63 = .ok (.getfield 22, 3) := by decide +kernel
theorem dX5_readNumber_66 : decode cX5_readNumber 66 = .ok (.iconst (-1), 1) := by decide +kernel
theorem dX5_readNumber_67 : decode cX5_readNumber 67 = .ok (.if_icmp .ne 26, 3) := by decide +kernel
theorem dX5_readNumber_70 : decode cX5_readNumber 70 = .ok (.aload_n 0, 1) := by decide +kernel
theorem dX5_readNumber_71 : decode cX5_readNumber 71 = .ok (.getfield 19, 3) := by decide +kernel
theorem dX5_readNumber_74 : decode cX5_readNumber 74 = .ok (.iload_n 3, 1) := by decide +kernel
theorem dX5_readNumber_75 : decode cX5_readNumber 75 = .ok (.if_icmp .eq 13, 3) := by decide +kernel
theorem dX5_readNumber_78 : decode cX5_readNumber 78 = .ok (.iload 4, 2) := by decide +kernel
theorem dX5_readNumber_80 : decode cX5_readNumber 80 = .ok (.iload_n 1, 1) := by decide +kernel
theorem dX5_readNumber_81 : decode cX5_readNumber 81 = .ok (.iload_n 2, 1) := by decide +kernel
theorem dX5_readNumber_82 : decode cX5_readNumber 82 = .ok (.invokestatic 56, 3) := by decide +kernel
theorem dX5_readNumber_85 : decode cX5_readNumber 85 = .ok (.ifCond .ne 8, 3) := by decide +kernel
theorem dX5_readNumber_88 : decode cX5_readNumber 88 = .ok (.aload_n 0, 1) := by decide +kernel
theorem dX5_readNumber_89 : decode cX5_readNumber 89 = .ok (.iload_n 3, 1) := by decide +kernel
theorem dX5_readNumber_90 : decode cX5_readNumber 90 = .ok (.putfield 22, 3) := by decide +kernel
theorem dX5_readNumber_93 : decode cX5_readNumber 93 = .ok (.aload_n 0, 1) := by decide +kernel
theorem dX5_readNumber_94 : decode cX5_readNumber 94 = .ok (.invokevirtual 30, 3) := by decide +kernel
theorem dX5_readNumber_97 : decode cX5_readNumber 97 = .ok (.iload 4, 2) := by decide +kernel
theorem dX5_readNumber_99 : decode cX5_readNumber 99 = .ok (.ireturn, 1) := by decide +kernel
set_option maxRecDepth 20000 in
theorem ggX5_accept_X5_peek : GoodIn wsX5_accept wsX5_peek := goodIn_r _ [6, 1, 7, 8, 13, 14, 15, 16] (by decide +kernel) (by decide +kernel)
set_option maxRecDepth 20000 in
theorem gX5_accept_X5_peek : GoodIn wsX5_accept (wsV RX5 52 RX5 yX5_peek wsX5_peek) := goodIn_app (goodIn_of _ (by decide +kernel)) ggX5_accept_X5_peek
set_option maxRecDepth 20000 in
theorem ggX5_accept_X5_skipBlanks : GoodIn wsX5_accept wsX5_skipBlanks := goodIn_r _ [12, 1, 7, 2, 3, 4, 5, 6, 8, 13, 14, 15, 16] (by decide +kernel) (by decide +kernel)
set_option maxRecDepth 20000 in
theorem gX5_accept_X5_skipBlanks : GoodIn wsX5_accept (wsV RX5 30 RX5 yX5_skipBlanks wsX5_skipBlanks) := goodIn_app (goodIn_of _ (by decide +kernel)) ggX5_accept_X5_skipBlanks
theorem dX5_accept_0 : decode cX5_accept 0 = .ok (.aload_n 0, 1) := by decide +kernel
theorem dX5_accept_1 : decode cX5_accept 1 = .ok (.invokevirtual 52, 3) := by decide +kernel
theorem dX5_accept_4 : decode cX5_accept 4 = .ok (.iload_n 1, 1) := by decide +kernel
theorem dX5_accept_5 : decode cX5_accept 5 = .ok (.if_icmp .eq 5, 3) := by decide +kernel
theorem dX5_accept_8 : decode cX5_accept 8 = .ok (.iconst 0, 1) := by decide +kernel
theorem dX5_accept_9 : decode cX5_accept 9 = .ok (.ireturn, 1) := by decide +kernel
theorem dX5_accept_10 : decode cX5_accept 10 = .ok (.aload_n 0, 1) := by decide +kernel
theorem dX5_accept_11 : decode cX5_accept 11 = .ok (.dup, 1) := by decide +kernel
theorem dX5_accept_12 : decode cX5_accept 12 = .ok (.getfield 19, 3) := by decide +kernel
theorem dX5_accept_15 : decode cX5_accept 15 = .ok (.iconst 1, 1) := by decide +kernel
theorem dX5_accept_16 : decode cX5_accept 16 = .ok (.iadd, 1) := by decide +kernel
theorem dX5_accept_17 : decode cX5_accept 17 = .ok (.putfield 19, 3) := by decide +kernel
theorem dX5_accept_20 : decode cX5_accept 20 = .ok (.aload_n 0, 1) := by decide +kernel
theorem dX5_accept_21 : decode cX5_accept 21 = .ok (.invokevirtual 30, 3) := by decide +kernel
theorem dX5_accept_24 : decode cX5_accept 24 = .ok (.iconst 1, 1) := by decide +kernel
theorem dX5_accept_25 : decode cX5_accept 25 = .ok (.ireturn, 1) := by decide +kernel
set_option maxRecDepth 20000 in
theorem ggX5_skipBlanks_X5_peek : GoodIn wsX5_skipBlanks wsX5_peek := goodIn_r _ [7, 1, 2, 8, 9, 10, 11, 12] (by decide +kernel) (by decide +kernel)
set_option maxRecDepth 20000 in
theorem gX5_skipBlanks_X5_peek : GoodIn wsX5_skipBlanks (wsV RX5 52 RX5 yX5_peek wsX5_peek) := goodIn_app (goodIn_of _ (by decide +kernel)) ggX5_skipBlanks_X5_peek
theorem dX5_skipBlanks_0 : decode cX5_skipBlanks 0 = .ok (.aload_n 0, 1) := by decide +kernel
theorem dX5_skipBlanks_1 : decode cX5_skipBlanks 1 = .ok (.getfield 19, 3) := by decide +kernel
theorem dX5_skipBlanks_4 : decode cX5_skipBlanks 4 = .ok (.istore_n 1, 1) := by decide +kernel
theorem dX5_skipBlanks_5 : decode cX5_skipBlanks 5 = .ok (.iload_n 1, 1) := by decide +kernel
theorem dX5_skipBlanks_6 : decode cX5_skipBlanks 6 = .ok (.aload_n 0, 1) := by decide +kernel
theorem dX5_skipBlanks_7 : decode cX5_skipBlanks 7 = .ok (.getfield 15, 3) := by decide +kernel
theorem dX5_skipBlanks_10 : decode cX5_skipBlanks 10 = .ok (.if_icmp .ge 28, 3) := by decide +kernel
theorem dX5_skipBlanks_13 : decode cX5_skipBlanks 13 = .ok (.aload_n 0, 1) := by decide +kernel
theorem dX5_skipBlanks_14 : decode cX5_skipBlanks 14 = .ok (.invokevirtual 52, 3) := by decide +kernel
theorem dX5_skipBlanks_17 : decode cX5_skipBlanks 17 = .ok (.bipush 32, 2) := by decide +kernel
theorem dX5_skipBlanks_19 : decode cX5_skipBlanks 19 = .ok (.if_icmp .ne 19, 3) := by decide +kernel
theorem dX5_skipBlanks_22 : decode cX5_skipBlanks 22 = .ok (.aload_n 0, 1) := by decide +kernel
theorem dX5_skipBlanks_23 : decode cX5_skipBlanks 23 = .ok (.dup, 1) := by decide +kernel
theorem dX5_skipBlanks_24 : decode cX5_skipBlanks 24 = .ok (.getfield 19, 3) := by decide +kernel
theorem dX5_skipBlanks_27 : decode cX5_skipBlanks 27 = .ok (.iconst 1, 1) := by decide +kernel
theorem dX5_skipBlanks_28 : decode cX5_skipBlanks 28 = .ok (.iadd, 1) := by decide +kernel
theorem dX5_skipBlanks_29 : decode cX5_skipBlanks 29 = .ok (.putfield 19, 3) := by decide +kernel
theorem dX5_skipBlanks_32 : decode cX5_skipBlanks 32 = .ok (.iinc 1 1, 3) := by decide +kernel
theorem dX5_skipBlanks_35 : decode cX5_skipBlanks 35 = .ok (.goto (-30), 3) := by decide +kernel
theorem dX5_skipBlanks_38 : decode cX5_skipBlanks 38 = .ok (.return_, 1) := by decide +kernel
theorem dX5_peek_0 : decode cX5_peek 0 = .ok (.aload_n 0, 1) := by decide +kernel
theorem dX5_peek_1 : decode cX5_peek 1 = .ok (.getfield 19, 3) := by decide +kernel
theorem dX5_peek_4 : decode cX5_peek 4 = .ok (.ifCond .lt 26, 3) := by decide +kernel
theorem dX5_peek_7 : decode cX5_peek 7 = .ok (.aload_n 0, 1) := by decide +kernel
theorem dX5_peek_8 : decode cX5_peek 8 = .ok (.getfield 19, 3) := by decide +kernel
theorem dX5_peek_11 : decode cX5_peek 11 = .ok (.aload_n 0, 1) := by decide +kernel
theorem dX5_peek_12 : decode cX5_peek 12 = .ok (.getfield 15, 3) := by decide +kernel
theorem dX5_peek_15 : decode cX5_peek 15 = .ok (.if_icmp .ge 15, 3) := by decide +kernel
theorem dX5_peek_18 : decode cX5_peek 18 = .ok (.aload_n 0, 1) := by decide +kernel
theorem dX5_peek_19 : decode cX5_peek 19 = .ok (.getfield 9, 3) := by decide +kernel
theorem dX5_peek_22 : decode cX5_peek 22 = .ok (.aload_n 0, 1) := by decide +kernel
theorem dX5_peek_23 : decode cX5_peek 23 = .ok (.getfield 19, 3) := by decide +kernel
theorem dX5_peek_26 : decode cX5_peek 26 = .ok (.baload, 1) := by decide +kernel
theorem dX5_peek_27 : decode cX5_peek 27 = .ok (.goto 4, 3) := by decide +kernel
theorem dX5_peek_30 : decode cX5_peek 30 = .ok (.iconst (-1), 1) := by decide +kernel
theorem dX5_peek_31 : decode cX5_peek 31 = .ok (.ireturn, 1) := by decide +kernel
set_option maxRecDepth 20000 in
theorem ggX6_init_X3_init : GoodIn wsX6_init wsX3_init := goodIn_r _ [30, 31, 2, 3, 32, 33, 34, 35, 36, 37, 73, 74, 75, 76, 77] (by decide +kernel) (by decide +kernel)
set_option maxRecDepth 20000 in
theorem gX6_init_X3_init_n9 : GoodIn wsX6_init (wsX3_init) := ggX6_init_X3_init
set_option maxRecDepth 20000 in
theorem ggX6_init_X2_init : GoodIn wsX6_init wsX2_init := goodIn_r _ [40, 41, 2, 3, 42, 43, 44, 45, 5, 6, 29, 30, 31, 32, 33, 34, 35, 36, 37, 85, 86, 87, 73, 74, 75, 76, 77] (by decide +kernel) (by decide +kernel)
set_option maxRecDepth 20000 in
theorem gX6_init_X2_init : GoodIn wsX6_init (wsX2_init) := ggX6_init_X2_init
set_option maxRecDepth 20000 in
theorem ggX6_init_X5_init : GoodIn wsX6_init wsX5_init := goodIn_r _ [47, 48, 2, 3, 49, 50, 51, 52, 53, 88, 89, 90, 91] (by decide +kernel) (by decide +kernel)
set_option maxRecDepth 20000 in
theorem gX6_init_X5_init_n28 : GoodIn wsX6_init (wsX5_init) := ggX6_init_X5_init
set_option maxRecDepth 20000 in
theorem ggX6_init_X1_init : GoodIn wsX6_init wsX1_init := goodIn_r _ [55, 56, 2, 3, 32, 57, 58, 92, 93] (by decide +kernel) (by decide +kernel)
set_option maxRecDepth 20000 in
theorem gX6_init_X1_init_n35 : GoodIn wsX6_init (wsX1_init) := ggX6_init_X1_init
set_option maxRecDepth 20000 in
theorem ggX6_init_X4_init : GoodIn wsX6_init wsX4_init := goodIn_r _ [60, 61, 2, 3, 32, 62, 63, 64, 65, 66, 67, 94, 95, 96, 97, 98, 99] (by decide +kernel) (by decide +kernel)
set_option maxRecDepth 20000 in
theorem gX6_init_X4_init_n42 : GoodIn wsX6_init (wsX4_init) := ggX6_init_X4_init
set_option maxRecDepth 20000 in
theorem ggX6_init_X0_init : GoodIn wsX6_init wsX0_init := goodIn_r _ [69, 70, 2, 3, 32, 71, 72, 100, 101] (by decide +kernel) (by decide +kernel)
set_option maxRecDepth 20000 in
theorem gX6_init_X0_init_n49 : GoodIn wsX6_init (wsX0_init) := ggX6_init_X0_init
theorem dX6_init_0 : decode cX6_init 0 = .ok (.aload_n 0, 1) := by decide +kernel
theorem dX6_init_1 : decode cX6_init 1 = .ok (.invokespecial 1, 3) := by decide +kernel
theorem dX6_init_4 : decode cX6_init 4 = .ok (.aload_n 0, 1) := by decide +kernel
theorem dX6_init_5 : decode cX6_init 5 = .ok (.new 7, 3) := by decide +kernel
theorem dX6_init_8 : decode cX6_init 8 = .ok (.dup, 1) := by decide +kernel
theorem dX6_init_9 : decode cX6_init 9 = .ok (.invokespecial 9, 3) := by decide +kernel
theorem dX6_init_12 : decode cX6_init 12 = .ok (.putfield 10, 3) := by decide +kernel
theorem dX6_init_15 : decode cX6_init 15 = .ok (.aload_n 0, 1) := by decide +kernel
theorem dX6_init_16 : decode cX6_init 16 = .ok (.new 7, 3) := by decide +kernel
theorem dX6_init_19 : decode cX6_init 19 = .ok (.dup, 1) := by decide +kernel
theorem dX6_init_20 : decode cX6_init 20 = .ok (.invokespecial 9, 3) := by decide +kernel
theorem dX6_init_23 : decode cX6_init 23 = .ok (.putfield 16, 3) := by decide +kernel
theorem dX6_init_26 : decode cX6_init 26 = .ok (.aload_n 0, 1) := by decide +kernel
theorem dX6_init_27 : decode cX6_init 27 = .ok (.new 19, 3) := by decide +kernel
theorem dX6_init_30 : decode cX6_init 30 = .ok (.dup, 1) := by decide +kernel
theorem dX6_init_31 : decode cX6_init 31 = .ok (.invokespecial 21, 3) := by decide +kernel
theorem dX6_init_34 : decode cX6_init 34 = .ok (.putfield 22, 3) := by decide +kernel
theorem dX6_init_37 : decode cX6_init 37 = .ok (.aload_n 0, 1) := by decide +kernel
theorem dX6_init_38 : decode cX6_init 38 = .ok (.new 26, 3) := by decide +kernel
theorem dX6_init_41 : decode cX6_init 41 = .ok (.dup, 1) := by decide +kernel
theorem dX6_init_42 : decode cX6_init 42 = .ok (.invokespecial 28, 3) := by decide +kernel
theorem dX6_init_45 : decode cX6_init 45 = .ok (.putfield 29, 3) := by decide +kernel
theorem dX6_init_48 : decode cX6_init 48 = .ok (.aload_n 0, 1) := by decide +kernel
theorem dX6_init_49 : decode cX6_init 49 = .ok (.new 33, 3) := by decide +kernel
theorem dX6_init_52 : decode cX6_init 52 = .ok (.dup, 1) := by decide +kernel
theorem dX6_init_53 : decode cX6_init 53 = .ok (.invokespecial 35, 3) := by decide +kernel
theorem dX6_init_56 : decode cX6_init 56 = .ok (.putfield 36, 3) := by decide +kernel
theorem dX6_init_59 : decode cX6_init 59 = .ok (.aload_n 0, 1) := by decide +kernel
theorem dX6_init_60 : decode cX6_init 60 = .ok (.new 40, 3) := by decide +kernel
theorem dX6_init_63 : decode cX6_init 63 = .ok (.dup, 1) := by decide +kernel
theorem dX6_init_64 : decode cX6_init 64 = .ok (.invokespecial 42, 3) := by decide +kernel
theorem dX6_init_67 : decode cX6_init 67 = .ok (.putfield 43, 3) := by decide +kernel
theorem dX6_init_70 : decode cX6_init 70 = .ok (.aload_n 0, 1) := by decide +kernel
theorem dX6_init_71 : decode cX6_init 71 = .ok (.new 47, 3) := by decide +kernel
theorem dX6_init_74 : decode cX6_init 74 = .ok (.dup, 1) := by decide +kernel
theorem dX6_init_75 : decode cX6_init 75 = .ok (.invokespecial 49, 3) := by decide +kernel
theorem dX6_init_78 : decode cX6_init 78 = .ok (.putfield 50, 3) := by decide +kernel
theorem dX6_init_81 : decode cX6_init 81 = .ok (.return_, 1) := by decide +kernel
set_option maxRecDepth 20000 in
theorem ggX6_reset_X6_within : GoodIn wsX6_reset wsX6_within := goodIn_r _ [6] (by decide +kernel) (by decide +kernel)
set_option maxRecDepth 20000 in
theorem gX6_reset_X6_within : GoodIn wsX6_reset (va_wsS RX6 54 yX6_within wsX6_within) := goodIn_app (goodIn_of _ (by decide +kernel)) ggX6_reset_X6_within
set_option maxRecDepth 20000 in
theorem ggX6_reset_X2_keep : GoodIn wsX6_reset wsX2_keep := goodIn_r _ [11, 12, 13, 14, 15, 16, 17, 18, 19, 20, 21, 22, 23, 24, 25, 26, 27, 28, 29, 30, 31, 32, 48, 49, 50, 51, 52, 53, 54, 55] (by decide +kernel) (by decide +kernel)
set_option maxRecDepth 20000 in
theorem gX6_reset_X2_keep : GoodIn wsX6_reset (wsV RX6 58 RX2 yX2_keep wsX2_keep) := goodIn_app (goodIn_of _ (by decide +kernel)) ggX6_reset_X2_keep
set_option maxRecDepth 20000 in
theorem ggX6_reset_X3_clear : GoodIn wsX6_reset wsX3_clear := goodIn_r _ [36, 30, 51, 52, 53, 54, 55] (by decide +kernel) (by decide +kernel)
set_option maxRecDepth 20000 in
theorem gX6_reset_X3_clear : GoodIn wsX6_reset (wsV RX6 62 RX3 yX3_clear wsX3_clear) := goodIn_app (goodIn_of _ (by decide +kernel)) ggX6_reset_X3_clear
set_option maxRecDepth 20000 in
theorem ggX6_reset_X3_append : GoodIn wsX6_reset wsX3_append := goodIn_r _ [40, 30, 31, 32, 51, 52, 53, 54, 55] (by decide +kernel) (by decide +kernel)
set_option maxRecDepth 20000 in
theorem gX6_reset_X3_append : GoodIn wsX6_reset (wsV RX6 65 RX3 yX3_append wsX3_append) := goodIn_app (goodIn_of _ (by decide +kernel)) ggX6_reset_X3_append
theorem dX6_reset_0 : decode cX6_reset 0 = .ok (.iload_n 1, 1) := by decide +kernel
theorem dX6_reset_1 : decode cX6_reset 1 = .ok (.iconst 2, 1) := by decide +kernel
theorem dX6_reset_2 : decode cX6_reset 2 = .ok (.bipush 20, 2) := by decide +kernel
theorem dX6_reset_4 : decode cX6_reset 4 = .ok (.invokestatic 54, 3) := by decide +kernel
theorem dX6_reset_7 : decode cX6_reset 7 = .ok (.ifCond .eq 14, 3) := by decide +kernel
theorem dX6_reset_10 : decode cX6_reset 10 = .ok (.iload_n 2, 1) := by decide +kernel
theorem dX6_reset_11 : decode cX6_reset 11 = .ok (.iconst 0, 1) := by decide +kernel
theorem dX6_reset_12 : decode cX6_reset 12 = .ok (.sipush 999, 3) := by decide +kernel
theorem dX6_reset_15 : decode cX6_reset 15 = .ok (.invokestatic 54, 3) := by decide +kernel
theorem dX6_reset_18 : decode cX6_reset 18 = .ok (.ifCond .ne 6, 3) := by decide +kernel
theorem dX6_reset_21 : decode cX6_reset 21 = .ok (.bipush (-2), 2) := by decide +kernel
theorem dX6_reset_23 : decode cX6_reset 23 = .ok (.ireturn, 1) := by decide +kernel
theorem dX6_reset_24 : decode cX6_reset 24 = .ok (.aload_n 0, 1) := by decide +kernel
theorem dX6_reset_25 : decode cX6_reset 25 = .ok (.getfield 22, 3) := by decide +kernel
theorem dX6_reset_28 : decode cX6_reset 28 = .ok (.aload_n 0, 1) := by decide +kernel
theorem dX6_reset_29 : decode cX6_reset 29 = .ok (.getfield 10, 3) := by decide +kernel
theorem dX6_reset_32 : decode cX6_reset 32 = .ok (.invokevirtual 58, 3) := by decide +kernel
theorem dX6_reset_35 : decode cX6_reset 35 = .ok (.aload_n 0, 1) := by decide +kernel
theorem dX6_reset_36 : decode cX6_reset 36 = .ok (.getfield 10, 3) := by decide +kernel
theorem dX6_reset_39 : decode cX6_reset 39 = .ok (.invokevirtual 62, 3) := by decide +kernel
theorem dX6_reset_42 : decode cX6_reset 42 = .ok (.aload_n 0, 1) := by decide +kernel
theorem dX6_reset_43 : decode cX6_reset 43 = .ok (.getfield 10, 3) := by decide +kernel
theorem dX6_reset_46 : decode cX6_reset 46 = .ok (.iload_n 1, 1) := by decide +kernel
theorem dX6_reset_47 : decode cX6_reset 47 = .ok (.iload_n 2, 1) := by decide +kernel
theorem dX6_reset_48 : decode cX6_reset 48 = .ok (.iconst 0, 1) := by decide +kernel
theorem dX6_reset_49 : decode cX6_reset 49 = .ok (.invokevirtual 65, 3) := by decide +kernel
theorem dX6_reset_52 : decode cX6_reset 52 = .ok (.iload_n 1, 1) := by decide +kernel
theorem dX6_reset_53 : decode cX6_reset 53 = .ok (.ireturn, 1) := by decide +kernel
set_option maxRecDepth 20000 in
theorem ggX6_setGround_X3_has : GoodIn wsX6_setGround wsX3_has := goodIn_r _ [8, 9, 45, 46, 47, 48, 49] (by decide +kernel) (by decide +kernel)
set_option maxRecDepth 20000 in
theorem gX6_setGround_X3_has : GoodIn wsX6_setGround (wsV RX6 69 RX3 yX3_has wsX3_has) := goodIn_app (goodIn_of _ (by decide +kernel)) ggX6_setGround_X3_has
set_option maxRecDepth 20000 in
theorem ggX6_setGround_X6_within : GoodIn wsX6_setGround wsX6_within := goodIn_r _ [13] (by decide +kernel) (by decide +kernel)
set_option maxRecDepth 20000 in
theorem gX6_setGround_X6_within : GoodIn wsX6_setGround (va_wsS RX6 54 yX6_within wsX6_within) := goodIn_app (goodIn_of _ (by decide +kernel)) ggX6_setGround_X6_within
set_option maxRecDepth 20000 in
theorem ggX6_setGround_X2_keep : GoodIn wsX6_setGround wsX2_keep := goodIn_r _ [18, 19, 20, 21, 22, 23, 24, 25, 26, 27, 28, 7, 29, 30, 31, 32, 33, 34, 35, 9, 36, 37, 50, 51, 52, 45, 46, 47, 48, 49] (by decide +kernel) (by decide +kernel)
set_option maxRecDepth 20000 in
theorem gX6_setGround_X2_keep : GoodIn wsX6_setGround (wsV RX6 58 RX2 yX2_keep wsX2_keep) := goodIn_app (goodIn_of _ (by decide +kernel)) ggX6_setGround_X2_keep
theorem dX6_setGround_0 : decode cX6_setGround 0 = .ok (.aload_n 0, 1) := by decide +kernel
theorem dX6_setGround_1 : decode cX6_setGround 1 = .ok (.getfield 10, 3) := by decide +kernel
theorem dX6_setGround_4 : decode cX6_setGround 4 = .ok (.iload_n 1, 1) := by decide +kernel
theorem dX6_setGround_5 : decode cX6_setGround 5 = .ok (.invokevirtual 69, 3) := by decide +kernel
theorem dX6_setGround_8 : decode cX6_setGround 8 = .ok (.ifCond .eq 14, 3) := by decide +kernel
theorem dX6_setGround_11 : decode cX6_setGround 11 = .ok (.iload_n 2, 1) := by decide +kernel
theorem dX6_setGround_12 : decode cX6_setGround 12 = .ok (.iconst 0, 1) := by decide +kernel
theorem dX6_setGround_13 : decode cX6_setGround 13 = .ok (.sipush 999, 3) := by decide +kernel
theorem dX6_setGround_16 : decode cX6_setGround 16 = .ok (.invokestatic 54, 3) := by decide +kernel
theorem dX6_setGround_19 : decode cX6_setGround 19 = .ok (.ifCond .ne 6, 3) := by decide +kernel
theorem dX6_setGround_22 : decode cX6_setGround 22 = .ok (.bipush (-2), 2) := by decide +kernel
theorem dX6_setGround_24 : decode cX6_setGround 24 = .ok (.ireturn, 1) := by decide +kernel
theorem dX6_setGround_25 : decode cX6_setGround 25 = .ok (.aload_n 0, 1) := by decide +kernel
theorem dX6_setGround_26 : decode cX6_setGround 26 = .ok (.getfield 22, 3) := by decide +kernel
theorem dX6_setGround_29 : decode cX6_setGround 29 = .ok (.aload_n 0, 1) := by decide +kernel
theorem dX6_setGround_30 : decode cX6_setGround 30 = .ok (.getfield 10, 3) := by decide +kernel
theorem dX6_setGround_33 : decode cX6_setGround 33 = .ok (.invokevirtual 58, 3) := by decide +kernel
theorem dX6_setGround_36 : decode cX6_setGround 36 = .ok (.aload_n 0, 1) := by decide +kernel
theorem dX6_setGround_37 : decode cX6_setGround 37 = .ok (.getfield 10, 3) := by decide +kernel
theorem dX6_setGround_40 : decode cX6_setGround 40 = .ok (.getfield 73, 3) := by decide +kernel
theorem dX6_setGround_43 : decode cX6_setGround 43 = .ok (.iload_n 1, 1) := by decide +kernel
theorem dX6_setGround_44 : decode cX6_setGround 44 = .ok (.iaload, 1) := by decide +kernel
theorem dX6_setGround_45 : decode cX6_setGround 45 = .ok (.istore_n 3, 1) := by decide +kernel
theorem dX6_setGround_46 : decode cX6_setGround 46 = .ok (.aload_n 0, 1) := by decide +kernel
theorem dX6_setGround_47 : decode cX6_setGround 47 = .ok (.getfield 10, 3) := by decide +kernel
theorem dX6_setGround_50 : decode cX6_setGround 50 = .ok (.getfield 73, 3) := by decide +kernel
theorem dX6_setGround_53 : decode cX6_setGround 53 = .ok (.iload_n 1, 1) := by decide +kernel
theorem dX6_setGround_54 : decode cX6_setGround 54 = .ok (.iload_n 2, 1) := by decide +kernel
theorem dX6_setGround_55 : decode cX6_setGround 55 = .ok (.iastore, 1) := by decide +kernel
theorem dX6_setGround_56 : decode cX6_setGround 56 = .ok (.iload_n 3, 1) := by decide +kernel
theorem dX6_setGround_57 : decode cX6_setGround 57 = .ok (.ireturn, 1) := by decide +kernel
set_option maxRecDepth 20000 in
theorem ggX6_slope_X3_has : GoodIn wsX6_slope wsX3_has := goodIn_r _ [7, 8, 45, 46, 47, 48, 49] (by decide +kernel) (by decide +kernel)
set_option maxRecDepth 20000 in
theorem gX6_slope_X3_has : GoodIn wsX6_slope (wsV RX6 69 RX3 yX3_has wsX3_has) := goodIn_app (goodIn_of _ (by decide +kernel)) ggX6_slope_X3_has
set_option maxRecDepth 20000 in
theorem ggX6_slope_X2_keep : GoodIn wsX6_slope wsX2_keep := goodIn_r _ [13, 14, 15, 16, 17, 18, 19, 20, 21, 22, 23, 6, 24, 25, 26, 27, 28, 29, 30, 8, 31, 32, 50, 51, 52, 45, 46, 47, 48, 49] (by decide +kernel) (by decide +kernel)
set_option maxRecDepth 20000 in
theorem gX6_slope_X2_keep : GoodIn wsX6_slope (wsV RX6 58 RX2 yX2_keep wsX2_keep) := goodIn_app (goodIn_of _ (by decide +kernel)) ggX6_slope_X2_keep
set_option maxRecDepth 20000 in
theorem ggX6_slope_X3_even : GoodIn wsX6_slope wsX3_even := goodIn_r _ [36, 31, 37, 4, 5, 6, 7, 8, 45, 46, 47, 48, 49] (by decide +kernel) (by decide +kernel)
set_option maxRecDepth 20000 in
theorem gX6_slope_X3_even : GoodIn wsX6_slope (wsV RX6 77 RX3 yX3_even wsX3_even) := goodIn_app (goodIn_of _ (by decide +kernel)) ggX6_slope_X3_even
theorem dX6_slope_0 : decode cX6_slope 0 = .ok (.aload_n 0, 1) := by decide +kernel
theorem dX6_slope_1 : decode cX6_slope 1 = .ok (.getfield 10, 3) := by decide +kernel
theorem dX6_slope_4 : decode cX6_slope 4 = .ok (.iload_n 1, 1) := by decide +kernel
theorem dX6_slope_5 : decode cX6_slope 5 = .ok (.invokevirtual 69, 3) := by decide +kernel
theorem dX6_slope_8 : decode cX6_slope 8 = .ok (.ifCond .eq 19, 3) := by decide +kernel
theorem dX6_slope_11 : decode cX6_slope 11 = .ok (.aload_n 0, 1) := by decide +kernel
theorem dX6_slope_12 : decode cX6_slope 12 = .ok (.getfield 10, 3) := by decide +kernel
theorem dX6_slope_15 : decode cX6_slope 15 = .ok (.iload_n 2, 1) := by decide +kernel
theorem dX6_slope_16 : decode cX6_slope 16 = .ok (.invokevirtual 69, 3) := by decide +kernel
theorem dX6_slope_19 : decode cX6_slope 19 = .ok (.ifCond .eq 8, 3) := by decide +kernel
theorem dX6_slope_22 : decode cX6_slope 22 = .ok (.iload_n 1, 1) := by decide +kernel
theorem dX6_slope_23 : decode cX6_slope 23 = .ok (.iload_n 2, 1) := by decide +kernel
theorem dX6_slope_24 : decode cX6_slope 24 = .ok (.if_icmp .lt 6, 3) := by decide +kernel
theorem dX6_slope_27 : decode cX6_slope 27 = .ok (.bipush (-2), 2) := by decide +kernel
theorem dX6_slope_29 : decode cX6_slope 29 = .ok (.ireturn, 1) := by decide +kernel
theorem dX6_slope_30 : decode cX6_slope 30 = .ok (.aload_n 0, 1) := by decide +kernel
theorem dX6_slope_31 : decode cX6_slope 31 = .ok (.getfield 22, 3) := by decide +kernel
theorem dX6_slope_34 : decode cX6_slope 34 = .ok (.aload_n 0, 1) := by decide +kernel
theorem dX6_slope_35 : decode cX6_slope 35 = .ok (.getfield 10, 3) := by decide +kernel
theorem dX6_slope_38 : decode cX6_slope 38 = .ok (.invokevirtual 58, 3) := by decide +kernel
theorem dX6_slope_41 : decode cX6_slope 41 = .ok (.aload_n 0, 1) := by decide +kernel
theorem dX6_slope_42 : decode cX6_slope 42 = .ok (.getfield 10, 3) := by decide +kernel
theorem dX6_slope_45 : decode cX6_slope 45 = .ok (.iload_n 1, 1) := by decide +kernel
theorem dX6_slope_46 : decode cX6_slope 46 = .ok (.iload_n 2, 1) := by decide +kernel
theorem dX6_slope_47 : decode cX6_slope 47 = .ok (.invokevirtual 77, 3) := by decide +kernel
theorem dX6_slope_50 : decode cX6_slope 50 = .ok (.ireturn, 1) := by decide +kernel
set_option maxRecDepth 20000 in
theorem ggX6_mast_X3_has : GoodIn wsX6_mast wsX3_has := goodIn_r _ [8, 9, 45, 46, 47, 48, 49] (by decide +kernel) (by decide +kernel)
set_option maxRecDepth 20000 in
theorem gX6_mast_X3_has : GoodIn wsX6_mast (wsV RX6 69 RX3 yX3_has wsX3_has) := goodIn_app (goodIn_of _ (by decide +kernel)) ggX6_mast_X3_has
set_option maxRecDepth 20000 in
theorem ggX6_mast_X6_within : GoodIn wsX6_mast wsX6_within := goodIn_r _ [13] (by decide +kernel) (by decide +kernel)
set_option maxRecDepth 20000 in
theorem gX6_mast_X6_within : GoodIn wsX6_mast (va_wsS RX6 54 yX6_within wsX6_within) := goodIn_app (goodIn_of _ (by decide +kernel)) ggX6_mast_X6_within
set_option maxRecDepth 20000 in
theorem ggX6_mast_X2_keep : GoodIn wsX6_mast wsX2_keep := goodIn_r _ [18, 19, 20, 21, 22, 23, 24, 25, 26, 27, 28, 7, 29, 30, 31, 32, 33, 34, 35, 9, 36, 37, 50, 51, 52, 45, 46, 47, 48, 49] (by decide +kernel) (by decide +kernel)
set_option maxRecDepth 20000 in
theorem gX6_mast_X2_keep : GoodIn wsX6_mast (wsV RX6 58 RX2 yX2_keep wsX2_keep) := goodIn_app (goodIn_of _ (by decide +kernel)) ggX6_mast_X2_keep
theorem dX6_mast_0 : decode cX6_mast 0 = .ok (.aload_n 0, 1) := by decide +kernel
theorem dX6_mast_1 : decode cX6_mast 1 = .ok (.getfield 10, 3) := by decide +kernel
theorem dX6_mast_4 : decode cX6_mast 4 = .ok (.iload_n 1, 1) := by decide +kernel
theorem dX6_mast_5 : decode cX6_mast 5 = .ok (.invokevirtual 69, 3) := by decide +kernel
theorem dX6_mast_8 : decode cX6_mast 8 = .ok (.ifCond .eq 14, 3) := by decide +kernel
theorem dX6_mast_11 : decode cX6_mast 11 = .ok (.iload_n 2, 1) := by decide +kernel
theorem dX6_mast_12 : decode cX6_mast 12 = .ok (.iconst 0, 1) := by decide +kernel
theorem dX6_mast_13 : decode cX6_mast 13 = .ok (.sipush 200, 3) := by decide +kernel
theorem dX6_mast_16 : decode cX6_mast 16 = .ok (.invokestatic 54, 3) := by decide +kernel
theorem dX6_mast_19 : decode cX6_mast 19 = .ok (.ifCond .ne 6, 3) := by decide +kernel
theorem dX6_mast_22 : decode cX6_mast 22 = .ok (.bipush (-2), 2) := by decide +kernel
theorem dX6_mast_24 : decode cX6_mast 24 = .ok (.ireturn, 1) := by decide +kernel
theorem dX6_mast_25 : decode cX6_mast 25 = .ok (.aload_n 0, 1) := by decide +kernel
theorem dX6_mast_26 : decode cX6_mast 26 = .ok (.getfield 22, 3) := by decide +kernel
theorem dX6_mast_29 : decode cX6_mast 29 = .ok (.aload_n 0, 1) := by decide +kernel
theorem dX6_mast_30 : decode cX6_mast 30 = .ok (.getfield 10, 3) := by decide +kernel
theorem dX6_mast_33 : decode cX6_mast 33 = .ok (.invokevirtual 58, 3) := by decide +kernel
theorem dX6_mast_36 : decode cX6_mast 36 = .ok (.aload_n 0, 1) := by decide +kernel
theorem dX6_mast_37 : decode cX6_mast 37 = .ok (.getfield 10, 3) := by decide +kernel
theorem dX6_mast_40 : decode cX6_mast 40 = .ok (.getfield 81, 3) := by decide +kernel
theorem dX6_mast_43 : decode cX6_mast 43 = .ok (.iload_n 1, 1) := by decide +kernel
theorem dX6_mast_44 : decode cX6_mast 44 = .ok (.iaload, 1) := by decide +kernel
theorem dX6_mast_45 : decode cX6_mast 45 = .ok (.istore_n 3, 1) := by decide +kernel
theorem dX6_mast_46 : decode cX6_mast 46 = .ok (.aload_n 0, 1) := by decide +kernel
theorem dX6_mast_47 : decode cX6_mast 47 = .ok (.getfield 10, 3) := by decide +kernel
theorem dX6_mast_50 : decode cX6_mast 50 = .ok (.getfield 81, 3) := by decide +kernel
theorem dX6_mast_53 : decode cX6_mast 53 = .ok (.iload_n 1, 1) := by decide +kernel
theorem dX6_mast_54 : decode cX6_mast 54 = .ok (.iload_n 2, 1) := by decide +kernel
theorem dX6_mast_55 : decode cX6_mast 55 = .ok (.iastore, 1) := by decide +kernel
theorem dX6_mast_56 : decode cX6_mast 56 = .ok (.iload_n 3, 1) := by decide +kernel
theorem dX6_mast_57 : decode cX6_mast 57 = .ok (.ireturn, 1) := by decide +kernel
set_option maxRecDepth 20000 in
theorem ggX6_reverse_X2_keep : GoodIn wsX6_reverse wsX2_keep := goodIn_r _ [8, 9, 10, 11, 12, 13, 14, 15, 16, 17, 18, 19, 20, 21, 22, 23, 24, 25, 26, 27, 28, 29, 42, 43, 44, 45, 46, 47, 48, 49] (by decide +kernel) (by decide +kernel)
set_option maxRecDepth 20000 in
theorem gX6_reverse_X2_keep : GoodIn wsX6_reverse (wsV RX6 58 RX2 yX2_keep wsX2_keep) := goodIn_app (goodIn_of _ (by decide +kernel)) ggX6_reverse_X2_keep
set_option maxRecDepth 20000 in
theorem ggX6_reverse_X3_copyFrom : GoodIn wsX6_reverse wsX3_copyFrom := goodIn_r _ [20, 21, 22, 23, 24, 25, 19, 26, 27, 28, 29, 45, 46, 47, 48, 49] (by decide +kernel) (by decide +kernel)
set_option maxRecDepth 20000 in
theorem gX6_reverse_X3_copyFrom : GoodIn wsX6_reverse (wsV RX6 84 RX3 yX3_copyFrom wsX3_copyFrom) := goodIn_app (goodIn_of _ (by decide +kernel)) ggX6_reverse_X3_copyFrom
set_option maxRecDepth 20000 in
theorem ggX6_reverse_X3_takeReversed : GoodIn wsX6_reverse wsX3_takeReversed := goodIn_r _ [34, 27, 28, 29, 45, 46, 47, 48, 49] (by decide +kernel) (by decide +kernel)
set_option maxRecDepth 20000 in
theorem gX6_reverse_X3_takeReversed : GoodIn wsX6_reverse (wsV RX6 87 RX3 yX3_takeReversed wsX3_takeReversed) := goodIn_app (goodIn_of _ (by decide +kernel)) ggX6_reverse_X3_takeReversed
theorem dX6_reverse_0 : decode cX6_reverse 0 = .ok (.aload_n 0, 1) := by decide +kernel
theorem dX6_reverse_1 : decode cX6_reverse 1 = .ok (.getfield 22, 3) := by decide +kernel
theorem dX6_reverse_4 : decode cX6_reverse 4 = .ok (.aload_n 0, 1) := by decide +kernel
theorem dX6_reverse_5 : decode cX6_reverse 5 = .ok (.getfield 10, 3) := by decide +kernel
theorem dX6_reverse_8 : decode cX6_reverse 8 = .ok (.invokevirtual 58, 3) := by decide +kernel
theorem dX6_reverse_11 : decode cX6_reverse 11 = .ok (.aload_n 0, 1) := by decide +kernel
theorem dX6_reverse_12 : decode cX6_reverse 12 = .ok (.getfield 16, 3) := by decide +kernel
theorem dX6_reverse_15 : decode cX6_reverse 15 = .ok (.aload_n 0, 1) := by decide +kernel
theorem dX6_reverse_16 : decode cX6_reverse 16 = .ok (.getfield 10, 3) := by decide +kernel
theorem dX6_reverse_19 : decode cX6_reverse 19 = .ok (.invokevirtual 84, 3) := by decide +kernel
theorem dX6_reverse_22 : decode cX6_reverse 22 = .ok (.aload_n 0, 1) := by decide +kernel
theorem dX6_reverse_23 : decode cX6_reverse 23 = .ok (.getfield 10, 3) := by decide +kernel
theorem dX6_reverse_26 : decode cX6_reverse 26 = .ok (.aload_n 0, 1) := by decide +kernel
theorem dX6_reverse_27 : decode cX6_reverse 27 = .ok (.getfield 16, 3) := by decide +kernel
theorem dX6_reverse_30 : decode cX6_reverse 30 = .ok (.invokevirtual 87, 3) := by decide +kernel
theorem dX6_reverse_33 : decode cX6_reverse 33 = .ok (.ireturn, 1) := by decide +kernel
set_option maxRecDepth 20000 in
theorem ggX6_setRange_X6_within : GoodIn wsX6_setRange wsX6_within := goodIn_r _ [7] (by decide +kernel) (by decide +kernel)
set_option maxRecDepth 20000 in
theorem gX6_setRange_X6_within : GoodIn wsX6_setRange (va_wsS RX6 54 yX6_within wsX6_within) := goodIn_app (goodIn_of _ (by decide +kernel)) ggX6_setRange_X6_within
set_option maxRecDepth 20000 in
theorem ggX6_setRange_X2_keep : GoodIn wsX6_setRange wsX2_keep := goodIn_r _ [12, 13, 14, 15, 16, 17, 18, 19, 20, 21, 22, 23, 24, 25, 26, 27, 28, 29, 30, 31, 32, 33, 46, 47, 48, 41, 42, 43, 44, 45] (by decide +kernel) (by decide +kernel)
set_option maxRecDepth 20000 in
theorem gX6_setRange_X2_keep : GoodIn wsX6_setRange (wsV RX6 58 RX2 yX2_keep wsX2_keep) := goodIn_app (goodIn_of _ (by decide +kernel)) ggX6_setRange_X2_keep
theorem dX6_setRange_0 : decode cX6_setRange 0 = .ok (.iload_n 1, 1) := by decide +kernel
theorem dX6_setRange_1 : decode cX6_setRange 1 = .ok (.iconst 1, 1) := by decide +kernel
theorem dX6_setRange_2 : decode cX6_setRange 2 = .ok (.bipush 19, 2) := by decide +kernel
theorem dX6_setRange_4 : decode cX6_setRange 4 = .ok (.invokestatic 54, 3) := by decide +kernel
theorem dX6_setRange_7 : decode cX6_setRange 7 = .ok (.ifCond .ne 6, 3) := by decide +kernel
theorem dX6_setRange_10 : decode cX6_setRange 10 = .ok (.bipush (-2), 2) := by decide +kernel
theorem dX6_setRange_12 : decode cX6_setRange 12 = .ok (.ireturn, 1) := by decide +kernel
theorem dX6_setRange_13 : decode cX6_setRange 13 = .ok (.aload_n 0, 1) := by decide +kernel
theorem dX6_setRange_14 : decode cX6_setRange 14 = .ok (.getfield 22, 3) := by decide +kernel
theorem dX6_setRange_17 : decode cX6_setRange 17 = .ok (.aload_n 0, 1) := by decide +kernel
theorem dX6_setRange_18 : decode cX6_setRange 18 = .ok (.getfield 10, 3) := by decide +kernel
theorem dX6_setRange_21 : decode cX6_setRange 21 = .ok (.invokevirtual 58, 3) := by decide +kernel
theorem dX6_setRange_24 : decode cX6_setRange 24 = .ok (.aload_n 0, 1) := by decide +kernel
theorem dX6_setRange_25 : decode cX6_setRange 25 = .ok (.getfield 10, 3) := by decide +kernel
theorem dX6_setRange_28 : decode cX6_setRange 28 = .ok (.getfield 91, 3) := by decide +kernel
theorem dX6_setRange_31 : decode cX6_setRange 31 = .ok (.istore_n 2, 1) := by decide +kernel
theorem dX6_setRange_32 : decode cX6_setRange 32 = .ok (.aload_n 0, 1) := by decide +kernel
theorem dX6_setRange_33 : decode cX6_setRange 33 = .ok (.getfield 10, 3) := by decide +kernel
theorem dX6_setRange_36 : decode cX6_setRange 36 = .ok (.iload_n 1, 1) := by decide +kernel
theorem dX6_setRange_37 : decode cX6_setRange 37 = .ok (.putfield 91, 3) := by decide +kernel
theorem dX6_setRange_40 : decode cX6_setRange 40 = .ok (.iload_n 2, 1) := by decide +kernel
theorem dX6_setRange_41 : decode cX6_setRange 41 = .ok (.ireturn, 1) := by decide +kernel
set_option maxRecDepth 20000 in
theorem ggX6_setBulge_X6_within : GoodIn wsX6_setBulge wsX6_within := goodIn_r _ [7] (by decide +kernel) (by decide +kernel)
set_option maxRecDepth 20000 in
theorem gX6_setBulge_X6_within : GoodIn wsX6_setBulge (va_wsS RX6 54 yX6_within wsX6_within) := goodIn_app (goodIn_of _ (by decide +kernel)) ggX6_setBulge_X6_within
set_option maxRecDepth 20000 in
theorem ggX6_setBulge_X2_keep : GoodIn wsX6_setBulge wsX2_keep := goodIn_r _ [12, 13, 14, 15, 16, 17, 18, 19, 20, 21, 22, 23, 24, 25, 26, 27, 28, 29, 30, 31, 32, 33, 46, 47, 48, 41, 42, 43, 44, 45] (by decide +kernel) (by decide +kernel)
set_option maxRecDepth 20000 in
theorem gX6_setBulge_X2_keep : GoodIn wsX6_setBulge (wsV RX6 58 RX2 yX2_keep wsX2_keep) := goodIn_app (goodIn_of _ (by decide +kernel)) ggX6_setBulge_X2_keep
theorem dX6_setBulge_0 : decode cX6_setBulge 0 = .ok (.iload_n 1, 1) := by decide +kernel
theorem dX6_setBulge_1 : decode cX6_setBulge 1 = .ok (.iconst 0, 1) := by decide +kernel
theorem dX6_setBulge_2 : decode cX6_setBulge 2 = .ok (.bipush 9, 2) := by decide +kernel
theorem dX6_setBulge_4 : decode cX6_setBulge 4 = .ok (.invokestatic 54, 3) := by decide +kernel
theorem dX6_setBulge_7 : decode cX6_setBulge 7 = .ok (.ifCond .ne 6, 3) := by decide +kernel
theorem dX6_setBulge_10 : decode cX6_setBulge 10 = .ok (.bipush (-2), 2) := by decide +kernel
theorem dX6_setBulge_12 : decode cX6_setBulge 12 = .ok (.ireturn, 1) := by decide +kernel
theorem dX6_setBulge_13 : decode cX6_setBulge 13 = .ok (.aload_n 0, 1) := by decide +kernel
theorem dX6_setBulge_14 : decode cX6_setBulge 14 = .ok (.getfield 22, 3) := by decide +kernel
theorem dX6_setBulge_17 : decode cX6_setBulge 17 = .ok (.aload_n 0, 1) := by decide +kernel
theorem dX6_setBulge_18 : decode cX6_setBulge 18 = .ok (.getfield 10, 3) := by decide +kernel
theorem dX6_setBulge_21 : decode cX6_setBulge 21 = .ok (.invokevirtual 58, 3) := by decide +kernel
theorem dX6_setBulge_24 : decode cX6_setBulge 24 = .ok (.aload_n 0, 1) := by decide +kernel
theorem dX6_setBulge_25 : decode cX6_setBulge 25 = .ok (.getfield 10, 3) := by decide +kernel
theorem dX6_setBulge_28 : decode cX6_setBulge 28 = .ok (.getfield 95, 3) := by decide +kernel
theorem dX6_setBulge_31 : decode cX6_setBulge 31 = .ok (.istore_n 2, 1) := by decide +kernel
theorem dX6_setBulge_32 : decode cX6_setBulge 32 = .ok (.aload_n 0, 1) := by decide +kernel
theorem dX6_setBulge_33 : decode cX6_setBulge 33 = .ok (.getfield 10, 3) := by decide +kernel
theorem dX6_setBulge_36 : decode cX6_setBulge 36 = .ok (.iload_n 1, 1) := by decide +kernel
theorem dX6_setBulge_37 : decode cX6_setBulge 37 = .ok (.putfield 95, 3) := by decide +kernel
theorem dX6_setBulge_40 : decode cX6_setBulge 40 = .ok (.iload_n 2, 1) := by decide +kernel
theorem dX6_setBulge_41 : decode cX6_setBulge 41 = .ok (.ireturn, 1) := by decide +kernel
set_option maxRecDepth 20000 in
theorem ggX6_undo_X2_restore : GoodIn wsX6_undo wsX2_restore := goodIn_r _ [8, 9, 10, 11, 12, 13, 14, 15, 16, 17, 18, 19, 20, 21, 22, 23, 24, 25, 33, 34, 35, 36, 37, 38, 39, 40] (by decide +kernel) (by decide +kernel)
set_option maxRecDepth 20000 in
theorem gX6_undo_X2_restore : GoodIn wsX6_undo (wsV RX6 101 RX2 yX2_restore wsX2_restore) := goodIn_app (goodIn_of _ (by decide +kernel)) ggX6_undo_X2_restore
theorem dX6_undo_0 : decode cX6_undo 0 = .ok (.aload_n 0, 1) := by decide +kernel
theorem dX6_undo_1 : decode cX6_undo 1 = .ok (.getfield 22, 3) := by decide +kernel
theorem dX6_undo_4 : decode cX6_undo 4 = .ok (.getfield 98, 3) := by decide +kernel
theorem dX6_undo_7 : decode cX6_undo 7 = .ok (.ifCond .ne 6, 3) := by decide +kernel
theorem dX6_undo_10 : decode cX6_undo 10 = .ok (.bipush (-3), 2) := by decide +kernel
theorem dX6_undo_12 : decode cX6_undo 12 = .ok (.ireturn, 1) := by decide +kernel
theorem dX6_undo_13 : decode cX6_undo 13 = .ok (.aload_n 0, 1) := by decide +kernel
theorem dX6_undo_14 : decode cX6_undo 14 = .ok (.getfield 22, 3) := by decide +kernel
theorem dX6_undo_17 : decode cX6_undo 17 = .ok (.aload_n 0, 1) := by decide +kernel
theorem dX6_undo_18 : decode cX6_undo 18 = .ok (.getfield 10, 3) := by decide +kernel
theorem dX6_undo_21 : decode cX6_undo 21 = .ok (.invokevirtual 101, 3) := by decide +kernel
theorem dX6_undo_24 : decode cX6_undo 24 = .ok (.aload_n 0, 1) := by decide +kernel
theorem dX6_undo_25 : decode cX6_undo 25 = .ok (.getfield 22, 3) := by decide +kernel
