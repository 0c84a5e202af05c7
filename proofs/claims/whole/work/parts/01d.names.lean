theorem dX6_finding_40 : decode cX6_finding 40 = .ok (.getfield 170, 3) := by decide +kernel
theorem dX6_finding_43 : decode cX6_finding 43 = .ok (.if_icmp .ge 15, 3) := by decide +kernel
theorem dX6_finding_46 : decode cX6_finding 46 = .ok (.aload_n 0, 1) := by decide +kernel
theorem dX6_finding_47 : decode cX6_finding 47 = .ok (.getfield 36, 3) := by decide +kernel
theorem dX6_finding_50 : decode cX6_finding 50 = .ok (.getfield 188, 3) := by decide +kernel
theorem dX6_finding_53 : decode cX6_finding 53 = .ok (.iload_n 1, 1) := by decide +kernel
theorem dX6_finding_54 : decode cX6_finding 54 = .ok (.iaload, 1) := by decide +kernel
theorem dX6_finding_55 : decode cX6_finding 55 = .ok (.goto 4, 3) := by decide +kernel
theorem dX6_finding_58 : decode cX6_finding 58 = .ok (.iconst (-1), 1) := by decide +kernel
theorem dX6_finding_59 : decode cX6_finding 59 = .ok (.ireturn, 1) := by decide +kernel
set_option maxRecDepth 20000 in
theorem ggX6_groups_X4_survey : GoodIn wsX6_groups wsX4_survey := goodIn_r _ [7, 8, 9, 10, 11, 12, 13, 14, 15, 16, 17, 18, 19, 20, 21, 22, 23, 24, 25, 26, 27, 28, 29, 6, 30, 31, 32, 33, 34, 35, 36, 37, 38, 39, 40, 41, 42, 43, 44, 45, 46, 47, 48, 49, 50, 51, 70, 71, 72, 73, 74, 75, 76, 77, 78, 79, 80] (by decide +kernel) (by decide +kernel)
set_option maxRecDepth 20000 in
theorem gX6_groups_X4_survey : GoodIn wsX6_groups (wsV RX6 162 RX4 yX4_survey wsX4_survey) := goodIn_app (goodIn_of _ (by decide +kernel)) ggX6_groups_X4_survey
set_option maxRecDepth 20000 in
theorem ggX6_groups_X4_countGroups : GoodIn wsX6_groups wsX4_countGroups := goodIn_r _ [55, 9, 56, 57, 58, 59, 60, 61, 6, 62, 14, 75, 76, 77, 78, 79, 80] (by decide +kernel) (by decide +kernel)
set_option maxRecDepth 20000 in
theorem gX6_groups_X4_countGroups : GoodIn wsX6_groups (wsV RX6 190 RX4 yX4_countGroups wsX4_countGroups) := goodIn_app (goodIn_of _ (by decide +kernel)) ggX6_groups_X4_countGroups
theorem dX6_groups_0 : decode cX6_groups 0 = .ok (.aload_n 0, 1) := by decide +kernel
theorem dX6_groups_1 : decode cX6_groups 1 = .ok (.getfield 43, 3) := by decide +kernel
theorem dX6_groups_4 : decode cX6_groups 4 = .ok (.aload_n 0, 1) := by decide +kernel
theorem dX6_groups_5 : decode cX6_groups 5 = .ok (.getfield 10, 3) := by decide +kernel
theorem dX6_groups_8 : decode cX6_groups 8 = .ok (.iconst 0, 1) := by decide +kernel
theorem dX6_groups_9 : decode cX6_groups 9 = .ok (.invokevirtual 162, 3) := by decide +kernel
theorem dX6_groups_12 : decode cX6_groups 12 = .ok (.aload_n 0, 1) := by decide +kernel
theorem dX6_groups_13 : decode cX6_groups 13 = .ok (.getfield 43, 3) := by decide +kernel
theorem dX6_groups_16 : decode cX6_groups 16 = .ok (.invokevirtual 190, 3) := by decide +kernel
theorem dX6_groups_19 : decode cX6_groups 19 = .ok (.ireturn, 1) := by decide +kernel
set_option maxRecDepth 20000 in
theorem ggX6_watch_X6_within : GoodIn wsX6_watch wsX6_within := goodIn_r _ [7] (by decide +kernel) (by decide +kernel)
set_option maxRecDepth 20000 in
theorem gX6_watch_X6_within : GoodIn wsX6_watch (va_wsS RX6 54 yX6_within wsX6_within) := goodIn_app (goodIn_of _ (by decide +kernel)) ggX6_watch_X6_within
set_option maxRecDepth 20000 in
theorem ggX6_watch_X0_find : GoodIn wsX6_watch wsX0_find := goodIn_r _ [12, 13, 14, 15, 16, 17, 18, 19, 20, 21, 22, 23, 24, 25, 26, 27, 28, 29, 30, 31, 32, 33, 34, 35, 36, 37, 38, 39, 40, 41, 42, 43, 44, 45, 46, 47, 48, 49, 50, 51, 52, 11, 53, 78, 79, 80, 81, 82, 83, 84] (by decide +kernel) (by decide +kernel)
set_option maxRecDepth 20000 in
theorem gX6_watch_X0_find : GoodIn wsX6_watch (wsV RX6 193 RX0 yX0_find wsX0_find) := goodIn_app (goodIn_of _ (by decide +kernel)) ggX6_watch_X0_find
set_option maxRecDepth 20000 in
theorem ggX6_watch_X1_keepSet : GoodIn wsX6_watch wsX1_keepSet := goodIn_r _ [58, 59, 60, 61, 57, 62, 63, 64, 6, 65, 66, 67, 68, 69, 70, 85, 86] (by decide +kernel) (by decide +kernel)
set_option maxRecDepth 20000 in
theorem gX6_watch_X1_keepSet : GoodIn wsX6_watch (wsV RX6 184 RX1 yX1_keepSet wsX1_keepSet) := goodIn_app (goodIn_of _ (by decide +kernel)) ggX6_watch_X1_keepSet
theorem dX6_watch_0 : decode cX6_watch 0 = .ok (.iload_n 1, 1) := by decide +kernel
theorem dX6_watch_1 : decode cX6_watch 1 = .ok (.iconst 1, 1) := by decide +kernel
theorem dX6_watch_2 : decode cX6_watch 2 = .ok (.sipush 200, 3) := by decide +kernel
theorem dX6_watch_5 : decode cX6_watch 5 = .ok (.invokestatic 54, 3) := by decide +kernel
theorem dX6_watch_8 : decode cX6_watch 8 = .ok (.ifCond .ne 6, 3) := by decide +kernel
theorem dX6_watch_11 : decode cX6_watch 11 = .ok (.bipush (-2), 2) := by decide +kernel
theorem dX6_watch_13 : decode cX6_watch 13 = .ok (.ireturn, 1) := by decide +kernel
theorem dX6_watch_14 : decode cX6_watch 14 = .ok (.aload_n 0, 1) := by decide +kernel
theorem dX6_watch_15 : decode cX6_watch 15 = .ok (.getfield 50, 3) := by decide +kernel
theorem dX6_watch_18 : decode cX6_watch 18 = .ok (.aload_n 0, 1) := by decide +kernel
theorem dX6_watch_19 : decode cX6_watch 19 = .ok (.getfield 10, 3) := by decide +kernel
theorem dX6_watch_22 : decode cX6_watch 22 = .ok (.iload_n 1, 1) := by decide +kernel
theorem dX6_watch_23 : decode cX6_watch 23 = .ok (.invokevirtual 193, 3) := by decide +kernel
theorem dX6_watch_26 : decode cX6_watch 26 = .ok (.istore_n 2, 1) := by decide +kernel
theorem dX6_watch_27 : decode cX6_watch 27 = .ok (.aload_n 0, 1) := by decide +kernel
theorem dX6_watch_28 : decode cX6_watch 28 = .ok (.getfield 36, 3) := by decide +kernel
theorem dX6_watch_31 : decode cX6_watch 31 = .ok (.iload_n 2, 1) := by decide +kernel
theorem dX6_watch_32 : decode cX6_watch 32 = .ok (.invokevirtual 184, 3) := by decide +kernel
theorem dX6_watch_35 : decode cX6_watch 35 = .ok (.iload_n 2, 1) := by decide +kernel
theorem dX6_watch_36 : decode cX6_watch 36 = .ok (.ireturn, 1) := by decide +kernel
set_option maxRecDepth 20000 in
theorem ggX6_watched_X3_all : GoodIn wsX6_watched wsX3_all := goodIn_r _ [7, 8, 60, 61, 62, 63, 64] (by decide +kernel) (by decide +kernel)
set_option maxRecDepth 20000 in
theorem gX6_watched_X3_all : GoodIn wsX6_watched (wsV RX6 152 RX3 yX3_all wsX3_all) := goodIn_app (goodIn_of _ (by decide +kernel)) ggX6_watched_X3_all
set_option maxRecDepth 20000 in
theorem ggX6_watched_X6_holds : GoodIn wsX6_watched wsX6_holds := goodIn_r _ [12] (by decide +kernel) (by decide +kernel)
set_option maxRecDepth 20000 in
theorem gX6_watched_X6_holds : GoodIn wsX6_watched (va_wsS RX6 197 yX6_holds wsX6_holds) := goodIn_app (goodIn_of _ (by decide +kernel)) ggX6_watched_X6_holds
set_option maxRecDepth 20000 in
theorem ggX6_watched_X3_topOf : GoodIn wsX6_watched wsX3_topOf := goodIn_r _ [16, 17, 18, 19, 20, 21, 6, 22, 8, 60, 61, 62, 63, 64] (by decide +kernel) (by decide +kernel)
set_option maxRecDepth 20000 in
theorem gX6_watched_X3_topOf : GoodIn wsX6_watched (wsV RX6 118 RX3 yX3_topOf wsX3_topOf) := goodIn_app (goodIn_of _ (by decide +kernel)) ggX6_watched_X3_topOf
set_option maxRecDepth 20000 in
theorem ggX6_watched_X3_groundsSeen : GoodIn wsX6_watched wsX3_groundsSeen := goodIn_r _ [26, 8, 17, 27, 28, 29, 6, 30, 31, 32, 33, 34, 35, 36, 37, 38, 39, 40, 41, 42, 43, 44, 45, 19, 20, 21, 22, 60, 61, 62, 63, 64] (by decide +kernel) (by decide +kernel)
set_option maxRecDepth 20000 in
theorem gX6_watched_X3_groundsSeen : GoodIn wsX6_watched (wsV RX6 125 RX3 yX3_groundsSeen wsX3_groundsSeen) := goodIn_app (goodIn_of _ (by decide +kernel)) ggX6_watched_X3_groundsSeen
set_option maxRecDepth 20000 in
theorem ggX6_watched_J6_bitCount_0f7a4 : GoodIn wsX6_watched wsJ6_bitCount_0f7a4 := goodIn_r _ [49, 50, 51, 52] (by decide +kernel) (by decide +kernel)
set_option maxRecDepth 20000 in
theorem gX6_watched_J6_bitCount_0f7a4 : GoodIn wsX6_watched (va_wsS RX6 200 yJ6_bitCount_0f7a4 wsJ6_bitCount_0f7a4) := goodIn_app (goodIn_of _ (by decide +kernel)) ggX6_watched_J6_bitCount_0f7a4
theorem dX6_watched_0 : decode cX6_watched 0 = .ok (.iload_n 1, 1) := by decide +kernel
theorem dX6_watched_1 : decode cX6_watched 1 = .ok (.aload_n 0, 1) := by decide +kernel
theorem dX6_watched_2 : decode cX6_watched 2 = .ok (.getfield 10, 3) := by decide +kernel
theorem dX6_watched_5 : decode cX6_watched 5 = .ok (.invokevirtual 152, 3) := by decide +kernel
theorem dX6_watched_8 : decode cX6_watched 8 = .ok (.iconst (-1), 1) := by decide +kernel
theorem dX6_watched_9 : decode cX6_watched 9 = .ok (.ixor, 1) := by decide +kernel
theorem dX6_watched_10 : decode cX6_watched 10 = .ok (.iand, 1) := by decide +kernel
theorem dX6_watched_11 : decode cX6_watched 11 = .ok (.ifCond .eq 6, 3) := by decide +kernel
theorem dX6_watched_14 : decode cX6_watched 14 = .ok (.bipush (-2), 2) := by decide +kernel
theorem dX6_watched_16 : decode cX6_watched 16 = .ok (.ireturn, 1) := by decide +kernel
theorem dX6_watched_17 : decode cX6_watched 17 = .ok (.iconst 0, 1) := by decide +kernel
theorem dX6_watched_18 : decode cX6_watched 18 = .ok (.istore_n 2, 1) := by decide +kernel
theorem dX6_watched_19 : decode cX6_watched 19 = .ok (.iconst 0, 1) := by decide +kernel
theorem dX6_watched_20 : decode cX6_watched 20 = .ok (.istore_n 3, 1) := by decide +kernel
theorem dX6_watched_21 : decode cX6_watched 21 = .ok (.iload_n 3, 1) := by decide +kernel
theorem dX6_watched_22 : decode cX6_watched 22 = .ok (.aload_n 0, 1) := by decide +kernel
theorem dX6_watched_23 : decode cX6_watched 23 = .ok (.getfield 10, 3) := by decide +kernel
theorem dX6_watched_26 : decode cX6_watched 26 = .ok (.getfield 115, 3) := by decide +kernel
theorem dX6_watched_29 : decode cX6_watched 29 = .ok (.if_icmp .ge 36, 3) := by decide +kernel
theorem dX6_watched_32 : decode cX6_watched 32 = .ok (.iload_n 1, 1) := by decide +kernel
theorem dX6_watched_33 : decode cX6_watched 33 = .ok (.iload_n 3, 1) := by decide +kernel
theorem dX6_watched_34 : decode cX6_watched 34 = .ok (.invokestatic 197, 3) := by decide +kernel
theorem dX6_watched_37 : decode cX6_watched 37 = .ok (.ifCond .eq 22, 3) := by decide +kernel
theorem dX6_watched_40 : decode cX6_watched 40 = .ok (.iload_n 2, 1) := by decide +kernel
theorem dX6_watched_41 : decode cX6_watched 41 = .ok (.aload_n 0, 1) := by decide +kernel
theorem dX6_watched_42 : decode cX6_watched 42 = .ok (.getfield 10, 3) := by decide +kernel
theorem dX6_watched_45 : decode cX6_watched 45 = .ok (.iload_n 3, 1) := by decide +kernel
theorem dX6_watched_46 : decode cX6_watched 46 = .ok (.aload_n 0, 1) := by decide +kernel
theorem dX6_watched_47 : decode cX6_watched 47 = .ok (.getfield 10, 3) := by decide +kernel
theorem dX6_watched_50 : decode cX6_watched 50 = .ok (.iload_n 3, 1) := by decide +kernel
theorem dX6_watched_51 : decode cX6_watched 51 = .ok (.invokevirtual 118, 3) := by decide +kernel
theorem dX6_watched_54 : decode cX6_watched 54 = .ok (.invokevirtual 125, 3) := by decide +kernel
theorem dX6_watched_57 : decode cX6_watched 57 = .ok (.ior, 1) := by decide +kernel
theorem dX6_watched_58 : decode cX6_watched 58 = .ok (.istore_n 2, 1) := by decide +kernel
theorem dX6_watched_59 : decode cX6_watched 59 = .ok (.iinc 3 1, 3) := by decide +kernel
theorem dX6_watched_62 : decode cX6_watched 62 = .ok (.goto (-41), 3) := by decide +kernel
theorem dX6_watched_65 : decode cX6_watched 65 = .ok (.iload_n 2, 1) := by decide +kernel
theorem dX6_watched_66 : decode cX6_watched 66 = .ok (.invokestatic 200, 3) := by decide +kernel
theorem dX6_watched_69 : decode cX6_watched 69 = .ok (.ireturn, 1) := by decide +kernel
set_option maxRecDepth 20000 in
theorem ggX6_count_X3_countMasts : GoodIn wsX6_count wsX3_countMasts := goodIn_r _ [13, 14, 15, 63, 64, 65, 66, 67] (by decide +kernel) (by decide +kernel)
set_option maxRecDepth 20000 in
theorem gX6_count_X3_countMasts : GoodIn wsX6_count (wsV RX6 205 RX3 yX3_countMasts wsX3_countMasts) := goodIn_app (goodIn_of _ (by decide +kernel)) ggX6_count_X3_countMasts
set_option maxRecDepth 20000 in
theorem ggX6_count_X3_pairsWithin : GoodIn wsX6_count wsX3_pairsWithin := goodIn_r _ [19, 14, 20, 21, 22, 12, 23, 24, 25, 26, 27, 28, 15, 29, 30, 31, 32, 33, 34, 35, 36, 37, 38, 39, 40, 41, 42, 43, 44, 45, 46, 47, 48, 49, 50, 51, 63, 64, 65, 66, 67] (by decide +kernel) (by decide +kernel)
set_option maxRecDepth 20000 in
theorem gX6_count_X3_pairsWithin : GoodIn wsX6_count (wsV RX6 208 RX3 yX3_pairsWithin wsX3_pairsWithin) := goodIn_app (goodIn_of _ (by decide +kernel)) ggX6_count_X3_pairsWithin
set_option maxRecDepth 20000 in
theorem ggX6_count_X3_sumOfMasts : GoodIn wsX6_count wsX3_sumOfMasts := goodIn_r _ [55, 14, 15, 63, 64, 65, 66, 67] (by decide +kernel) (by decide +kernel)
set_option maxRecDepth 20000 in
theorem gX6_count_X3_sumOfMasts : GoodIn wsX6_count (wsV RX6 211 RX3 yX3_sumOfMasts wsX3_sumOfMasts) := goodIn_app (goodIn_of _ (by decide +kernel)) ggX6_count_X3_sumOfMasts
theorem dX6_count_0 : decode cX6_count 0 = .ok (.iload_n 1, 1) := by decide +kernel
theorem dX6_count_1 : decode cX6_count 1 = .ok (.tableswitch 132 0 8 #[51, 59, 67, 75, 83, 93, 108, 116, 124], 51) := by decide +kernel
theorem dX6_count_52 : decode cX6_count 52 = .ok (.aload_n 0, 1) := by decide +kernel
theorem dX6_count_53 : decode cX6_count 53 = .ok (.getfield 10, 3) := by decide +kernel
theorem dX6_count_56 : decode cX6_count 56 = .ok (.getfield 115, 3) := by decide +kernel
theorem dX6_count_59 : decode cX6_count 59 = .ok (.ireturn, 1) := by decide +kernel
theorem dX6_count_60 : decode cX6_count 60 = .ok (.aload_n 0, 1) := by decide +kernel
theorem dX6_count_61 : decode cX6_count 61 = .ok (.getfield 10, 3) := by decide +kernel
theorem dX6_count_64 : decode cX6_count 64 = .ok (.invokevirtual 205, 3) := by decide +kernel
theorem dX6_count_67 : decode cX6_count 67 = .ok (.ireturn, 1) := by decide +kernel
theorem dX6_count_68 : decode cX6_count 68 = .ok (.aload_n 0, 1) := by decide +kernel
theorem dX6_count_69 : decode cX6_count 69 = .ok (.getfield 10, 3) := by decide +kernel
theorem dX6_count_72 : decode cX6_count 72 = .ok (.getfield 91, 3) := by decide +kernel
theorem dX6_count_75 : decode cX6_count 75 = .ok (.ireturn, 1) := by decide +kernel
theorem dX6_count_76 : decode cX6_count 76 = .ok (.aload_n 0, 1) := by decide +kernel
theorem dX6_count_77 : decode cX6_count 77 = .ok (.getfield 10, 3) := by decide +kernel
theorem dX6_count_80 : decode cX6_count 80 = .ok (.getfield 95, 3) := by decide +kernel
theorem dX6_count_83 : decode cX6_count 83 = .ok (.ireturn, 1) := by decide +kernel
theorem dX6_count_84 : decode cX6_count 84 = .ok (.aload_n 0, 1) := by decide +kernel
theorem dX6_count_85 : decode cX6_count 85 = .ok (.getfield 10, 3) := by decide +kernel
theorem dX6_count_88 : decode cX6_count 88 = .ok (.bipush 19, 2) := by decide +kernel
theorem dX6_count_90 : decode cX6_count 90 = .ok (.invokevirtual 208, 3) := by decide +kernel
theorem dX6_count_93 : decode cX6_count 93 = .ok (.ireturn, 1) := by decide +kernel
theorem dX6_count_94 : decode cX6_count 94 = .ok (.aload_n 0, 1) := by decide +kernel
theorem dX6_count_95 : decode cX6_count 95 = .ok (.getfield 10, 3) := by decide +kernel
theorem dX6_count_98 : decode cX6_count 98 = .ok (.aload_n 0, 1) := by decide +kernel
theorem dX6_count_99 : decode cX6_count 99 = .ok (.getfield 10, 3) := by decide +kernel
theorem dX6_count_102 : decode cX6_count 102 = .ok (.getfield 91, 3) := by decide +kernel
theorem dX6_count_105 : decode cX6_count 105 = .ok (.invokevirtual 208, 3) := by decide +kernel
theorem dX6_count_108 : decode cX6_count 108 = .ok (.ireturn, 1) := by decide +kernel
theorem dX6_count_109 : decode cX6_count 109 = .ok (.aload_n 0, 1) := by decide +kernel
theorem dX6_count_110 : decode cX6_count 110 = .ok (.getfield 22, 3) := by decide +kernel
theorem dX6_count_113 : decode cX6_count 113 = .ok (.getfield 98, 3) := by decide +kernel
theorem dX6_count_116 : decode cX6_count 116 = .ok (.ireturn, 1) := by decide +kernel
theorem dX6_count_117 : decode cX6_count 117 = .ok (.aload_n 0, 1) := by decide +kernel
theorem dX6_count_118 : decode cX6_count 118 = .ok (.getfield 29, 3) := by decide +kernel
theorem dX6_count_121 : decode cX6_count 121 = .ok (.getfield 106, 3) := by decide +kernel
theorem dX6_count_124 : decode cX6_count 124 = .ok (.ireturn, 1) := by decide +kernel
theorem dX6_count_125 : decode cX6_count 125 = .ok (.aload_n 0, 1) := by decide +kernel
theorem dX6_count_126 : decode cX6_count 126 = .ok (.getfield 10, 3) := by decide +kernel
theorem dX6_count_129 : decode cX6_count 129 = .ok (.invokevirtual 211, 3) := by decide +kernel
theorem dX6_count_132 : decode cX6_count 132 = .ok (.ireturn, 1) := by decide +kernel
theorem dX6_count_133 : decode cX6_count 133 = .ok (.bipush (-2), 2) := by decide +kernel
theorem dX6_count_135 : decode cX6_count 135 = .ok (.ireturn, 1) := by decide +kernel
set_option maxRecDepth 20000 in
theorem ggX6_digest_X6_count : GoodIn wsX6_digest wsX6_count := goodIn_r _ [15, 3, 4, 16, 17, 18, 19, 8, 9, 20, 21, 22, 23, 24, 25, 26, 27, 28, 29, 30, 31, 32, 33, 34, 35, 36, 37, 38, 39, 40, 41, 42, 43, 44, 45, 46, 47, 48, 49, 50, 51, 52, 53, 54, 55, 56, 57, 58, 59, 60, 61, 62, 63, 64, 65, 66, 132, 133, 134, 135, 136, 137, 138, 139, 140, 141, 142, 143, 150, 151, 152, 146, 147, 148, 149] (by decide +kernel) (by decide +kernel)
set_option maxRecDepth 20000 in
theorem gX6_digest_X6_count : GoodIn wsX6_digest (wsV RX6 218 RX6 yX6_count wsX6_count) := goodIn_app (goodIn_of _ (by decide +kernel)) ggX6_digest_X6_count
set_option maxRecDepth 20000 in
theorem ggX6_digest_X6_station : GoodIn wsX6_digest wsX6_station := goodIn_r _ [70, 3, 71, 72, 73, 41, 42, 23, 43, 25, 74, 36, 37, 38, 39, 26, 40, 75, 76, 77, 78, 79, 80, 81, 82, 59, 60, 50, 61, 83, 35, 44, 45, 46, 47, 48, 49, 51, 52, 53, 54, 55, 56, 57, 58, 62, 84, 85, 86, 87, 88, 89, 90, 91, 132, 133, 134, 135, 136, 137, 138, 139, 140, 141, 142, 143] (by decide +kernel) (by decide +kernel)
set_option maxRecDepth 20000 in
theorem gX6_digest_X6_station : GoodIn wsX6_digest (wsV RX6 221 RX6 yX6_station wsX6_station) := goodIn_app (goodIn_of _ (by decide +kernel)) ggX6_digest_X6_station
set_option maxRecDepth 20000 in
theorem ggX6_digest_X6_groups : GoodIn wsX6_digest wsX6_groups := goodIn_r _ [95, 96, 3, 97, 98, 99, 100, 101, 102, 103, 104, 105, 106, 107, 108, 109, 36, 37, 23, 38, 39, 26, 40, 41, 42, 43, 25, 110, 111, 112, 113, 114, 60, 50, 61, 115, 116, 45, 46, 47, 48, 49, 51, 52, 53, 54, 55, 56, 57, 58, 59, 62, 117, 118, 119, 120, 121, 14, 122, 123, 124, 125, 126, 132, 133, 134, 135, 136, 137, 138, 139, 140, 141, 142, 143, 153, 154, 155, 156, 157, 158] (by decide +kernel) (by decide +kernel)
set_option maxRecDepth 20000 in
theorem gX6_digest_X6_groups : GoodIn wsX6_digest (wsV RX6 224 RX6 yX6_groups wsX6_groups) := goodIn_app (goodIn_of _ (by decide +kernel)) ggX6_digest_X6_groups
set_option maxRecDepth 20000 in
theorem ggX6_digest_X6_farthest : GoodIn wsX6_digest wsX6_farthest := goodIn_r _ [130, 3, 4, 131, 80, 81, 23, 82, 59, 60, 50, 61, 83, 35, 36, 37, 38, 39, 26, 40, 41, 42, 43, 25, 44, 45, 46, 47, 48, 49, 51, 52, 53, 54, 55, 56, 57, 58, 62, 132, 133, 134, 135, 136, 137, 138, 139, 140, 141, 142, 143] (by decide +kernel) (by decide +kernel)
set_option maxRecDepth 20000 in
theorem gX6_digest_X6_farthest : GoodIn wsX6_digest (wsV RX6 227 RX6 yX6_farthest wsX6_farthest) := goodIn_app (goodIn_of _ (by decide +kernel)) ggX6_digest_X6_farthest
theorem dX6_digest_0 : decode cX6_digest 0 = .ok (.ldc2_w 214, 3) := by decide +kernel
theorem dX6_digest_3 : decode cX6_digest 3 = .ok (.lstore_n 1, 1) := by decide +kernel
theorem dX6_digest_4 : decode cX6_digest 4 = .ok (.iconst 0, 1) := by decide +kernel
theorem dX6_digest_5 : decode cX6_digest 5 = .ok (.istore_n 3, 1) := by decide +kernel
theorem dX6_digest_6 : decode cX6_digest 6 = .ok (.iload_n 3, 1) := by decide +kernel
theorem dX6_digest_7 : decode cX6_digest 7 = .ok (.bipush 9, 2) := by decide +kernel
theorem dX6_digest_9 : decode cX6_digest 9 = .ok (.if_icmp .ge 22, 3) := by decide +kernel
theorem dX6_digest_12 : decode cX6_digest 12 = .ok (.ldc2_w 216, 3) := by decide +kernel
theorem dX6_digest_15 : decode cX6_digest 15 = .ok (.lload_n 1, 1) := by decide +kernel
theorem dX6_digest_16 : decode cX6_digest 16 = .ok (.lmul, 1) := by decide +kernel
theorem dX6_digest_17 : decode cX6_digest 17 = .ok (.aload_n 0, 1) := by decide +kernel
theorem dX6_digest_18 : decode cX6_digest 18 = .ok (.iload_n 3, 1) := by decide +kernel
theorem dX6_digest_19 : decode cX6_digest 19 = .ok (.invokevirtual 218, 3) := by decide +kernel
theorem dX6_digest_22 : decode cX6_digest 22 = .ok (.i2l, 1) := by decide +kernel
theorem dX6_digest_23 : decode cX6_digest 23 = .ok (.ladd, 1) := by decide +kernel
theorem dX6_digest_24 : decode cX6_digest 24 = .ok (.lstore_n 1, 1) := by decide +kernel
theorem dX6_digest_25 : decode cX6_digest 25 = .ok (.iinc 3 1, 3) := by decide +kernel
theorem dX6_digest_28 : decode cX6_digest 28 = .ok (.goto (-22), 3) := by decide +kernel
theorem dX6_digest_31 : decode cX6_digest 31 = .ok (.iconst 0, 1) := by decide +kernel
theorem dX6_digest_32 : decode cX6_digest 32 = .ok (.istore_n 3, 1) := by decide +kernel
theorem dX6_digest_33 : decode cX6_digest 33 = .ok (.iload_n 3, 1) := by decide +kernel
theorem dX6_digest_34 : decode cX6_digest 34 = .ok (.aload_n 0, 1) := by decide +kernel
theorem dX6_digest_35 : decode cX6_digest 35 = .ok (.getfield 10, 3) := by decide +kernel
theorem dX6_digest_38 : decode cX6_digest 38 = .ok (.getfield 115, 3) := by decide +kernel
theorem dX6_digest_41 : decode cX6_digest 41 = .ok (.if_icmp .ge 40, 3) := by decide +kernel
theorem dX6_digest_44 : decode cX6_digest 44 = .ok (.iconst 0, 1) := by decide +kernel
theorem dX6_digest_45 : decode cX6_digest 45 = .ok (.istore 4, 2) := by decide +kernel
theorem dX6_digest_47 : decode cX6_digest 47 = .ok (.iload 4, 2) := by decide +kernel
theorem dX6_digest_49 : decode cX6_digest 49 = .ok (.bipush 6, 2) := by decide +kernel
theorem dX6_digest_51 : decode cX6_digest 51 = .ok (.if_icmp .ge 24, 3) := by decide +kernel
theorem dX6_digest_54 : decode cX6_digest 54 = .ok (.ldc2_w 216, 3) := by decide +kernel
theorem dX6_digest_57 : decode cX6_digest 57 = .ok (.lload_n 1, 1) := by decide +kernel
theorem dX6_digest_58 : decode cX6_digest 58 = .ok (.lmul, 1) := by decide +kernel
theorem dX6_digest_59 : decode cX6_digest 59 = .ok (.aload_n 0, 1) := by decide +kernel
theorem dX6_digest_60 : decode cX6_digest 60 = .ok (.iload_n 3, 1) := by decide +kernel
theorem dX6_digest_61 : decode cX6_digest 61 = .ok (.iload 4, 2) := by decide +kernel
theorem dX6_digest_63 : decode cX6_digest 63 = .ok (.invokevirtual 221, 3) := by decide +kernel
theorem dX6_digest_66 : decode cX6_digest 66 = .ok (.i2l, 1) := by decide +kernel
theorem dX6_digest_67 : decode cX6_digest 67 = .ok (.ladd, 1) := by decide +kernel
theorem dX6_digest_68 : decode cX6_digest 68 = .ok (.lstore_n 1, 1) := by decide +kernel
theorem dX6_digest_69 : decode cX6_digest 69 = .ok (.iinc 4 1, 3) := by decide +kernel
theorem dX6_digest_72 : decode cX6_digest 72 = .ok (.goto (-25), 3) := by decide +kernel
theorem dX6_digest_75 : decode cX6_digest 75 = .ok (.iinc 3 1, 3) := by decide +kernel
theorem dX6_digest_78 : decode cX6_digest 78 = .ok (.goto (-45), 3) := by decide +kernel
theorem dX6_digest_81 : decode cX6_digest 81 = .ok (.ldc2_w 216, 3) := by decide +kernel
theorem dX6_digest_84 : decode cX6_digest 84 = .ok (.lload_n 1, 1) := by decide +kernel
theorem dX6_digest_85 : decode cX6_digest 85 = .ok (.lmul, 1) := by decide +kernel
theorem dX6_digest_86 : decode cX6_digest 86 = .ok (.aload_n 0, 1) := by decide +kernel
theorem dX6_digest_87 : decode cX6_digest 87 = .ok (.invokevirtual 224, 3) := by decide +kernel
theorem dX6_digest_90 : decode cX6_digest 90 = .ok (.i2l, 1) := by decide +kernel
theorem dX6_digest_91 : decode cX6_digest 91 = .ok (.ladd, 1) := by decide +kernel
theorem dX6_digest_92 : decode cX6_digest 92 = .ok (.lstore_n 1, 1) := by decide +kernel
theorem dX6_digest_93 : decode cX6_digest 93 = .ok (.ldc2_w 216, 3) := by decide +kernel
theorem dX6_digest_96 : decode cX6_digest 96 = .ok (.lload_n 1, 1) := by decide +kernel
theorem dX6_digest_97 : decode cX6_digest 97 = .ok (.lmul, 1) := by decide +kernel
theorem dX6_digest_98 : decode cX6_digest 98 = .ok (.aload_n 0, 1) := by decide +kernel
theorem dX6_digest_99 : decode cX6_digest 99 = .ok (.invokevirtual 227, 3) := by decide +kernel
theorem dX6_digest_102 : decode cX6_digest 102 = .ok (.i2l, 1) := by decide +kernel
theorem dX6_digest_103 : decode cX6_digest 103 = .ok (.ladd, 1) := by decide +kernel
theorem dX6_digest_104 : decode cX6_digest 104 = .ok (.lstore_n 1, 1) := by decide +kernel
theorem dX6_digest_105 : decode cX6_digest 105 = .ok (.iconst 0, 1) := by decide +kernel
theorem dX6_digest_106 : decode cX6_digest 106 = .ok (.istore_n 3, 1) := by decide +kernel
theorem dX6_digest_107 : decode cX6_digest 107 = .ok (.iload_n 3, 1) := by decide +kernel
theorem dX6_digest_108 : decode cX6_digest 108 = .ok (.aload_n 0, 1) := by decide +kernel
theorem dX6_digest_109 : decode cX6_digest 109 = .ok (.getfield 36, 3) := by decide +kernel
theorem dX6_digest_112 : decode cX6_digest 112 = .ok (.getfield 170, 3) := by decide +kernel
theorem dX6_digest_115 : decode cX6_digest 115 = .ok (.if_icmp .ge 26, 3) := by decide +kernel
theorem dX6_digest_118 : decode cX6_digest 118 = .ok (.ldc2_w 216, 3) := by decide +kernel
theorem dX6_digest_121 : decode cX6_digest 121 = .ok (.lload_n 1, 1) := by decide +kernel
theorem dX6_digest_122 : decode cX6_digest 122 = .ok (.lmul, 1) := by decide +kernel
theorem dX6_digest_123 : decode cX6_digest 123 = .ok (.aload_n 0, 1) := by decide +kernel
theorem dX6_digest_124 : decode cX6_digest 124 = .ok (.getfield 36, 3) := by decide +kernel
theorem dX6_digest_127 : decode cX6_digest 127 = .ok (.getfield 188, 3) := by decide +kernel
theorem dX6_digest_130 : decode cX6_digest 130 = .ok (.iload_n 3, 1) := by decide +kernel
theorem dX6_digest_131 : decode cX6_digest 131 = .ok (.iaload, 1) := by decide +kernel
theorem dX6_digest_132 : decode cX6_digest 132 = .ok (.i2l, 1) := by decide +kernel
theorem dX6_digest_133 : decode cX6_digest 133 = .ok (.ladd, 1) := by decide +kernel
theorem dX6_digest_134 : decode cX6_digest 134 = .ok (.lstore_n 1, 1) := by decide +kernel
theorem dX6_digest_135 : decode cX6_digest 135 = .ok (.iinc 3 1, 3) := by decide +kernel
theorem dX6_digest_138 : decode cX6_digest 138 = .ok (.goto (-31), 3) := by decide +kernel
theorem dX6_digest_141 : decode cX6_digest 141 = .ok (.iconst 0, 1) := by decide +kernel
theorem dX6_digest_142 : decode cX6_digest 142 = .ok (.istore_n 3, 1) := by decide +kernel
theorem dX6_digest_143 : decode cX6_digest 143 = .ok (.iload_n 3, 1) := by decide +kernel
theorem dX6_digest_144 : decode cX6_digest 144 = .ok (.aload_n 0, 1) := by decide +kernel
theorem dX6_digest_145 : decode cX6_digest 145 = .ok (.getfield 29, 3) := by decide +kernel
theorem dX6_digest_148 : decode cX6_digest 148 = .ok (.getfield 106, 3) := by decide +kernel
theorem dX6_digest_151 : decode cX6_digest 151 = .ok (.if_icmp .ge 26, 3) := by decide +kernel
theorem dX6_digest_154 : decode cX6_digest 154 = .ok (.ldc2_w 216, 3) := by decide +kernel
theorem dX6_digest_157 : decode cX6_digest 157 = .ok (.lload_n 1, 1) := by decide +kernel
theorem dX6_digest_158 : decode cX6_digest 158 = .ok (.lmul, 1) := by decide +kernel
theorem dX6_digest_159 : decode cX6_digest 159 = .ok (.aload_n 0, 1) := by decide +kernel
theorem dX6_digest_160 : decode cX6_digest 160 = .ok (.getfield 29, 3) := by decide +kernel
theorem dX6_digest_163 : decode cX6_digest 163 = .ok (.getfield 230, 3) := by decide +kernel
theorem dX6_digest_166 : decode cX6_digest 166 = .ok (.iload_n 3, 1) := by decide +kernel
theorem dX6_digest_167 : decode cX6_digest 167 = .ok (.baload, 1) := by decide +kernel
theorem dX6_digest_168 : decode cX6_digest 168 = .ok (.i2l, 1) := by decide +kernel
theorem dX6_digest_169 : decode cX6_digest 169 = .ok (.ladd, 1) := by decide +kernel
theorem dX6_digest_170 : decode cX6_digest 170 = .ok (.lstore_n 1, 1) := by decide +kernel
theorem dX6_digest_171 : decode cX6_digest 171 = .ok (.iinc 3 1, 3) := by decide +kernel
theorem dX6_digest_174 : decode cX6_digest 174 = .ok (.goto (-31), 3) := by decide +kernel
theorem dX6_digest_177 : decode cX6_digest 177 = .ok (.lload_n 1, 1) := by decide +kernel
theorem dX6_digest_178 : decode cX6_digest 178 = .ok (.lreturn, 1) := by decide +kernel
theorem dX6_within_0 : decode cX6_within 0 = .ok (.iload_n 0, 1) := by decide +kernel
theorem dX6_within_1 : decode cX6_within 1 = .ok (.iload_n 1, 1) := by decide +kernel
theorem dX6_within_2 : decode cX6_within 2 = .ok (.if_icmp .lt 12, 3) := by decide +kernel
theorem dX6_within_5 : decode cX6_within 5 = .ok (.iload_n 0, 1) := by decide +kernel
theorem dX6_within_6 : decode cX6_within 6 = .ok (.iload_n 2, 1) := by decide +kernel
theorem dX6_within_7 : decode cX6_within 7 = .ok (.if_icmp .gt 7, 3) := by decide +kernel
theorem dX6_within_10 : decode cX6_within 10 = .ok (.iconst 1, 1) := by decide +kernel
theorem dX6_within_11 : decode cX6_within 11 = .ok (.goto 4, 3) := by decide +kernel
theorem dX6_within_14 : decode cX6_within 14 = .ok (.iconst 0, 1) := by decide +kernel
theorem dX6_within_15 : decode cX6_within 15 = .ok (.ireturn, 1) := by decide +kernel
theorem dX6_holds_0 : decode cX6_holds 0 = .ok (.iload_n 0, 1) := by decide +kernel
theorem dX6_holds_1 : decode cX6_holds 1 = .ok (.iload_n 1, 1) := by decide +kernel
theorem dX6_holds_2 : decode cX6_holds 2 = .ok (.ishr, 1) := by decide +kernel
theorem dX6_holds_3 : decode cX6_holds 3 = .ok (.iconst 1, 1) := by decide +kernel
theorem dX6_holds_4 : decode cX6_holds 4 = .ok (.iand, 1) := by decide +kernel
theorem dX6_holds_5 : decode cX6_holds 5 = .ok (.iconst 1, 1) := by decide +kernel
theorem dX6_holds_6 : decode cX6_holds 6 = .ok (.if_icmp .ne 7, 3) := by decide +kernel
theorem dX6_holds_9 : decode cX6_holds 9 = .ok (.iconst 1, 1) := by decide +kernel
theorem dX6_holds_10 : decode cX6_holds 10 = .ok (.goto 4, 3) := by decide +kernel
theorem dX6_holds_13 : decode cX6_holds 13 = .ok (.iconst 0, 1) := by decide +kernel
theorem dX6_holds_14 : decode cX6_holds 14 = .ok (.ireturn, 1) := by decide +kernel
set_option maxRecDepth 20000 in
theorem ggX6_nthOf_X6_holds : GoodIn wsX6_nthOf wsX6_holds := goodIn_r _ [4] (by decide +kernel) (by decide +kernel)
set_option maxRecDepth 20000 in
theorem gX6_nthOf_X6_holds : GoodIn wsX6_nthOf (va_wsS RX6 197 yX6_holds wsX6_holds) := goodIn_app (goodIn_of _ (by decide +kernel)) ggX6_nthOf_X6_holds
theorem dX6_nthOf_0 : decode cX6_nthOf 0 = .ok (.iconst 0, 1) := by decide +kernel
theorem dX6_nthOf_1 : decode cX6_nthOf 1 = .ok (.istore_n 2, 1) := by decide +kernel
theorem dX6_nthOf_2 : decode cX6_nthOf 2 = .ok (.iconst 0, 1) := by decide +kernel
theorem dX6_nthOf_3 : decode cX6_nthOf 3 = .ok (.istore_n 3, 1) := by decide +kernel
theorem dX6_nthOf_4 : decode cX6_nthOf 4 = .ok (.iload_n 3, 1) := by decide +kernel
theorem dX6_nthOf_5 : decode cX6_nthOf 5 = .ok (.bipush 20, 2) := by decide +kernel
theorem dX6_nthOf_7 : decode cX6_nthOf 7 = .ok (.if_icmp .ge 27, 3) := by decide +kernel
theorem dX6_nthOf_10 : decode cX6_nthOf 10 = .ok (.iload_n 0, 1) := by decide +kernel
theorem dX6_nthOf_11 : decode cX6_nthOf 11 = .ok (.iload_n 3, 1) := by decide +kernel
theorem dX6_nthOf_12 : decode cX6_nthOf 12 = .ok (.invokestatic 197, 3) := by decide +kernel
theorem dX6_nthOf_15 : decode cX6_nthOf 15 = .ok (.ifCond .eq 13, 3) := by decide +kernel
theorem dX6_nthOf_18 : decode cX6_nthOf 18 = .ok (.iload_n 2, 1) := by decide +kernel
theorem dX6_nthOf_19 : decode cX6_nthOf 19 = .ok (.iload_n 1, 1) := by decide +kernel
theorem dX6_nthOf_20 : decode cX6_nthOf 20 = .ok (.if_icmp .ne 5, 3) := by decide +kernel
theorem dX6_nthOf_23 : decode cX6_nthOf 23 = .ok (.iload_n 3, 1) := by decide +kernel
theorem dX6_nthOf_24 : decode cX6_nthOf 24 = .ok (.ireturn, 1) := by decide +kernel
theorem dX6_nthOf_25 : decode cX6_nthOf 25 = .ok (.iinc 2 1, 3) := by decide +kernel
theorem dX6_nthOf_28 : decode cX6_nthOf 28 = .ok (.iinc 3 1, 3) := by decide +kernel
theorem dX6_nthOf_31 : decode cX6_nthOf 31 = .ok (.goto (-27), 3) := by decide +kernel
theorem dX6_nthOf_34 : decode cX6_nthOf 34 = .ok (.iconst (-1), 1) := by decide +kernel
theorem dX6_nthOf_35 : decode cX6_nthOf 35 = .ok (.ireturn, 1) := by decide +kernel
theorem dX7_init_0 : decode cX7_init 0 = .ok (.aload_n 0, 1) := by decide +kernel
theorem dX7_init_1 : decode cX7_init 1 = .ok (.invokespecial 1, 3) := by decide +kernel
theorem dX7_init_4 : decode cX7_init 4 = .ok (.aload_n 0, 1) := by decide +kernel
theorem dX7_init_5 : decode cX7_init 5 = .ok (.bipush 43, 2) := by decide +kernel
theorem dX7_init_7 : decode cX7_init 7 = .ok (.newarray .int, 2) := by decide +kernel
theorem dX7_init_9 : decode cX7_init 9 = .ok (.putfield 7, 3) := by decide +kernel
theorem dX7_init_12 : decode cX7_init 12 = .ok (.aload_n 0, 1) := by decide +kernel
theorem dX7_init_13 : decode cX7_init 13 = .ok (.sipush 430, 3) := by decide +kernel
theorem dX7_init_16 : decode cX7_init 16 = .ok (.newarray .int, 2) := by decide +kernel
theorem dX7_init_18 : decode cX7_init 18 = .ok (.putfield 13, 3) := by decide +kernel
theorem dX7_init_21 : decode cX7_init 21 = .ok (.aload_n 0, 1) := by decide +kernel
theorem dX7_init_22 : decode cX7_init 22 = .ok (.bipush 20, 2) := by decide +kernel
theorem dX7_init_24 : decode cX7_init 24 = .ok (.newarray .int, 2) := by decide +kernel
theorem dX7_init_26 : decode cX7_init 26 = .ok (.putfield 16, 3) := by decide +kernel
theorem dX7_init_29 : decode cX7_init 29 = .ok (.aload_n 0, 1) := by decide +kernel
theorem dX7_init_30 : decode cX7_init 30 = .ok (.iconst (-1), 1) := by decide +kernel
theorem dX7_init_31 : decode cX7_init 31 = .ok (.putfield 19, 3) := by decide +kernel
theorem dX7_init_34 : decode cX7_init 34 = .ok (.aload_n 0, 1) := by decide +kernel
theorem dX7_init_35 : decode cX7_init 35 = .ok (.bipush 120, 2) := by decide +kernel
theorem dX7_init_37 : decode cX7_init 37 = .ok (.newarray .int, 2) := by decide +kernel
theorem dX7_init_39 : decode cX7_init 39 = .ok (.putfield 23, 3) := by decide +kernel
theorem dX7_init_42 : decode cX7_init 42 = .ok (.aload_n 0, 1) := by decide +kernel
theorem dX7_init_43 : decode cX7_init 43 = .ok (.bipush 20, 2) := by decide +kernel
theorem dX7_init_45 : decode cX7_init 45 = .ok (.newarray .int, 2) := by decide +kernel
theorem dX7_init_47 : decode cX7_init 47 = .ok (.putfield 26, 3) := by decide +kernel
theorem dX7_init_50 : decode cX7_init 50 = .ok (.aload_n 0, 1) := by decide +kernel
theorem dX7_init_51 : decode cX7_init 51 = .ok (.bipush 20, 2) := by decide +kernel
theorem dX7_init_53 : decode cX7_init 53 = .ok (.newarray .int, 2) := by decide +kernel
theorem dX7_init_55 : decode cX7_init 55 = .ok (.putfield 29, 3) := by decide +kernel
theorem dX7_init_58 : decode cX7_init 58 = .ok (.aload_n 0, 1) := by decide +kernel
theorem dX7_init_59 : decode cX7_init 59 = .ok (.bipush 20, 2) := by decide +kernel
theorem dX7_init_61 : decode cX7_init 61 = .ok (.newarray .int, 2) := by decide +kernel
theorem dX7_init_63 : decode cX7_init 63 = .ok (.putfield 32, 3) := by decide +kernel
theorem dX7_init_66 : decode cX7_init 66 = .ok (.aload_n 0, 1) := by decide +kernel
theorem dX7_init_67 : decode cX7_init 67 = .ok (.bipush 20, 2) := by decide +kernel
theorem dX7_init_69 : decode cX7_init 69 = .ok (.newarray .int, 2) := by decide +kernel
theorem dX7_init_71 : decode cX7_init 71 = .ok (.putfield 35, 3) := by decide +kernel
theorem dX7_init_74 : decode cX7_init 74 = .ok (.aload_n 0, 1) := by decide +kernel
theorem dX7_init_75 : decode cX7_init 75 = .ok (.getfield 7, 3) := by decide +kernel
theorem dX7_init_78 : decode cX7_init 78 = .ok (.iconst 0, 1) := by decide +kernel
theorem dX7_init_79 : decode cX7_init 79 = .ok (.iconst 2, 1) := by decide +kernel
theorem dX7_init_80 : decode cX7_init 80 = .ok (.iastore, 1) := by decide +kernel
theorem dX7_init_81 : decode cX7_init 81 = .ok (.aload_n 0, 1) := by decide +kernel
theorem dX7_init_82 : decode cX7_init 82 = .ok (.getfield 7, 3) := by decide +kernel
theorem dX7_init_85 : decode cX7_init 85 = .ok (.iconst 1, 1) := by decide +kernel
theorem dX7_init_86 : decode cX7_init 86 = .ok (.bipush 19, 2) := by decide +kernel
theorem dX7_init_88 : decode cX7_init 88 = .ok (.iastore, 1) := by decide +kernel
theorem dX7_init_89 : decode cX7_init 89 = .ok (.return_, 1) := by decide +kernel
theorem dX7_in_0 : decode cX7_in 0 = .ok (.iload_n 0, 1) := by decide +kernel
theorem dX7_in_1 : decode cX7_in 1 = .ok (.iload_n 1, 1) := by decide +kernel
theorem dX7_in_2 : decode cX7_in 2 = .ok (.if_icmp .lt 12, 3) := by decide +kernel
theorem dX7_in_5 : decode cX7_in 5 = .ok (.iload_n 0, 1) := by decide +kernel
theorem dX7_in_6 : decode cX7_in 6 = .ok (.iload_n 2, 1) := by decide +kernel
theorem dX7_in_7 : decode cX7_in 7 = .ok (.if_icmp .gt 7, 3) := by decide +kernel
theorem dX7_in_10 : decode cX7_in 10 = .ok (.iconst 1, 1) := by decide +kernel
theorem dX7_in_11 : decode cX7_in 11 = .ok (.goto 4, 3) := by decide +kernel
theorem dX7_in_14 : decode cX7_in 14 = .ok (.iconst 0, 1) := by decide +kernel
theorem dX7_in_15 : decode cX7_in 15 = .ok (.ireturn, 1) := by decide +kernel
set_option maxRecDepth 20000 in
theorem ggX7_isStation_X7_in : GoodIn wsX7_isStation wsX7_in := goodIn_r _ [5] (by decide +kernel) (by decide +kernel)
set_option maxRecDepth 20000 in
theorem gX7_isStation_X7_in : GoodIn wsX7_isStation (va_wsS RX7 38 yX7_in wsX7_in) := goodIn_app (goodIn_of _ (by decide +kernel)) ggX7_isStation_X7_in
theorem dX7_isStation_0 : decode cX7_isStation 0 = .ok (.iload_n 1, 1) := by decide +kernel
theorem dX7_isStation_1 : decode cX7_isStation 1 = .ok (.iconst 0, 1) := by decide +kernel
theorem dX7_isStation_2 : decode cX7_isStation 2 = .ok (.aload_n 0, 1) := by decide +kernel
theorem dX7_isStation_3 : decode cX7_isStation 3 = .ok (.getfield 7, 3) := by decide +kernel
theorem dX7_isStation_6 : decode cX7_isStation 6 = .ok (.iconst 0, 1) := by decide +kernel
theorem dX7_isStation_7 : decode cX7_isStation 7 = .ok (.iaload, 1) := by decide +kernel
theorem dX7_isStation_8 : decode cX7_isStation 8 = .ok (.iconst 1, 1) := by decide +kernel
theorem dX7_isStation_9 : decode cX7_isStation 9 = .ok (.isub, 1) := by decide +kernel
theorem dX7_isStation_10 : decode cX7_isStation 10 = .ok (.invokestatic 38, 3) := by decide +kernel
theorem dX7_isStation_13 : decode cX7_isStation 13 = .ok (.ireturn, 1) := by decide +kernel
theorem dX7_keeps_0 : decode cX7_keeps 0 = .ok (.aload_n 0, 1) := by decide +kernel
theorem dX7_keeps_1 : decode cX7_keeps 1 = .ok (.getfield 42, 3) := by decide +kernel
theorem dX7_keeps_4 : decode cX7_keeps 4 = .ok (.bipush 10, 2) := by decide +kernel
theorem dX7_keeps_6 : decode cX7_keeps 6 = .ok (.if_icmp .ne 43, 3) := by decide +kernel
theorem dX7_keeps_9 : decode cX7_keeps 9 = .ok (.iconst 0, 1) := by decide +kernel
theorem dX7_keeps_10 : decode cX7_keeps 10 = .ok (.istore_n 1, 1) := by decide +kernel
theorem dX7_keeps_11 : decode cX7_keeps 11 = .ok (.iload_n 1, 1) := by decide +kernel
theorem dX7_keeps_12 : decode cX7_keeps 12 = .ok (.sipush 387, 3) := by decide +kernel
theorem dX7_keeps_15 : decode cX7_keeps 15 = .ok (.if_icmp .ge 24, 3) := by decide +kernel
theorem dX7_keeps_18 : decode cX7_keeps 18 = .ok (.aload_n 0, 1) := by decide +kernel
theorem dX7_keeps_19 : decode cX7_keeps 19 = .ok (.getfield 13, 3) := by decide +kernel
theorem dX7_keeps_22 : decode cX7_keeps 22 = .ok (.iload_n 1, 1) := by decide +kernel
theorem dX7_keeps_23 : decode cX7_keeps 23 = .ok (.aload_n 0, 1) := by decide +kernel
theorem dX7_keeps_24 : decode cX7_keeps 24 = .ok (.getfield 13, 3) := by decide +kernel
theorem dX7_keeps_27 : decode cX7_keeps 27 = .ok (.iload_n 1, 1) := by decide +kernel
theorem dX7_keeps_28 : decode cX7_keeps 28 = .ok (.bipush 43, 2) := by decide +kernel
theorem dX7_keeps_30 : decode cX7_keeps 30 = .ok (.iadd, 1) := by decide +kernel
theorem dX7_keeps_31 : decode cX7_keeps 31 = .ok (.iaload, 1) := by decide +kernel
theorem dX7_keeps_32 : decode cX7_keeps 32 = .ok (.iastore, 1) := by decide +kernel
theorem dX7_keeps_33 : decode cX7_keeps 33 = .ok (.iinc 1 1, 3) := by decide +kernel
theorem dX7_keeps_36 : decode cX7_keeps 36 = .ok (.goto (-25), 3) := by decide +kernel
theorem dX7_keeps_39 : decode cX7_keeps 39 = .ok (.aload_n 0, 1) := by decide +kernel
theorem dX7_keeps_40 : decode cX7_keeps 40 = .ok (.dup, 1) := by decide +kernel
theorem dX7_keeps_41 : decode cX7_keeps 41 = .ok (.getfield 42, 3) := by decide +kernel
theorem dX7_keeps_44 : decode cX7_keeps 44 = .ok (.iconst 1, 1) := by decide +kernel
theorem dX7_keeps_45 : decode cX7_keeps 45 = .ok (.isub, 1) := by decide +kernel
theorem dX7_keeps_46 : decode cX7_keeps 46 = .ok (.putfield 42, 3) := by decide +kernel
theorem dX7_keeps_49 : decode cX7_keeps 49 = .ok (.iconst 0, 1) := by decide +kernel
theorem dX7_keeps_50 : decode cX7_keeps 50 = .ok (.istore_n 1, 1) := by decide +kernel
theorem dX7_keeps_51 : decode cX7_keeps 51 = .ok (.iload_n 1, 1) := by decide +kernel
theorem dX7_keeps_52 : decode cX7_keeps 52 = .ok (.bipush 43, 2) := by decide +kernel
theorem dX7_keeps_54 : decode cX7_keeps 54 = .ok (.if_icmp .ge 29, 3) := by decide +kernel
theorem dX7_keeps_57 : decode cX7_keeps 57 = .ok (.aload_n 0, 1) := by decide +kernel
theorem dX7_keeps_58 : decode cX7_keeps 58 = .ok (.getfield 13, 3) := by decide +kernel
theorem dX7_keeps_61 : decode cX7_keeps 61 = .ok (.bipush 43, 2) := by decide +kernel
theorem dX7_keeps_63 : decode cX7_keeps 63 = .ok (.aload_n 0, 1) := by decide +kernel
theorem dX7_keeps_64 : decode cX7_keeps 64 = .ok (.getfield 42, 3) := by decide +kernel
theorem dX7_keeps_67 : decode cX7_keeps 67 = .ok (.imul, 1) := by decide +kernel
theorem dX7_keeps_68 : decode cX7_keeps 68 = .ok (.iload_n 1, 1) := by decide +kernel
theorem dX7_keeps_69 : decode cX7_keeps 69 = .ok (.iadd, 1) := by decide +kernel
theorem dX7_keeps_70 : decode cX7_keeps 70 = .ok (.aload_n 0, 1) := by decide +kernel
theorem dX7_keeps_71 : decode cX7_keeps 71 = .ok (.getfield 7, 3) := by decide +kernel
theorem dX7_keeps_74 : decode cX7_keeps 74 = .ok (.iload_n 1, 1) := by decide +kernel
theorem dX7_keeps_75 : decode cX7_keeps 75 = .ok (.iaload, 1) := by decide +kernel
theorem dX7_keeps_76 : decode cX7_keeps 76 = .ok (.iastore, 1) := by decide +kernel
theorem dX7_keeps_77 : decode cX7_keeps 77 = .ok (.iinc 1 1, 3) := by decide +kernel
theorem dX7_keeps_80 : decode cX7_keeps 80 = .ok (.goto (-29), 3) := by decide +kernel
theorem dX7_keeps_83 : decode cX7_keeps 83 = .ok (.aload_n 0, 1) := by decide +kernel
theorem dX7_keeps_84 : decode cX7_keeps 84 = .ok (.dup, 1) := by decide +kernel
theorem dX7_keeps_85 : decode cX7_keeps 85 = .ok (.getfield 42, 3) := by decide +kernel
theorem dX7_keeps_88 : decode cX7_keeps 88 = .ok (.iconst 1, 1) := by decide +kernel
theorem dX7_keeps_89 : decode cX7_keeps 89 = .ok (.iadd, 1) := by decide +kernel
theorem dX7_keeps_90 : decode cX7_keeps 90 = .ok (.putfield 42, 3) := by decide +kernel
theorem dX7_keeps_93 : decode cX7_keeps 93 = .ok (.return_, 1) := by decide +kernel
theorem dX7_undo_0 : decode cX7_undo 0 = .ok (.aload_n 0, 1) := by decide +kernel
theorem dX7_undo_1 : decode cX7_undo 1 = .ok (.getfield 42, 3) := by decide +kernel
theorem dX7_undo_4 : decode cX7_undo 4 = .ok (.ifCond .ne 6, 3) := by decide +kernel
theorem dX7_undo_7 : decode cX7_undo 7 = .ok (.bipush (-3), 2) := by decide +kernel
theorem dX7_undo_9 : decode cX7_undo 9 = .ok (.ireturn, 1) := by decide +kernel
theorem dX7_undo_10 : decode cX7_undo 10 = .ok (.aload_n 0, 1) := by decide +kernel
theorem dX7_undo_11 : decode cX7_undo 11 = .ok (.dup, 1) := by decide +kernel
theorem dX7_undo_12 : decode cX7_undo 12 = .ok (.getfield 42, 3) := by decide +kernel
theorem dX7_undo_15 : decode cX7_undo 15 = .ok (.iconst 1, 1) := by decide +kernel
theorem dX7_undo_16 : decode cX7_undo 16 = .ok (.isub, 1) := by decide +kernel
theorem dX7_undo_17 : decode cX7_undo 17 = .ok (.putfield 42, 3) := by decide +kernel
theorem dX7_undo_20 : decode cX7_undo 20 = .ok (.iconst 0, 1) := by decide +kernel
theorem dX7_undo_21 : decode cX7_undo 21 = .ok (.istore_n 1, 1) := by decide +kernel
theorem dX7_undo_22 : decode cX7_undo 22 = .ok (.iload_n 1, 1) := by decide +kernel
theorem dX7_undo_23 : decode cX7_undo 23 = .ok (.bipush 43, 2) := by decide +kernel
theorem dX7_undo_25 : decode cX7_undo 25 = .ok (.if_icmp .ge 29, 3) := by decide +kernel
theorem dX7_undo_28 : decode cX7_undo 28 = .ok (.aload_n 0, 1) := by decide +kernel
theorem dX7_undo_29 : decode cX7_undo 29 = .ok (.getfield 7, 3) := by decide +kernel
theorem dX7_undo_32 : decode cX7_undo 32 = .ok (.iload_n 1, 1) := by decide +kernel
theorem dX7_undo_33 : decode cX7_undo 33 = .ok (.aload_n 0, 1) := by decide +kernel
theorem dX7_undo_34 : decode cX7_undo 34 = .ok (.getfield 13, 3) := by decide +kernel
theorem dX7_undo_37 : decode cX7_undo 37 = .ok (.bipush 43, 2) := by decide +kernel
theorem dX7_undo_39 : decode cX7_undo 39 = .ok (.aload_n 0, 1) := by decide +kernel
theorem dX7_undo_40 : decode cX7_undo 40 = .ok (.getfield 42, 3) := by decide +kernel
theorem dX7_undo_43 : decode cX7_undo 43 = .ok (.imul, 1) := by decide +kernel
theorem dX7_undo_44 : decode cX7_undo 44 = .ok (.iload_n 1, 1) := by decide +kernel
theorem dX7_undo_45 : decode cX7_undo 45 = .ok (.iadd, 1) := by decide +kernel
theorem dX7_undo_46 : decode cX7_undo 46 = .ok (.iaload, 1) := by decide +kernel
theorem dX7_undo_47 : decode cX7_undo 47 = .ok (.iastore, 1) := by decide +kernel
theorem dX7_undo_48 : decode cX7_undo 48 = .ok (.iinc 1 1, 3) := by decide +kernel
theorem dX7_undo_51 : decode cX7_undo 51 = .ok (.goto (-29), 3) := by decide +kernel
theorem dX7_undo_54 : decode cX7_undo 54 = .ok (.aload_n 0, 1) := by decide +kernel
theorem dX7_undo_55 : decode cX7_undo 55 = .ok (.getfield 42, 3) := by decide +kernel
theorem dX7_undo_58 : decode cX7_undo 58 = .ok (.ireturn, 1) := by decide +kernel
set_option maxRecDepth 20000 in
theorem ggX7_reset_X7_in : GoodIn wsX7_reset wsX7_in := goodIn_r _ [5] (by decide +kernel) (by decide +kernel)
set_option maxRecDepth 20000 in
theorem gX7_reset_X7_in : GoodIn wsX7_reset (va_wsS RX7 38 yX7_in wsX7_in) := goodIn_app (goodIn_of _ (by decide +kernel)) ggX7_reset_X7_in
set_option maxRecDepth 20000 in
theorem ggX7_reset_X7_keeps : GoodIn wsX7_reset wsX7_keeps := goodIn_r _ [9, 10, 11, 1, 12, 13, 14, 15, 16, 17, 18, 19, 20, 21, 22, 23, 24, 25, 26] (by decide +kernel) (by decide +kernel)
set_option maxRecDepth 20000 in
theorem gX7_reset_X7_keeps : GoodIn wsX7_reset (wsV RX7 45 RX7 yX7_keeps wsX7_keeps) := goodIn_app (goodIn_of _ (by decide +kernel)) ggX7_reset_X7_keeps
theorem dX7_reset_0 : decode cX7_reset 0 = .ok (.iload_n 1, 1) := by decide +kernel
theorem dX7_reset_1 : decode cX7_reset 1 = .ok (.iconst 2, 1) := by decide +kernel
theorem dX7_reset_2 : decode cX7_reset 2 = .ok (.bipush 20, 2) := by decide +kernel
theorem dX7_reset_4 : decode cX7_reset 4 = .ok (.invokestatic 38, 3) := by decide +kernel
theorem dX7_reset_7 : decode cX7_reset 7 = .ok (.ifCond .eq 14, 3) := by decide +kernel
theorem dX7_reset_10 : decode cX7_reset 10 = .ok (.iload_n 2, 1) := by decide +kernel
theorem dX7_reset_11 : decode cX7_reset 11 = .ok (.iconst 0, 1) := by decide +kernel
theorem dX7_reset_12 : decode cX7_reset 12 = .ok (.sipush 999, 3) := by decide +kernel
theorem dX7_reset_15 : decode cX7_reset 15 = .ok (.invokestatic 38, 3) := by decide +kernel
theorem dX7_reset_18 : decode cX7_reset 18 = .ok (.ifCond .ne 6, 3) := by decide +kernel
theorem dX7_reset_21 : decode cX7_reset 21 = .ok (.bipush (-2), 2) := by decide +kernel
theorem dX7_reset_23 : decode cX7_reset 23 = .ok (.ireturn, 1) := by decide +kernel
theorem dX7_reset_24 : decode cX7_reset 24 = .ok (.aload_n 0, 1) := by decide +kernel
theorem dX7_reset_25 : decode cX7_reset 25 = .ok (.invokevirtual 45, 3) := by decide +kernel
theorem dX7_reset_28 : decode cX7_reset 28 = .ok (.aload_n 0, 1) := by decide +kernel
theorem dX7_reset_29 : decode cX7_reset 29 = .ok (.getfield 7, 3) := by decide +kernel
theorem dX7_reset_32 : decode cX7_reset 32 = .ok (.iconst 0, 1) := by decide +kernel
theorem dX7_reset_33 : decode cX7_reset 33 = .ok (.iload_n 1, 1) := by decide +kernel
theorem dX7_reset_34 : decode cX7_reset 34 = .ok (.iastore, 1) := by decide +kernel
theorem dX7_reset_35 : decode cX7_reset 35 = .ok (.iconst 0, 1) := by decide +kernel
theorem dX7_reset_36 : decode cX7_reset 36 = .ok (.istore_n 3, 1) := by decide +kernel
theorem dX7_reset_37 : decode cX7_reset 37 = .ok (.iload_n 3, 1) := by decide +kernel
theorem dX7_reset_38 : decode cX7_reset 38 = .ok (.bipush 20, 2) := by decide +kernel
theorem dX7_reset_40 : decode cX7_reset 40 = .ok (.if_icmp .ge 28, 3) := by decide +kernel
theorem dX7_reset_43 : decode cX7_reset 43 = .ok (.aload_n 0, 1) := by decide +kernel
theorem dX7_reset_44 : decode cX7_reset 44 = .ok (.getfield 7, 3) := by decide +kernel
theorem dX7_reset_47 : decode cX7_reset 47 = .ok (.iconst 3, 1) := by decide +kernel
theorem dX7_reset_48 : decode cX7_reset 48 = .ok (.iload_n 3, 1) := by decide +kernel
theorem dX7_reset_49 : decode cX7_reset 49 = .ok (.iadd, 1) := by decide +kernel
theorem dX7_reset_50 : decode cX7_reset 50 = .ok (.iload_n 2, 1) := by decide +kernel
theorem dX7_reset_51 : decode cX7_reset 51 = .ok (.iastore, 1) := by decide +kernel
theorem dX7_reset_52 : decode cX7_reset 52 = .ok (.aload_n 0, 1) := by decide +kernel
theorem dX7_reset_53 : decode cX7_reset 53 = .ok (.getfield 7, 3) := by decide +kernel
theorem dX7_reset_56 : decode cX7_reset 56 = .ok (.bipush 23, 2) := by decide +kernel
theorem dX7_reset_58 : decode cX7_reset 58 = .ok (.iload_n 3, 1) := by decide +kernel
theorem dX7_reset_59 : decode cX7_reset 59 = .ok (.iadd, 1) := by decide +kernel
theorem dX7_reset_60 : decode cX7_reset 60 = .ok (.iconst 0, 1) := by decide +kernel
theorem dX7_reset_61 : decode cX7_reset 61 = .ok (.iastore, 1) := by decide +kernel
theorem dX7_reset_62 : decode cX7_reset 62 = .ok (.iinc 3 1, 3) := by decide +kernel
theorem dX7_reset_65 : decode cX7_reset 65 = .ok (.goto (-28), 3) := by decide +kernel
theorem dX7_reset_68 : decode cX7_reset 68 = .ok (.iload_n 1, 1) := by decide +kernel
theorem dX7_reset_69 : decode cX7_reset 69 = .ok (.ireturn, 1) := by decide +kernel
set_option maxRecDepth 20000 in
theorem ggX7_setGround_X7_isStation : GoodIn wsX7_setGround wsX7_isStation := goodIn_r _ [6, 1, 7, 8, 5, 9, 16, 17, 18, 19, 20, 21, 22, 23, 24, 25, 26, 27, 28, 29, 30] (by decide +kernel) (by decide +kernel)
set_option maxRecDepth 20000 in
theorem gX7_setGround_X7_isStation : GoodIn wsX7_setGround (wsV RX7 48 RX7 yX7_isStation wsX7_isStation) := goodIn_app (goodIn_of _ (by decide +kernel)) ggX7_setGround_X7_isStation
set_option maxRecDepth 20000 in
theorem ggX7_setGround_X7_in : GoodIn wsX7_setGround wsX7_in := goodIn_r _ [9] (by decide +kernel) (by decide +kernel)
set_option maxRecDepth 20000 in
theorem gX7_setGround_X7_in : GoodIn wsX7_setGround (va_wsS RX7 38 yX7_in wsX7_in) := goodIn_app (goodIn_of _ (by decide +kernel)) ggX7_setGround_X7_in
set_option maxRecDepth 20000 in
theorem ggX7_setGround_X7_keeps : GoodIn wsX7_setGround wsX7_keeps := goodIn_r _ [13, 14, 15, 1, 16, 17, 18, 19, 20, 21, 22, 23, 24, 25, 26, 27, 28, 29, 30] (by decide +kernel) (by decide +kernel)
set_option maxRecDepth 20000 in
theorem gX7_setGround_X7_keeps : GoodIn wsX7_setGround (wsV RX7 45 RX7 yX7_keeps wsX7_keeps) := goodIn_app (goodIn_of _ (by decide +kernel)) ggX7_setGround_X7_keeps
theorem dX7_setGround_0 : decode cX7_setGround 0 = .ok (.aload_n 0, 1) := by decide +kernel
theorem dX7_setGround_1 : decode cX7_setGround 1 = .ok (.iload_n 1, 1) := by decide +kernel
theorem dX7_setGround_2 : decode cX7_setGround 2 = .ok (.invokevirtual 48, 3) := by decide +kernel
theorem dX7_setGround_5 : decode cX7_setGround 5 = .ok (.ifCond .eq 14, 3) := by decide +kernel
theorem dX7_setGround_8 : decode cX7_setGround 8 = .ok (.iload_n 2, 1) := by decide +kernel
theorem dX7_setGround_9 : decode cX7_setGround 9 = .ok (.iconst 0, 1) := by decide +kernel
theorem dX7_setGround_10 : decode cX7_setGround 10 = .ok (.sipush 999, 3) := by decide +kernel
theorem dX7_setGround_13 : decode cX7_setGround 13 = .ok (.invokestatic 38, 3) := by decide +kernel
theorem dX7_setGround_16 : decode cX7_setGround 16 = .ok (.ifCond .ne 6, 3) := by decide +kernel
theorem dX7_setGround_19 : decode cX7_setGround 19 = .ok (.bipush (-2), 2) := by decide +kernel
theorem dX7_setGround_21 : decode cX7_setGround 21 = .ok (.ireturn, 1) := by decide +kernel
theorem dX7_setGround_22 : decode cX7_setGround 22 = .ok (.aload_n 0, 1) := by decide +kernel
theorem dX7_setGround_23 : decode cX7_setGround 23 = .ok (.invokevirtual 45, 3) := by decide +kernel
theorem dX7_setGround_26 : decode cX7_setGround 26 = .ok (.aload_n 0, 1) := by decide +kernel
theorem dX7_setGround_27 : decode cX7_setGround 27 = .ok (.getfield 7, 3) := by decide +kernel
theorem dX7_setGround_30 : decode cX7_setGround 30 = .ok (.iconst 3, 1) := by decide +kernel
theorem dX7_setGround_31 : decode cX7_setGround 31 = .ok (.iload_n 1, 1) := by decide +kernel
theorem dX7_setGround_32 : decode cX7_setGround 32 = .ok (.iadd, 1) := by decide +kernel
theorem dX7_setGround_33 : decode cX7_setGround 33 = .ok (.iaload, 1) := by decide +kernel
theorem dX7_setGround_34 : decode cX7_setGround 34 = .ok (.istore_n 3, 1) := by decide +kernel
theorem dX7_setGround_35 : decode cX7_setGround 35 = .ok (.aload_n 0, 1) := by decide +kernel
theorem dX7_setGround_36 : decode cX7_setGround 36 = .ok (.getfield 7, 3) := by decide +kernel
theorem dX7_setGround_39 : decode cX7_setGround 39 = .ok (.iconst 3, 1) := by decide +kernel
theorem dX7_setGround_40 : decode cX7_setGround 40 = .ok (.iload_n 1, 1) := by decide +kernel
theorem dX7_setGround_41 : decode cX7_setGround 41 = .ok (.iadd, 1) := by decide +kernel
theorem dX7_setGround_42 : decode cX7_setGround 42 = .ok (.iload_n 2, 1) := by decide +kernel
theorem dX7_setGround_43 : decode cX7_setGround 43 = .ok (.iastore, 1) := by decide +kernel
theorem dX7_setGround_44 : decode cX7_setGround 44 = .ok (.iload_n 3, 1) := by decide +kernel
theorem dX7_setGround_45 : decode cX7_setGround 45 = .ok (.ireturn, 1) := by decide +kernel
set_option maxRecDepth 20000 in
theorem ggX7_slope_X7_isStation : GoodIn wsX7_slope wsX7_isStation := goodIn_r _ [6, 1, 7, 8, 5, 9, 16, 17, 18, 19, 20, 21, 22, 23, 24, 25, 26, 27, 28, 29, 30] (by decide +kernel) (by decide +kernel)
set_option maxRecDepth 20000 in
theorem gX7_slope_X7_isStation : GoodIn wsX7_slope (wsV RX7 48 RX7 yX7_isStation wsX7_isStation) := goodIn_app (goodIn_of _ (by decide +kernel)) ggX7_slope_X7_isStation
set_option maxRecDepth 20000 in
theorem ggX7_slope_X7_keeps : GoodIn wsX7_slope wsX7_keeps := goodIn_r _ [13, 14, 15, 1, 16, 17, 18, 19, 20, 21, 22, 23, 24, 25, 26, 27, 28, 29, 30] (by decide +kernel) (by decide +kernel)
set_option maxRecDepth 20000 in
theorem gX7_slope_X7_keeps : GoodIn wsX7_slope (wsV RX7 45 RX7 yX7_keeps wsX7_keeps) := goodIn_app (goodIn_of _ (by decide +kernel)) ggX7_slope_X7_keeps
theorem dX7_slope_0 : decode cX7_slope 0 = .ok (.aload_n 0, 1) := by decide +kernel
theorem dX7_slope_1 : decode cX7_slope 1 = .ok (.iload_n 1, 1) := by decide +kernel
theorem dX7_slope_2 : decode cX7_slope 2 = .ok (.invokevirtual 48, 3) := by decide +kernel
theorem dX7_slope_5 : decode cX7_slope 5 = .ok (.ifCond .eq 16, 3) := by decide +kernel
theorem dX7_slope_8 : decode cX7_slope 8 = .ok (.aload_n 0, 1) := by decide +kernel
theorem dX7_slope_9 : decode cX7_slope 9 = .ok (.iload_n 2, 1) := by decide +kernel
theorem dX7_slope_10 : decode cX7_slope 10 = .ok (.invokevirtual 48, 3) := by decide +kernel
theorem dX7_slope_13 : decode cX7_slope 13 = .ok (.ifCond .eq 8, 3) := by decide +kernel
theorem dX7_slope_16 : decode cX7_slope 16 = .ok (.iload_n 2, 1) := by decide +kernel
theorem dX7_slope_17 : decode cX7_slope 17 = .ok (.iload_n 1, 1) := by decide +kernel
theorem dX7_slope_18 : decode cX7_slope 18 = .ok (.if_icmp .gt 6, 3) := by decide +kernel
theorem dX7_slope_21 : decode cX7_slope 21 = .ok (.bipush (-2), 2) := by decide +kernel
theorem dX7_slope_23 : decode cX7_slope 23 = .ok (.ireturn, 1) := by decide +kernel
theorem dX7_slope_24 : decode cX7_slope 24 = .ok (.aload_n 0, 1) := by decide +kernel
theorem dX7_slope_25 : decode cX7_slope 25 = .ok (.invokevirtual 45, 3) := by decide +kernel
theorem dX7_slope_28 : decode cX7_slope 28 = .ok (.iconst 0, 1) := by decide +kernel
theorem dX7_slope_29 : decode cX7_slope 29 = .ok (.istore_n 3, 1) := by decide +kernel
theorem dX7_slope_30 : decode cX7_slope 30 = .ok (.iload_n 1, 1) := by decide +kernel
theorem dX7_slope_31 : decode cX7_slope 31 = .ok (.iconst 1, 1) := by decide +kernel
theorem dX7_slope_32 : decode cX7_slope 32 = .ok (.iadd, 1) := by decide +kernel
theorem dX7_slope_33 : decode cX7_slope 33 = .ok (.istore 4, 2) := by decide +kernel
theorem dX7_slope_35 : decode cX7_slope 35 = .ok (.iload 4, 2) := by decide +kernel
theorem dX7_slope_37 : decode cX7_slope 37 = .ok (.iload_n 2, 1) := by decide +kernel
theorem dX7_slope_38 : decode cX7_slope 38 = .ok (.if_icmp .ge 79, 3) := by decide +kernel
theorem dX7_slope_41 : decode cX7_slope 41 = .ok (.aload_n 0, 1) := by decide +kernel
theorem dX7_slope_42 : decode cX7_slope 42 = .ok (.getfield 7, 3) := by decide +kernel
theorem dX7_slope_45 : decode cX7_slope 45 = .ok (.iconst 3, 1) := by decide +kernel
theorem dX7_slope_46 : decode cX7_slope 46 = .ok (.iload_n 1, 1) := by decide +kernel
theorem dX7_slope_47 : decode cX7_slope 47 = .ok (.iadd, 1) := by decide +kernel
theorem dX7_slope_48 : decode cX7_slope 48 = .ok (.iaload, 1) := by decide +kernel
theorem dX7_slope_49 : decode cX7_slope 49 = .ok (.aload_n 0, 1) := by decide +kernel
theorem dX7_slope_50 : decode cX7_slope 50 = .ok (.getfield 7, 3) := by decide +kernel
theorem dX7_slope_53 : decode cX7_slope 53 = .ok (.iconst 3, 1) := by decide +kernel
theorem dX7_slope_54 : decode cX7_slope 54 = .ok (.iload_n 2, 1) := by decide +kernel
theorem dX7_slope_55 : decode cX7_slope 55 = .ok (.iadd, 1) := by decide +kernel
theorem dX7_slope_56 : decode cX7_slope 56 = .ok (.iaload, 1) := by decide +kernel
theorem dX7_slope_57 : decode cX7_slope 57 = .ok (.aload_n 0, 1) := by decide +kernel
theorem dX7_slope_58 : decode cX7_slope 58 = .ok (.getfield 7, 3) := by decide +kernel
theorem dX7_slope_61 : decode cX7_slope 61 = .ok (.iconst 3, 1) := by decide +kernel
theorem dX7_slope_62 : decode cX7_slope 62 = .ok (.iload_n 1, 1) := by decide +kernel
theorem dX7_slope_63 : decode cX7_slope 63 = .ok (.iadd, 1) := by decide +kernel
theorem dX7_slope_64 : decode cX7_slope 64 = .ok (.iaload, 1) := by decide +kernel
theorem dX7_slope_65 : decode cX7_slope 65 = .ok (.isub, 1) := by decide +kernel
theorem dX7_slope_66 : decode cX7_slope 66 = .ok (.iload 4, 2) := by decide +kernel
theorem dX7_slope_68 : decode cX7_slope 68 = .ok (.iload_n 1, 1) := by decide +kernel
theorem dX7_slope_69 : decode cX7_slope 69 = .ok (.isub, 1) := by decide +kernel
theorem dX7_slope_70 : decode cX7_slope 70 = .ok (.imul, 1) := by decide +kernel
theorem dX7_slope_71 : decode cX7_slope 71 = .ok (.iload_n 2, 1) := by decide +kernel
theorem dX7_slope_72 : decode cX7_slope 72 = .ok (.iload_n 1, 1) := by decide +kernel
theorem dX7_slope_73 : decode cX7_slope 73 = .ok (.isub, 1) := by decide +kernel
theorem dX7_slope_74 : decode cX7_slope 74 = .ok (.idiv, 1) := by decide +kernel
theorem dX7_slope_75 : decode cX7_slope 75 = .ok (.iadd, 1) := by decide +kernel
theorem dX7_slope_76 : decode cX7_slope 76 = .ok (.istore 5, 2) := by decide +kernel
theorem dX7_slope_78 : decode cX7_slope 78 = .ok (.iload_n 3, 1) := by decide +kernel
theorem dX7_slope_79 : decode cX7_slope 79 = .ok (.iload 5, 2) := by decide +kernel
theorem dX7_slope_81 : decode cX7_slope 81 = .ok (.aload_n 0, 1) := by decide +kernel
theorem dX7_slope_82 : decode cX7_slope 82 = .ok (.getfield 7, 3) := by decide +kernel
theorem dX7_slope_85 : decode cX7_slope 85 = .ok (.iconst 3, 1) := by decide +kernel
theorem dX7_slope_86 : decode cX7_slope 86 = .ok (.iload 4, 2) := by decide +kernel
theorem dX7_slope_88 : decode cX7_slope 88 = .ok (.iadd, 1) := by decide +kernel
theorem dX7_slope_89 : decode cX7_slope 89 = .ok (.iaload, 1) := by decide +kernel
theorem dX7_slope_90 : decode cX7_slope 90 = .ok (.if_icmp .ne 7, 3) := by decide +kernel
theorem dX7_slope_93 : decode cX7_slope 93 = .ok (.iconst 0, 1) := by decide +kernel
theorem dX7_slope_94 : decode cX7_slope 94 = .ok (.goto 4, 3) := by decide +kernel
theorem dX7_slope_97 : decode cX7_slope 97 = .ok (.iconst 1, 1) := by decide +kernel
theorem dX7_slope_98 : decode cX7_slope 98 = .ok (.iadd, 1) := by decide +kernel
theorem dX7_slope_99 : decode cX7_slope 99 = .ok (.istore_n 3, 1) := by decide +kernel
theorem dX7_slope_100 : decode cX7_slope 100 = .ok (.aload_n 0, 1) := by decide +kernel
theorem dX7_slope_101 : decode cX7_slope 101 = .ok (.getfield 7, 3) := by decide +kernel
theorem dX7_slope_104 : decode cX7_slope 104 = .ok (.iconst 3, 1) := by decide +kernel
theorem dX7_slope_105 : decode cX7_slope 105 = .ok (.iload 4, 2) := by decide +kernel
theorem dX7_slope_107 : decode cX7_slope 107 = .ok (.iadd, 1) := by decide +kernel
theorem dX7_slope_108 : decode cX7_slope 108 = .ok (.iload 5, 2) := by decide +kernel
theorem dX7_slope_110 : decode cX7_slope 110 = .ok (.iastore, 1) := by decide +kernel
theorem dX7_slope_111 : decode cX7_slope 111 = .ok (.iinc 4 1, 3) := by decide +kernel
theorem dX7_slope_114 : decode cX7_slope 114 = .ok (.goto (-79), 3) := by decide +kernel
theorem dX7_slope_117 : decode cX7_slope 117 = .ok (.iload_n 3, 1) := by decide +kernel
theorem dX7_slope_118 : decode cX7_slope 118 = .ok (.ireturn, 1) := by decide +kernel
set_option maxRecDepth 20000 in
theorem ggX7_mast_X7_isStation : GoodIn wsX7_mast wsX7_isStation := goodIn_r _ [6, 1, 7, 8, 5, 9, 16, 17, 18, 19, 20, 21, 22, 23, 24, 25, 26, 27, 28, 29, 30] (by decide +kernel) (by decide +kernel)
set_option maxRecDepth 20000 in
theorem gX7_mast_X7_isStation : GoodIn wsX7_mast (wsV RX7 48 RX7 yX7_isStation wsX7_isStation) := goodIn_app (goodIn_of _ (by decide +kernel)) ggX7_mast_X7_isStation
set_option maxRecDepth 20000 in
theorem ggX7_mast_X7_in : GoodIn wsX7_mast wsX7_in := goodIn_r _ [9] (by decide +kernel) (by decide +kernel)
set_option maxRecDepth 20000 in
theorem gX7_mast_X7_in : GoodIn wsX7_mast (va_wsS RX7 38 yX7_in wsX7_in) := goodIn_app (goodIn_of _ (by decide +kernel)) ggX7_mast_X7_in
set_option maxRecDepth 20000 in
theorem ggX7_mast_X7_keeps : GoodIn wsX7_mast wsX7_keeps := goodIn_r _ [13, 14, 15, 1, 16, 17, 18, 19, 20, 21, 22, 23, 24, 25, 26, 27, 28, 29, 30] (by decide +kernel) (by decide +kernel)
set_option maxRecDepth 20000 in
theorem gX7_mast_X7_keeps : GoodIn wsX7_mast (wsV RX7 45 RX7 yX7_keeps wsX7_keeps) := goodIn_app (goodIn_of _ (by decide +kernel)) ggX7_mast_X7_keeps
theorem dX7_mast_0 : decode cX7_mast 0 = .ok (.aload_n 0, 1) := by decide +kernel
theorem dX7_mast_1 : decode cX7_mast 1 = .ok (.iload_n 1, 1) := by decide +kernel
theorem dX7_mast_2 : decode cX7_mast 2 = .ok (.invokevirtual 48, 3) := by decide +kernel
theorem dX7_mast_5 : decode cX7_mast 5 = .ok (.ifCond .eq 14, 3) := by decide +kernel
theorem dX7_mast_8 : decode cX7_mast 8 = .ok (.iload_n 2, 1) := by decide +kernel
theorem dX7_mast_9 : decode cX7_mast 9 = .ok (.iconst 0, 1) := by decide +kernel
theorem dX7_mast_10 : decode cX7_mast 10 = .ok (.sipush 200, 3) := by decide +kernel
theorem dX7_mast_13 : decode cX7_mast 13 = .ok (.invokestatic 38, 3) := by decide +kernel
theorem dX7_mast_16 : decode cX7_mast 16 = .ok (.ifCond .ne 6, 3) := by decide +kernel
theorem dX7_mast_19 : decode cX7_mast 19 = .ok (.bipush (-2), 2) := by decide +kernel
theorem dX7_mast_21 : decode cX7_mast 21 = .ok (.ireturn, 1) := by decide +kernel
theorem dX7_mast_22 : decode cX7_mast 22 = .ok (.aload_n 0, 1) := by decide +kernel
theorem dX7_mast_23 : decode cX7_mast 23 = .ok (.invokevirtual 45, 3) := by decide +kernel
theorem dX7_mast_26 : decode cX7_mast 26 = .ok (.aload_n 0, 1) := by decide +kernel
theorem dX7_mast_27 : decode cX7_mast 27 = .ok (.getfield 7, 3) := by decide +kernel
theorem dX7_mast_30 : decode cX7_mast 30 = .ok (.bipush 23, 2) := by decide +kernel
theorem dX7_mast_32 : decode cX7_mast 32 = .ok (.iload_n 1, 1) := by decide +kernel
theorem dX7_mast_33 : decode cX7_mast 33 = .ok (.iadd, 1) := by decide +kernel
theorem dX7_mast_34 : decode cX7_mast 34 = .ok (.iaload, 1) := by decide +kernel
theorem dX7_mast_35 : decode cX7_mast 35 = .ok (.istore_n 3, 1) := by decide +kernel
theorem dX7_mast_36 : decode cX7_mast 36 = .ok (.aload_n 0, 1) := by decide +kernel
theorem dX7_mast_37 : decode cX7_mast 37 = .ok (.getfield 7, 3) := by decide +kernel
theorem dX7_mast_40 : decode cX7_mast 40 = .ok (.bipush 23, 2) := by decide +kernel
theorem dX7_mast_42 : decode cX7_mast 42 = .ok (.iload_n 1, 1) := by decide +kernel
theorem dX7_mast_43 : decode cX7_mast 43 = .ok (.iadd, 1) := by decide +kernel
theorem dX7_mast_44 : decode cX7_mast 44 = .ok (.iload_n 2, 1) := by decide +kernel
theorem dX7_mast_45 : decode cX7_mast 45 = .ok (.iastore, 1) := by decide +kernel
theorem dX7_mast_46 : decode cX7_mast 46 = .ok (.iload_n 3, 1) := by decide +kernel
theorem dX7_mast_47 : decode cX7_mast 47 = .ok (.ireturn, 1) := by decide +kernel
set_option maxRecDepth 20000 in
theorem ggX7_reverse_X7_keeps : GoodIn wsX7_reverse wsX7_keeps := goodIn_r _ [6, 7, 8, 1, 9, 10, 11, 12, 13, 14, 15, 16, 17, 18, 19, 20, 21, 22, 23] (by decide +kernel) (by decide +kernel)
set_option maxRecDepth 20000 in
theorem gX7_reverse_X7_keeps : GoodIn wsX7_reverse (wsV RX7 45 RX7 yX7_keeps wsX7_keeps) := goodIn_app (goodIn_of _ (by decide +kernel)) ggX7_reverse_X7_keeps
theorem dX7_reverse_0 : decode cX7_reverse 0 = .ok (.aload_n 0, 1) := by decide +kernel
theorem dX7_reverse_1 : decode cX7_reverse 1 = .ok (.invokevirtual 45, 3) := by decide +kernel
theorem dX7_reverse_4 : decode cX7_reverse 4 = .ok (.iconst 0, 1) := by decide +kernel
theorem dX7_reverse_5 : decode cX7_reverse 5 = .ok (.istore_n 1, 1) := by decide +kernel
theorem dX7_reverse_6 : decode cX7_reverse 6 = .ok (.iconst 0, 1) := by decide +kernel
theorem dX7_reverse_7 : decode cX7_reverse 7 = .ok (.istore_n 2, 1) := by decide +kernel
theorem dX7_reverse_8 : decode cX7_reverse 8 = .ok (.iload_n 2, 1) := by decide +kernel
theorem dX7_reverse_9 : decode cX7_reverse 9 = .ok (.aload_n 0, 1) := by decide +kernel
theorem dX7_reverse_10 : decode cX7_reverse 10 = .ok (.getfield 7, 3) := by decide +kernel
theorem dX7_reverse_13 : decode cX7_reverse 13 = .ok (.iconst 0, 1) := by decide +kernel
theorem dX7_reverse_14 : decode cX7_reverse 14 = .ok (.iaload, 1) := by decide +kernel
theorem dX7_reverse_15 : decode cX7_reverse 15 = .ok (.if_icmp .ge 68, 3) := by decide +kernel
theorem dX7_reverse_18 : decode cX7_reverse 18 = .ok (.aload_n 0, 1) := by decide +kernel
theorem dX7_reverse_19 : decode cX7_reverse 19 = .ok (.getfield 7, 3) := by decide +kernel
theorem dX7_reverse_22 : decode cX7_reverse 22 = .ok (.iconst 0, 1) := by decide +kernel
theorem dX7_reverse_23 : decode cX7_reverse 23 = .ok (.iaload, 1) := by decide +kernel
theorem dX7_reverse_24 : decode cX7_reverse 24 = .ok (.iconst 1, 1) := by decide +kernel
theorem dX7_reverse_25 : decode cX7_reverse 25 = .ok (.isub, 1) := by decide +kernel
theorem dX7_reverse_26 : decode cX7_reverse 26 = .ok (.iload_n 2, 1) := by decide +kernel
theorem dX7_reverse_27 : decode cX7_reverse 27 = .ok (.isub, 1) := by decide +kernel
theorem dX7_reverse_28 : decode cX7_reverse 28 = .ok (.istore_n 3, 1) := by decide +kernel
theorem dX7_reverse_29 : decode cX7_reverse 29 = .ok (.iload_n 1, 1) := by decide +kernel
theorem dX7_reverse_30 : decode cX7_reverse 30 = .ok (.aload_n 0, 1) := by decide +kernel
theorem dX7_reverse_31 : decode cX7_reverse 31 = .ok (.getfield 7, 3) := by decide +kernel
theorem dX7_reverse_34 : decode cX7_reverse 34 = .ok (.iconst 3, 1) := by decide +kernel
theorem dX7_reverse_35 : decode cX7_reverse 35 = .ok (.iload_n 2, 1) := by decide +kernel
theorem dX7_reverse_36 : decode cX7_reverse 36 = .ok (.iadd, 1) := by decide +kernel
theorem dX7_reverse_37 : decode cX7_reverse 37 = .ok (.iaload, 1) := by decide +kernel
theorem dX7_reverse_38 : decode cX7_reverse 38 = .ok (.aload_n 0, 1) := by decide +kernel
theorem dX7_reverse_39 : decode cX7_reverse 39 = .ok (.getfield 7, 3) := by decide +kernel
theorem dX7_reverse_42 : decode cX7_reverse 42 = .ok (.iconst 3, 1) := by decide +kernel
theorem dX7_reverse_43 : decode cX7_reverse 43 = .ok (.iload_n 3, 1) := by decide +kernel
theorem dX7_reverse_44 : decode cX7_reverse 44 = .ok (.iadd, 1) := by decide +kernel
theorem dX7_reverse_45 : decode cX7_reverse 45 = .ok (.iaload, 1) := by decide +kernel
theorem dX7_reverse_46 : decode cX7_reverse 46 = .ok (.if_icmp .ne 28, 3) := by decide +kernel
theorem dX7_reverse_49 : decode cX7_reverse 49 = .ok (.aload_n 0, 1) := by decide +kernel
theorem dX7_reverse_50 : decode cX7_reverse 50 = .ok (.getfield 7, 3) := by decide +kernel
theorem dX7_reverse_53 : decode cX7_reverse 53 = .ok (.bipush 23, 2) := by decide +kernel
theorem dX7_reverse_55 : decode cX7_reverse 55 = .ok (.iload_n 2, 1) := by decide +kernel
theorem dX7_reverse_56 : decode cX7_reverse 56 = .ok (.iadd, 1) := by decide +kernel
theorem dX7_reverse_57 : decode cX7_reverse 57 = .ok (.iaload, 1) := by decide +kernel
theorem dX7_reverse_58 : decode cX7_reverse 58 = .ok (.aload_n 0, 1) := by decide +kernel
theorem dX7_reverse_59 : decode cX7_reverse 59 = .ok (.getfield 7, 3) := by decide +kernel
theorem dX7_reverse_62 : decode cX7_reverse 62 = .ok (.bipush 23, 2) := by decide +kernel
theorem dX7_reverse_64 : decode cX7_reverse 64 = .ok (.iload_n 3, 1) := by decide +kernel
theorem dX7_reverse_65 : decode cX7_reverse 65 = .ok (.iadd, 1) := by decide +kernel
theorem dX7_reverse_66 : decode cX7_reverse 66 = .ok (.iaload, 1) := by decide +kernel
theorem dX7_reverse_67 : decode cX7_reverse 67 = .ok (.if_icmp .ne 7, 3) := by decide +kernel
theorem dX7_reverse_70 : decode cX7_reverse 70 = .ok (.iconst 0, 1) := by decide +kernel
theorem dX7_reverse_71 : decode cX7_reverse 71 = .ok (.goto 4, 3) := by decide +kernel
theorem dX7_reverse_74 : decode cX7_reverse 74 = .ok (.iconst 1, 1) := by decide +kernel
theorem dX7_reverse_75 : decode cX7_reverse 75 = .ok (.iadd, 1) := by decide +kernel
theorem dX7_reverse_76 : decode cX7_reverse 76 = .ok (.istore_n 1, 1) := by decide +kernel
theorem dX7_reverse_77 : decode cX7_reverse 77 = .ok (.iinc 2 1, 3) := by decide +kernel
theorem dX7_reverse_80 : decode cX7_reverse 80 = .ok (.goto (-72), 3) := by decide +kernel
theorem dX7_reverse_83 : decode cX7_reverse 83 = .ok (.iconst 0, 1) := by decide +kernel
theorem dX7_reverse_84 : decode cX7_reverse 84 = .ok (.istore_n 2, 1) := by decide +kernel
theorem dX7_reverse_85 : decode cX7_reverse 85 = .ok (.iload_n 2, 1) := by decide +kernel
theorem dX7_reverse_86 : decode cX7_reverse 86 = .ok (.aload_n 0, 1) := by decide +kernel
theorem dX7_reverse_87 : decode cX7_reverse 87 = .ok (.getfield 7, 3) := by decide +kernel
theorem dX7_reverse_90 : decode cX7_reverse 90 = .ok (.iconst 0, 1) := by decide +kernel
theorem dX7_reverse_91 : decode cX7_reverse 91 = .ok (.iaload, 1) := by decide +kernel
theorem dX7_reverse_92 : decode cX7_reverse 92 = .ok (.iconst 2, 1) := by decide +kernel
theorem dX7_reverse_93 : decode cX7_reverse 93 = .ok (.idiv, 1) := by decide +kernel
theorem dX7_reverse_94 : decode cX7_reverse 94 = .ok (.if_icmp .ge 96, 3) := by decide +kernel
theorem dX7_reverse_97 : decode cX7_reverse 97 = .ok (.aload_n 0, 1) := by decide +kernel
theorem dX7_reverse_98 : decode cX7_reverse 98 = .ok (.getfield 7, 3) := by decide +kernel
theorem dX7_reverse_101 : decode cX7_reverse 101 = .ok (.iconst 0, 1) := by decide +kernel
theorem dX7_reverse_102 : decode cX7_reverse 102 = .ok (.iaload, 1) := by decide +kernel
theorem dX7_reverse_103 : decode cX7_reverse 103 = .ok (.iconst 1, 1) := by decide +kernel
theorem dX7_reverse_104 : decode cX7_reverse 104 = .ok (.isub, 1) := by decide +kernel
theorem dX7_reverse_105 : decode cX7_reverse 105 = .ok (.iload_n 2, 1) := by decide +kernel
theorem dX7_reverse_106 : decode cX7_reverse 106 = .ok (.isub, 1) := by decide +kernel
theorem dX7_reverse_107 : decode cX7_reverse 107 = .ok (.istore_n 3, 1) := by decide +kernel
theorem dX7_reverse_108 : decode cX7_reverse 108 = .ok (.aload_n 0, 1) := by decide +kernel
theorem dX7_reverse_109 : decode cX7_reverse 109 = .ok (.getfield 7, 3) := by decide +kernel
theorem dX7_reverse_112 : decode cX7_reverse 112 = .ok (.iconst 3, 1) := by decide +kernel
theorem dX7_reverse_113 : decode cX7_reverse 113 = .ok (.iload_n 2, 1) := by decide +kernel
theorem dX7_reverse_114 : decode cX7_reverse 114 = .ok (.iadd, 1) := by decide +kernel
theorem dX7_reverse_115 : decode cX7_reverse 115 = .ok (.iaload, 1) := by decide +kernel
theorem dX7_reverse_116 : decode cX7_reverse 116 = .ok (.istore 4, 2) := by decide +kernel
theorem dX7_reverse_118 : decode cX7_reverse 118 = .ok (.aload_n 0, 1) := by decide +kernel
theorem dX7_reverse_119 : decode cX7_reverse 119 = .ok (.getfield 7, 3) := by decide +kernel
theorem dX7_reverse_122 : decode cX7_reverse 122 = .ok (.bipush 23, 2) := by decide +kernel
theorem dX7_reverse_124 : decode cX7_reverse 124 = .ok (.iload_n 2, 1) := by decide +kernel
theorem dX7_reverse_125 : decode cX7_reverse 125 = .ok (.iadd, 1) := by decide +kernel
theorem dX7_reverse_126 : decode cX7_reverse 126 = .ok (.iaload, 1) := by decide +kernel
theorem dX7_reverse_127 : decode cX7_reverse 127 = .ok (.istore 5, 2) := by decide +kernel
theorem dX7_reverse_129 : decode cX7_reverse 129 = .ok (.aload_n 0, 1) := by decide +kernel
theorem dX7_reverse_130 : decode cX7_reverse 130 = .ok (.getfield 7, 3) := by decide +kernel
theorem dX7_reverse_133 : decode cX7_reverse 133 = .ok (.iconst 3, 1) := by decide +kernel
theorem dX7_reverse_134 : decode cX7_reverse 134 = .ok (.iload_n 2, 1) := by decide +kernel
theorem dX7_reverse_135 : decode cX7_reverse 135 = .ok (.iadd, 1) := by decide +kernel
theorem dX7_reverse_136 : decode cX7_reverse 136 = .ok (.aload_n 0, 1) := by decide +kernel
theorem dX7_reverse_137 : decode cX7_reverse 137 = .ok (.getfield 7, 3) := by decide +kernel
theorem dX7_reverse_140 : decode cX7_reverse 140 = .ok (.iconst 3, 1) := by decide +kernel
theorem dX7_reverse_141 : decode cX7_reverse 141 = .ok (.iload_n 3, 1) := by decide +kernel
theorem dX7_reverse_142 : decode cX7_reverse 142 = .ok (.iadd, 1) := by decide +kernel
theorem dX7_reverse_143 : decode cX7_reverse 143 = .ok (.iaload, 1) := by decide +kernel
theorem dX7_reverse_144 : decode cX7_reverse 144 = .ok (.iastore, 1) := by decide +kernel
theorem dX7_reverse_145 : decode cX7_reverse 145 = .ok (.aload_n 0, 1) := by decide +kernel
theorem dX7_reverse_146 : decode cX7_reverse 146 = .ok (.getfield 7, 3) := by decide +kernel
theorem dX7_reverse_149 : decode cX7_reverse 149 = .ok (.bipush 23, 2) := by decide +kernel
theorem dX7_reverse_151 : decode cX7_reverse 151 = .ok (.iload_n 2, 1) := by decide +kernel
theorem dX7_reverse_152 : decode cX7_reverse 152 = .ok (.iadd, 1) := by decide +kernel
theorem dX7_reverse_153 : decode cX7_reverse 153 = .ok (.aload_n 0, 1) := by decide +kernel
theorem dX7_reverse_154 : decode cX7_reverse 154 = .ok (.getfield 7, 3) := by decide +kernel
theorem dX7_reverse_157 : decode cX7_reverse 157 = .ok (.bipush 23, 2) := by decide +kernel
theorem dX7_reverse_159 : decode cX7_reverse 159 = .ok (.iload_n 3, 1) := by decide +kernel
theorem dX7_reverse_160 : decode cX7_reverse 160 = .ok (.iadd, 1) := by decide +kernel
theorem dX7_reverse_161 : decode cX7_reverse 161 = .ok (.iaload, 1) := by decide +kernel
theorem dX7_reverse_162 : decode cX7_reverse 162 = .ok (.iastore, 1) := by decide +kernel
theorem dX7_reverse_163 : decode cX7_reverse 163 = .ok (.aload_n 0, 1) := by decide +kernel
theorem dX7_reverse_164 : decode cX7_reverse 164 = .ok (.getfield 7, 3) := by decide +kernel
theorem dX7_reverse_167 : decode cX7_reverse 167 = .ok (.iconst 3, 1) := by decide +kernel
theorem dX7_reverse_168 : decode cX7_reverse 168 = .ok (.iload_n 3, 1) := by decide +kernel
theorem dX7_reverse_169 : decode cX7_reverse 169 = .ok (.iadd, 1) := by decide +kernel
theorem dX7_reverse_170 : decode cX7_reverse 170 = .ok (.iload 4, 2) := by decide +kernel
theorem dX7_reverse_172 : decode cX7_reverse 172 = .ok (.iastore, 1) := by decide +kernel
theorem dX7_reverse_173 : decode cX7_reverse 173 = .ok (.aload_n 0, 1) := by decide +kernel
theorem dX7_reverse_174 : decode cX7_reverse 174 = .ok (.getfield 7, 3) := by decide +kernel
theorem dX7_reverse_177 : decode cX7_reverse 177 = .ok (.bipush 23, 2) := by decide +kernel
theorem dX7_reverse_179 : decode cX7_reverse 179 = .ok (.iload_n 3, 1) := by decide +kernel
theorem dX7_reverse_180 : decode cX7_reverse 180 = .ok (.iadd, 1) := by decide +kernel
theorem dX7_reverse_181 : decode cX7_reverse 181 = .ok (.iload 5, 2) := by decide +kernel
theorem dX7_reverse_183 : decode cX7_reverse 183 = .ok (.iastore, 1) := by decide +kernel
theorem dX7_reverse_184 : decode cX7_reverse 184 = .ok (.iinc 2 1, 3) := by decide +kernel
theorem dX7_reverse_187 : decode cX7_reverse 187 = .ok (.goto (-102), 3) := by decide +kernel
theorem dX7_reverse_190 : decode cX7_reverse 190 = .ok (.iload_n 1, 1) := by decide +kernel
theorem dX7_reverse_191 : decode cX7_reverse 191 = .ok (.ireturn, 1) := by decide +kernel
set_option maxRecDepth 20000 in
theorem ggX7_setRange_X7_in : GoodIn wsX7_setRange wsX7_in := goodIn_r _ [5] (by decide +kernel) (by decide +kernel)
set_option maxRecDepth 20000 in
theorem gX7_setRange_X7_in : GoodIn wsX7_setRange (va_wsS RX7 38 yX7_in wsX7_in) := goodIn_app (goodIn_of _ (by decide +kernel)) ggX7_setRange_X7_in
set_option maxRecDepth 20000 in
theorem ggX7_setRange_X7_keeps : GoodIn wsX7_setRange wsX7_keeps := goodIn_r _ [9, 10, 11, 1, 12, 13, 14, 15, 16, 17, 18, 19, 20, 21, 22, 23, 24, 25, 26] (by decide +kernel) (by decide +kernel)
set_option maxRecDepth 20000 in
theorem gX7_setRange_X7_keeps : GoodIn wsX7_setRange (wsV RX7 45 RX7 yX7_keeps wsX7_keeps) := goodIn_app (goodIn_of _ (by decide +kernel)) ggX7_setRange_X7_keeps
theorem dX7_setRange_0 : decode cX7_setRange 0 = .ok (.iload_n 1, 1) := by decide +kernel
theorem dX7_setRange_1 : decode cX7_setRange 1 = .ok (.iconst 1, 1) := by decide +kernel
theorem dX7_setRange_2 : decode cX7_setRange 2 = .ok (.bipush 19, 2) := by decide +kernel
theorem dX7_setRange_4 : decode cX7_setRange 4 = .ok (.invokestatic 38, 3) := by decide +kernel
theorem dX7_setRange_7 : decode cX7_setRange 7 = .ok (.ifCond .ne 6, 3) := by decide +kernel
theorem dX7_setRange_10 : decode cX7_setRange 10 = .ok (.bipush (-2), 2) := by decide +kernel
theorem dX7_setRange_12 : decode cX7_setRange 12 = .ok (.ireturn, 1) := by decide +kernel
theorem dX7_setRange_13 : decode cX7_setRange 13 = .ok (.aload_n 0, 1) := by decide +kernel
theorem dX7_setRange_14 : decode cX7_setRange 14 = .ok (.invokevirtual 45, 3) := by decide +kernel
theorem dX7_setRange_17 : decode cX7_setRange 17 = .ok (.aload_n 0, 1) := by decide +kernel
theorem dX7_setRange_18 : decode cX7_setRange 18 = .ok (.getfield 7, 3) := by decide +kernel
theorem dX7_setRange_21 : decode cX7_setRange 21 = .ok (.iconst 1, 1) := by decide +kernel
theorem dX7_setRange_22 : decode cX7_setRange 22 = .ok (.iaload, 1) := by decide +kernel
theorem dX7_setRange_23 : decode cX7_setRange 23 = .ok (.istore_n 2, 1) := by decide +kernel
theorem dX7_setRange_24 : decode cX7_setRange 24 = .ok (.aload_n 0, 1) := by decide +kernel
theorem dX7_setRange_25 : decode cX7_setRange 25 = .ok (.getfield 7, 3) := by decide +kernel
theorem dX7_setRange_28 : decode cX7_setRange 28 = .ok (.iconst 1, 1) := by decide +kernel
theorem dX7_setRange_29 : decode cX7_setRange 29 = .ok (.iload_n 1, 1) := by decide +kernel
theorem dX7_setRange_30 : decode cX7_setRange 30 = .ok (.iastore, 1) := by decide +kernel
theorem dX7_setRange_31 : decode cX7_setRange 31 = .ok (.iload_n 2, 1) := by decide +kernel
theorem dX7_setRange_32 : decode cX7_setRange 32 = .ok (.ireturn, 1) := by decide +kernel
set_option maxRecDepth 20000 in
theorem ggX7_setBulge_X7_in : GoodIn wsX7_setBulge wsX7_in := goodIn_r _ [5] (by decide +kernel) (by decide +kernel)
set_option maxRecDepth 20000 in
theorem gX7_setBulge_X7_in : GoodIn wsX7_setBulge (va_wsS RX7 38 yX7_in wsX7_in) := goodIn_app (goodIn_of _ (by decide +kernel)) ggX7_setBulge_X7_in
set_option maxRecDepth 20000 in
theorem ggX7_setBulge_X7_keeps : GoodIn wsX7_setBulge wsX7_keeps := goodIn_r _ [9, 10, 11, 1, 12, 13, 14, 15, 16, 17, 18, 19, 20, 21, 22, 23, 24, 25, 26] (by decide +kernel) (by decide +kernel)
set_option maxRecDepth 20000 in
theorem gX7_setBulge_X7_keeps : GoodIn wsX7_setBulge (wsV RX7 45 RX7 yX7_keeps wsX7_keeps) := goodIn_app (goodIn_of _ (by decide +kernel)) ggX7_setBulge_X7_keeps
theorem dX7_setBulge_0 : decode cX7_setBulge 0 = .ok (.iload_n 1, 1) := by decide +kernel
theorem dX7_setBulge_1 : decode cX7_setBulge 1 = .ok (.iconst 0, 1) := by decide +kernel
theorem dX7_setBulge_2 : decode cX7_setBulge 2 = .ok (.bipush 9, 2) := by decide +kernel
theorem dX7_setBulge_4 : decode cX7_setBulge 4 = .ok (.invokestatic 38, 3) := by decide +kernel
theorem dX7_setBulge_7 : decode cX7_setBulge 7 = .ok (.ifCond .ne 6, 3) := by decide +kernel
theorem dX7_setBulge_10 : decode cX7_setBulge 10 = .ok (.bipush (-2), 2) := by decide +kernel
theorem dX7_setBulge_12 : decode cX7_setBulge 12 = .ok (.ireturn, 1) := by decide +kernel
theorem dX7_setBulge_13 : decode cX7_setBulge 13 = .ok (.aload_n 0, 1) := by decide +kernel
theorem dX7_setBulge_14 : decode cX7_setBulge 14 = .ok (.invokevirtual 45, 3) := by decide +kernel
theorem dX7_setBulge_17 : decode cX7_setBulge 17 = .ok (.aload_n 0, 1) := by decide +kernel
theorem dX7_setBulge_18 : decode cX7_setBulge 18 = .ok (.getfield 7, 3) := by decide +kernel
theorem dX7_setBulge_21 : decode cX7_setBulge 21 = .ok (.iconst 2, 1) := by decide +kernel
theorem dX7_setBulge_22 : decode cX7_setBulge 22 = .ok (.iaload, 1) := by decide +kernel
theorem dX7_setBulge_23 : decode cX7_setBulge 23 = .ok (.istore_n 2, 1) := by decide +kernel
theorem dX7_setBulge_24 : decode cX7_setBulge 24 = .ok (.aload_n 0, 1) := by decide +kernel
theorem dX7_setBulge_25 : decode cX7_setBulge 25 = .ok (.getfield 7, 3) := by decide +kernel
theorem dX7_setBulge_28 : decode cX7_setBulge 28 = .ok (.iconst 2, 1) := by decide +kernel
theorem dX7_setBulge_29 : decode cX7_setBulge 29 = .ok (.iload_n 1, 1) := by decide +kernel
theorem dX7_setBulge_30 : decode cX7_setBulge 30 = .ok (.iastore, 1) := by decide +kernel
theorem dX7_setBulge_31 : decode cX7_setBulge 31 = .ok (.iload_n 2, 1) := by decide +kernel
theorem dX7_setBulge_32 : decode cX7_setBulge 32 = .ok (.ireturn, 1) := by decide +kernel
set_option maxRecDepth 20000 in
theorem ggX7_type_X7_in : GoodIn wsX7_type wsX7_in := goodIn_r _ [6] (by decide +kernel) (by decide +kernel)
set_option maxRecDepth 20000 in
theorem gX7_type_X7_in : GoodIn wsX7_type (va_wsS RX7 38 yX7_in wsX7_in) := goodIn_app (goodIn_of _ (by decide +kernel)) ggX7_type_X7_in
theorem dX7_type_0 : decode cX7_type 0 = .ok (.iload_n 1, 1) := by decide +kernel
theorem dX7_type_1 : decode cX7_type 1 = .ok (.iconst 0, 1) := by decide +kernel
theorem dX7_type_2 : decode cX7_type 2 = .ok (.bipush 127, 2) := by decide +kernel
theorem dX7_type_4 : decode cX7_type 4 = .ok (.invokestatic 38, 3) := by decide +kernel
theorem dX7_type_7 : decode cX7_type 7 = .ok (.ifCond .ne 6, 3) := by decide +kernel
theorem dX7_type_10 : decode cX7_type 10 = .ok (.bipush (-2), 2) := by decide +kernel
theorem dX7_type_12 : decode cX7_type 12 = .ok (.ireturn, 1) := by decide +kernel
theorem dX7_type_13 : decode cX7_type 13 = .ok (.aload_n 0, 1) := by decide +kernel
theorem dX7_type_14 : decode cX7_type 14 = .ok (.getfield 52, 3) := by decide +kernel
theorem dX7_type_17 : decode cX7_type 17 = .ok (.bipush 120, 2) := by decide +kernel
theorem dX7_type_19 : decode cX7_type 19 = .ok (.if_icmp .ne 6, 3) := by decide +kernel
theorem dX7_type_22 : decode cX7_type 22 = .ok (.bipush (-4), 2) := by decide +kernel
theorem dX7_type_24 : decode cX7_type 24 = .ok (.ireturn, 1) := by decide +kernel
theorem dX7_type_25 : decode cX7_type 25 = .ok (.aload_n 0, 1) := by decide +kernel
theorem dX7_type_26 : decode cX7_type 26 = .ok (.getfield 23, 3) := by decide +kernel
theorem dX7_type_29 : decode cX7_type 29 = .ok (.aload_n 0, 1) := by decide +kernel
theorem dX7_type_30 : decode cX7_type 30 = .ok (.getfield 52, 3) := by decide +kernel
theorem dX7_type_33 : decode cX7_type 33 = .ok (.iload_n 1, 1) := by decide +kernel
theorem dX7_type_34 : decode cX7_type 34 = .ok (.iastore, 1) := by decide +kernel
theorem dX7_type_35 : decode cX7_type 35 = .ok (.aload_n 0, 1) := by decide +kernel
theorem dX7_type_36 : decode cX7_type 36 = .ok (.dup, 1) := by decide +kernel
theorem dX7_type_37 : decode cX7_type 37 = .ok (.getfield 52, 3) := by decide +kernel
theorem dX7_type_40 : decode cX7_type 40 = .ok (.iconst 1, 1) := by decide +kernel
theorem dX7_type_41 : decode cX7_type 41 = .ok (.iadd, 1) := by decide +kernel
theorem dX7_type_42 : decode cX7_type 42 = .ok (.putfield 52, 3) := by decide +kernel
theorem dX7_type_45 : decode cX7_type 45 = .ok (.aload_n 0, 1) := by decide +kernel
theorem dX7_type_46 : decode cX7_type 46 = .ok (.getfield 52, 3) := by decide +kernel
theorem dX7_type_49 : decode cX7_type 49 = .ok (.ireturn, 1) := by decide +kernel
theorem dX7_clearText_0 : decode cX7_clearText 0 = .ok (.aload_n 0, 1) := by decide +kernel
theorem dX7_clearText_1 : decode cX7_clearText 1 = .ok (.getfield 52, 3) := by decide +kernel
theorem dX7_clearText_4 : decode cX7_clearText 4 = .ok (.istore_n 1, 1) := by decide +kernel
theorem dX7_clearText_5 : decode cX7_clearText 5 = .ok (.aload_n 0, 1) := by decide +kernel
theorem dX7_clearText_6 : decode cX7_clearText 6 = .ok (.iconst 0, 1) := by decide +kernel
theorem dX7_clearText_7 : decode cX7_clearText 7 = .ok (.putfield 52, 3) := by decide +kernel
theorem dX7_clearText_10 : decode cX7_clearText 10 = .ok (.iload_n 1, 1) := by decide +kernel
theorem dX7_clearText_11 : decode cX7_clearText 11 = .ok (.ireturn, 1) := by decide +kernel
theorem dX7_next_0 : decode cX7_next 0 = .ok (.aload_n 0, 1) := by decide +kernel
theorem dX7_next_1 : decode cX7_next 1 = .ok (.getfield 55, 3) := by decide +kernel
theorem dX7_next_4 : decode cX7_next 4 = .ok (.aload_n 0, 1) := by decide +kernel
theorem dX7_next_5 : decode cX7_next 5 = .ok (.getfield 52, 3) := by decide +kernel
theorem dX7_next_8 : decode cX7_next 8 = .ok (.if_icmp .ge 15, 3) := by decide +kernel
theorem dX7_next_11 : decode cX7_next 11 = .ok (.aload_n 0, 1) := by decide +kernel
theorem dX7_next_12 : decode cX7_next 12 = .ok (.getfield 23, 3) := by decide +kernel
theorem dX7_next_15 : decode cX7_next 15 = .ok (.aload_n 0, 1) := by decide +kernel
theorem dX7_next_16 : decode cX7_next 16 = .ok (.getfield 55, 3) := by decide +kernel
theorem dX7_next_19 : decode cX7_next 19 = .ok (.iaload, 1) := by decide +kernel
theorem dX7_next_20 : decode cX7_next 20 = .ok (.goto 4, 3) := by decide +kernel
theorem dX7_next_23 : decode cX7_next 23 = .ok (.iconst (-1), 1) := by decide +kernel
theorem dX7_next_24 : decode cX7_next 24 = .ok (.ireturn, 1) := by decide +kernel
set_option maxRecDepth 20000 in
theorem ggX7_blanks_X7_next : GoodIn wsX7_blanks wsX7_next := goodIn_r _ [6, 1, 7, 8, 9, 10, 11, 12, 13, 14, 15, 16, 17, 18, 19, 20, 21, 22, 23] (by decide +kernel) (by decide +kernel)
set_option maxRecDepth 20000 in
theorem gX7_blanks_X7_next : GoodIn wsX7_blanks (wsV RX7 58 RX7 yX7_next wsX7_next) := goodIn_app (goodIn_of _ (by decide +kernel)) ggX7_blanks_X7_next
theorem dX7_blanks_0 : decode cX7_blanks 0 = .ok (.aload_n 0, 1) := by decide +kernel
theorem dX7_blanks_1 : decode cX7_blanks 1 = .ok (.invokevirtual 58, 3) := by decide +kernel
theorem dX7_blanks_4 : decode cX7_blanks 4 = .ok (.bipush 32, 2) := by decide +kernel
theorem dX7_blanks_6 : decode cX7_blanks 6 = .ok (.if_icmp .ne 16, 3) := by decide +kernel
theorem dX7_blanks_9 : decode cX7_blanks 9 = .ok (.aload_n 0, 1) := by decide +kernel
theorem dX7_blanks_10 : decode cX7_blanks 10 = .ok (.dup, 1) := by decide +kernel
theorem dX7_blanks_11 : decode cX7_blanks 11 = .ok (.getfield 55, 3) := by decide +kernel
theorem dX7_blanks_14 : decode cX7_blanks 14 = .ok (.iconst 1, 1) := by decide +kernel
theorem dX7_blanks_15 : decode cX7_blanks 15 = .ok (.iadd, 1) := by decide +kernel
theorem dX7_blanks_16 : decode cX7_blanks 16 = .ok (.putfield 55, 3) := by decide +kernel
theorem dX7_blanks_19 : decode cX7_blanks 19 = .ok (.goto (-19), 3) := by decide +kernel
theorem dX7_blanks_22 : decode cX7_blanks 22 = .ok (.return_, 1) := by decide +kernel
theorem dX7_fails_0 : decode cX7_fails 0 = .ok (.aload_n 0, 1) := by decide +kernel
theorem dX7_fails_1 : decode cX7_fails 1 = .ok (.aload_n 0, 1) := by decide +kernel
theorem dX7_fails_2 : decode cX7_fails 2 = .ok (.getfield 62, 3) := by decide +kernel
theorem dX7_fails_5 : decode cX7_fails 5 = .ok (.iconst (-1), 1) := by decide +kernel
theorem dX7_fails_6 : decode cX7_fails 6 = .ok (.if_icmp .ne 7, 3) := by decide +kernel
theorem dX7_fails_9 : decode cX7_fails 9 = .ok (.iload_n 1, 1) := by decide +kernel
theorem dX7_fails_10 : decode cX7_fails 10 = .ok (.goto 7, 3) := by decide +kernel
theorem dX7_fails_13 : decode cX7_fails 13 = .ok (.aload_n 0, 1) := by decide +kernel
theorem dX7_fails_14 : decode cX7_fails 14 = .ok (.getfield 62, 3) := by decide +kernel
theorem dX7_fails_17 : decode cX7_fails 17 = .ok (.putfield 62, 3) := by decide +kernel
theorem dX7_fails_20 : decode cX7_fails 20 = .ok (.return_, 1) := by decide +kernel
set_option maxRecDepth 20000 in
theorem ggX7_takes_X7_next : GoodIn wsX7_takes wsX7_next := goodIn_r _ [7, 2, 8, 9, 14, 15, 16, 17, 18, 19, 20, 21, 22, 23, 24, 25, 26, 27, 28] (by decide +kernel) (by decide +kernel)
set_option maxRecDepth 20000 in
theorem gX7_takes_X7_next : GoodIn wsX7_takes (wsV RX7 58 RX7 yX7_next wsX7_next) := goodIn_app (goodIn_of _ (by decide +kernel)) ggX7_takes_X7_next
set_option maxRecDepth 20000 in
theorem ggX7_takes_X7_blanks : GoodIn wsX7_takes wsX7_blanks := goodIn_r _ [13, 2, 3, 4, 5, 6, 7, 8, 9, 14, 15, 16, 17, 18, 19, 20, 21, 22, 23, 24, 25, 26, 27, 28] (by decide +kernel) (by decide +kernel)
set_option maxRecDepth 20000 in
theorem gX7_takes_X7_blanks : GoodIn wsX7_takes (wsV RX7 65 RX7 yX7_blanks wsX7_blanks) := goodIn_app (goodIn_of _ (by decide +kernel)) ggX7_takes_X7_blanks
theorem dX7_takes_0 : decode cX7_takes 0 = .ok (.aload_n 0, 1) := by decide +kernel
theorem dX7_takes_1 : decode cX7_takes 1 = .ok (.getfield 62, 3) := by decide +kernel
theorem dX7_takes_4 : decode cX7_takes 4 = .ok (.iconst (-1), 1) := by decide +kernel
theorem dX7_takes_5 : decode cX7_takes 5 = .ok (.if_icmp .ne 15, 3) := by decide +kernel
theorem dX7_takes_8 : decode cX7_takes 8 = .ok (.aload_n 0, 1) := by decide +kernel
theorem dX7_takes_9 : decode cX7_takes 9 = .ok (.invokevirtual 58, 3) := by decide +kernel
theorem dX7_takes_12 : decode cX7_takes 12 = .ok (.iload_n 1, 1) := by decide +kernel
theorem dX7_takes_13 : decode cX7_takes 13 = .ok (.if_icmp .ne 7, 3) := by decide +kernel
theorem dX7_takes_16 : decode cX7_takes 16 = .ok (.iconst 1, 1) := by decide +kernel
theorem dX7_takes_17 : decode cX7_takes 17 = .ok (.goto 4, 3) := by decide +kernel
theorem dX7_takes_20 : decode cX7_takes 20 = .ok (.iconst 0, 1) := by decide +kernel
theorem dX7_takes_21 : decode cX7_takes 21 = .ok (.istore_n 2, 1) := by decide +kernel
theorem dX7_takes_22 : decode cX7_takes 22 = .ok (.iload_n 2, 1) := by decide +kernel
theorem dX7_takes_23 : decode cX7_takes 23 = .ok (.ifCond .eq 17, 3) := by decide +kernel
theorem dX7_takes_26 : decode cX7_takes 26 = .ok (.aload_n 0, 1) := by decide +kernel
theorem dX7_takes_27 : decode cX7_takes 27 = .ok (.dup, 1) := by decide +kernel
theorem dX7_takes_28 : decode cX7_takes 28 = .ok (.getfield 55, 3) := by decide +kernel
theorem dX7_takes_31 : decode cX7_takes 31 = .ok (.iconst 1, 1) := by decide +kernel
theorem dX7_takes_32 : decode cX7_takes 32 = .ok (.iadd, 1) := by decide +kernel
theorem dX7_takes_33 : decode cX7_takes 33 = .ok (.putfield 55, 3) := by decide +kernel
theorem dX7_takes_36 : decode cX7_takes 36 = .ok (.aload_n 0, 1) := by decide +kernel
theorem dX7_takes_37 : decode cX7_takes 37 = .ok (.invokevirtual 65, 3) := by decide +kernel
theorem dX7_takes_40 : decode cX7_takes 40 = .ok (.iload_n 2, 1) := by decide +kernel
theorem dX7_takes_41 : decode cX7_takes 41 = .ok (.ireturn, 1) := by decide +kernel
set_option maxRecDepth 20000 in
theorem ggX7_number_X7_next : GoodIn wsX7_number wsX7_next := goodIn_r _ [7, 1, 8, 9, 21, 22, 23, 24, 25, 26, 27, 28, 29, 30, 31, 32, 33, 34, 35] (by decide +kernel) (by decide +kernel)
set_option maxRecDepth 20000 in
theorem gX7_number_X7_next : GoodIn wsX7_number (wsV RX7 58 RX7 yX7_next wsX7_next) := goodIn_app (goodIn_of _ (by decide +kernel)) ggX7_number_X7_next
set_option maxRecDepth 20000 in
theorem ggX7_number_X7_in : GoodIn wsX7_number wsX7_in := goodIn_r _ [12] (by decide +kernel) (by decide +kernel)
set_option maxRecDepth 20000 in
theorem gX7_number_X7_in : GoodIn wsX7_number (va_wsS RX7 38 yX7_in wsX7_in) := goodIn_app (goodIn_of _ (by decide +kernel)) ggX7_number_X7_in
set_option maxRecDepth 20000 in
theorem ggX7_number_X7_fails : GoodIn wsX7_number wsX7_fails := goodIn_r _ [16, 2, 21, 22, 23, 24, 25, 26, 27, 28, 29, 30, 31, 32, 33, 34, 35] (by decide +kernel) (by decide +kernel)
set_option maxRecDepth 20000 in
theorem gX7_number_X7_fails : GoodIn wsX7_number (wsV RX7 68 RX7 yX7_fails wsX7_fails) := goodIn_app (goodIn_of _ (by decide +kernel)) ggX7_number_X7_fails
set_option maxRecDepth 20000 in
theorem ggX7_number_X7_blanks : GoodIn wsX7_number wsX7_blanks := goodIn_r _ [20, 1, 3, 4, 5, 6, 7, 8, 9, 21, 22, 23, 24, 25, 26, 27, 28, 29, 30, 31, 32, 33, 34, 35] (by decide +kernel) (by decide +kernel)
set_option maxRecDepth 20000 in
theorem gX7_number_X7_blanks : GoodIn wsX7_number (wsV RX7 65 RX7 yX7_blanks wsX7_blanks) := goodIn_app (goodIn_of _ (by decide +kernel)) ggX7_number_X7_blanks
theorem dX7_number_0 : decode cX7_number 0 = .ok (.aload_n 0, 1) := by decide +kernel
theorem dX7_number_1 : decode cX7_number 1 = .ok (.getfield 55, 3) := by decide +kernel
theorem dX7_number_4 : decode cX7_number 4 = .ok (.istore_n 3, 1) := by decide +kernel
theorem dX7_number_5 : decode cX7_number 5 = .ok (.iconst 0, 1) := by decide +kernel
theorem dX7_number_6 : decode cX7_number 6 = .ok (.istore 4, 2) := by decide +kernel
theorem dX7_number_8 : decode cX7_number 8 = .ok (.aload_n 0, 1) := by decide +kernel
theorem dX7_number_9 : decode cX7_number 9 = .ok (.getfield 62, 3) := by decide +kernel
theorem dX7_number_12 : decode cX7_number 12 = .ok (.iconst (-1), 1) := by decide +kernel
theorem dX7_number_13 : decode cX7_number 13 = .ok (.if_icmp .ne 55, 3) := by decide +kernel
theorem dX7_number_16 : decode cX7_number 16 = .ok (.aload_n 0, 1) := by decide +kernel
theorem dX7_number_17 : decode cX7_number 17 = .ok (.getfield 55, 3) := by decide +kernel
theorem dX7_number_20 : decode cX7_number 20 = .ok (.iload_n 3, 1) := by decide +kernel
theorem dX7_number_21 : decode cX7_number 21 = .ok (.iconst 3, 1) := by decide +kernel
theorem dX7_number_22 : decode cX7_number 22 = .ok (.iadd, 1) := by decide +kernel
theorem dX7_number_23 : decode cX7_number 23 = .ok (.if_icmp .ge 45, 3) := by decide +kernel
theorem dX7_number_26 : decode cX7_number 26 = .ok (.aload_n 0, 1) := by decide +kernel
theorem dX7_number_27 : decode cX7_number 27 = .ok (.invokevirtual 58, 3) := by decide +kernel
theorem dX7_number_30 : decode cX7_number 30 = .ok (.bipush 48, 2) := by decide +kernel
theorem dX7_number_32 : decode cX7_number 32 = .ok (.bipush 57, 2) := by decide +kernel
theorem dX7_number_34 : decode cX7_number 34 = .ok (.invokestatic 38, 3) := by decide +kernel
theorem dX7_number_37 : decode cX7_number 37 = .ok (.ifCond .eq 31, 3) := by decide +kernel
theorem dX7_number_40 : decode cX7_number 40 = .ok (.bipush 10, 2) := by decide +kernel
theorem dX7_number_42 : decode cX7_number 42 = .ok (.iload 4, 2) := by decide +kernel
theorem dX7_number_44 : decode cX7_number 44 = .ok (.imul, 1) := by decide +kernel
theorem dX7_number_45 : decode cX7_number 45 = .ok (.aload_n 0, 1) := by decide +kernel
theorem dX7_number_46 : decode cX7_number 46 = .ok (.invokevirtual 58, 3) := by decide +kernel
theorem dX7_number_49 : decode cX7_number 49 = .ok (.iadd, 1) := by decide +kernel
theorem dX7_number_50 : decode cX7_number 50 = .ok (.bipush 48, 2) := by decide +kernel
theorem dX7_number_52 : decode cX7_number 52 = .ok (.isub, 1) := by decide +kernel
theorem dX7_number_53 : decode cX7_number 53 = .ok (.istore 4, 2) := by decide +kernel
theorem dX7_number_55 : decode cX7_number 55 = .ok (.aload_n 0, 1) := by decide +kernel
theorem dX7_number_56 : decode cX7_number 56 = .ok (.dup, 1) := by decide +kernel
theorem dX7_number_57 : decode cX7_number 57 = .ok (.getfield 55, 3) := by decide +kernel
theorem dX7_number_60 : decode cX7_number 60 = .ok (.iconst 1, 1) := by decide +kernel
theorem dX7_number_61 : decode cX7_number 61 = .ok (.iadd, 1) := by decide +kernel
theorem dX7_number_62 : decode cX7_number 62 = .ok (.putfield 55, 3) := by decide +kernel
theorem dX7_number_65 : decode cX7_number 65 = .ok (.goto (-57), 3) := by decide +kernel
theorem dX7_number_68 : decode cX7_number 68 = .ok (.aload_n 0, 1) := by decide +kernel
theorem dX7_number_69 : decode cX7_number 69 = .ok (.getfield 55, 3) := by decide +kernel
theorem dX7_number_72 : decode cX7_number 72 = .ok (.iload_n 3, 1) := by decide +kernel
theorem dX7_number_73 : decode cX7_number 73 = .ok (.if_icmp .eq 13, 3) := by decide +kernel
theorem dX7_number_76 : decode cX7_number 76 = .ok (.iload 4, 2) := by decide +kernel
theorem dX7_number_78 : decode cX7_number 78 = .ok (.iload_n 1, 1) := by decide +kernel
theorem dX7_number_79 : decode cX7_number 79 = .ok (.iload_n 2, 1) := by decide +kernel
theorem dX7_number_80 : decode cX7_number 80 = .ok (.invokestatic 38, 3) := by decide +kernel
theorem dX7_number_83 : decode cX7_number 83 = .ok (.ifCond .ne 8, 3) := by decide +kernel
theorem dX7_number_86 : decode cX7_number 86 = .ok (.aload_n 0, 1) := by decide +kernel
theorem dX7_number_87 : decode cX7_number 87 = .ok (.iload_n 3, 1) := by decide +kernel
theorem dX7_number_88 : decode cX7_number 88 = .ok (.invokevirtual 68, 3) := by decide +kernel
theorem dX7_number_91 : decode cX7_number 91 = .ok (.aload_n 0, 1) := by decide +kernel
theorem dX7_number_92 : decode cX7_number 92 = .ok (.invokevirtual 58, 3) := by decide +kernel
theorem dX7_number_95 : decode cX7_number 95 = .ok (.bipush 48, 2) := by decide +kernel
theorem dX7_number_97 : decode cX7_number 97 = .ok (.bipush 57, 2) := by decide +kernel
theorem dX7_number_99 : decode cX7_number 99 = .ok (.invokestatic 38, 3) := by decide +kernel
theorem dX7_number_102 : decode cX7_number 102 = .ok (.ifCond .eq 11, 3) := by decide +kernel
theorem dX7_number_105 : decode cX7_number 105 = .ok (.aload_n 0, 1) := by decide +kernel
theorem dX7_number_106 : decode cX7_number 106 = .ok (.aload_n 0, 1) := by decide +kernel
theorem dX7_number_107 : decode cX7_number 107 = .ok (.getfield 55, 3) := by decide +kernel
theorem dX7_number_110 : decode cX7_number 110 = .ok (.invokevirtual 68, 3) := by decide +kernel
theorem dX7_number_113 : decode cX7_number 113 = .ok (.aload_n 0, 1) := by decide +kernel
theorem dX7_number_114 : decode cX7_number 114 = .ok (.invokevirtual 65, 3) := by decide +kernel
theorem dX7_number_117 : decode cX7_number 117 = .ok (.iload 4, 2) := by decide +kernel
theorem dX7_number_119 : decode cX7_number 119 = .ok (.ireturn, 1) := by decide +kernel
set_option maxRecDepth 20000 in
theorem ggX7_station_X7_fails : GoodIn wsX7_station wsX7_fails := goodIn_r _ [10, 3, 32, 33, 34, 35, 36, 37, 38, 39, 40, 41, 42, 43, 44, 45, 46] (by decide +kernel) (by decide +kernel)
set_option maxRecDepth 20000 in
theorem gX7_station_X7_fails : GoodIn wsX7_station (wsV RX7 68 RX7 yX7_fails wsX7_fails) := goodIn_app (goodIn_of _ (by decide +kernel)) ggX7_station_X7_fails
set_option maxRecDepth 20000 in
theorem ggX7_station_X7_number : GoodIn wsX7_station wsX7_number := goodIn_r _ [14, 2, 3, 15, 16, 17, 9, 18, 19, 20, 21, 22, 23, 6, 7, 8, 10, 24, 25, 26, 27, 32, 33, 34, 35, 36, 37, 38, 39, 40, 41, 42, 43, 44, 45, 46] (by decide +kernel) (by decide +kernel)
set_option maxRecDepth 20000 in
theorem gX7_station_X7_number : GoodIn wsX7_station (wsV RX7 75 RX7 yX7_number wsX7_number) := goodIn_app (goodIn_of _ (by decide +kernel)) ggX7_station_X7_number
set_option maxRecDepth 20000 in
theorem ggX7_station_X7_takes : GoodIn wsX7_station wsX7_takes := goodIn_r _ [31, 3, 2, 15, 16, 17, 9, 18, 19, 20, 24, 25, 26, 27, 32, 33, 34, 35, 36, 37, 38, 39, 40, 41, 42, 43, 44, 45, 46] (by decide +kernel) (by decide +kernel)
set_option maxRecDepth 20000 in
theorem gX7_station_X7_takes : GoodIn wsX7_station (wsV RX7 79 RX7 yX7_takes wsX7_takes) := goodIn_app (goodIn_of _ (by decide +kernel)) ggX7_station_X7_takes
theorem dX7_station_0 : decode cX7_station 0 = .ok (.aload_n 0, 1) := by decide +kernel
theorem dX7_station_1 : decode cX7_station 1 = .ok (.getfield 72, 3) := by decide +kernel
theorem dX7_station_4 : decode cX7_station 4 = .ok (.bipush 20, 2) := by decide +kernel
theorem dX7_station_6 : decode cX7_station 6 = .ok (.if_icmp .ne 12, 3) := by decide +kernel
theorem dX7_station_9 : decode cX7_station 9 = .ok (.aload_n 0, 1) := by decide +kernel
theorem dX7_station_10 : decode cX7_station 10 = .ok (.aload_n 0, 1) := by decide +kernel
theorem dX7_station_11 : decode cX7_station 11 = .ok (.getfield 55, 3) := by decide +kernel
theorem dX7_station_14 : decode cX7_station 14 = .ok (.invokevirtual 68, 3) := by decide +kernel
theorem dX7_station_17 : decode cX7_station 17 = .ok (.return_, 1) := by decide +kernel
theorem dX7_station_18 : decode cX7_station 18 = .ok (.aload_n 0, 1) := by decide +kernel
theorem dX7_station_19 : decode cX7_station 19 = .ok (.iconst 0, 1) := by decide +kernel
theorem dX7_station_20 : decode cX7_station 20 = .ok (.sipush 999, 3) := by decide +kernel
theorem dX7_station_23 : decode cX7_station 23 = .ok (.invokevirtual 75, 3) := by decide +kernel
theorem dX7_station_26 : decode cX7_station 26 = .ok (.istore_n 1, 1) := by decide +kernel
theorem dX7_station_27 : decode cX7_station 27 = .ok (.aload_n 0, 1) := by decide +kernel
theorem dX7_station_28 : decode cX7_station 28 = .ok (.bipush 42, 2) := by decide +kernel
theorem dX7_station_30 : decode cX7_station 30 = .ok (.invokevirtual 79, 3) := by decide +kernel
theorem dX7_station_33 : decode cX7_station 33 = .ok (.ifCond .eq 18, 3) := by decide +kernel
theorem dX7_station_36 : decode cX7_station 36 = .ok (.aload_n 0, 1) := by decide +kernel
theorem dX7_station_37 : decode cX7_station 37 = .ok (.iconst 1, 1) := by decide +kernel
theorem dX7_station_38 : decode cX7_station 38 = .ok (.bipush 20, 2) := by decide +kernel
theorem dX7_station_40 : decode cX7_station 40 = .ok (.aload_n 0, 1) := by decide +kernel
theorem dX7_station_41 : decode cX7_station 41 = .ok (.getfield 72, 3) := by decide +kernel
theorem dX7_station_44 : decode cX7_station 44 = .ok (.isub, 1) := by decide +kernel
theorem dX7_station_45 : decode cX7_station 45 = .ok (.invokevirtual 75, 3) := by decide +kernel
theorem dX7_station_48 : decode cX7_station 48 = .ok (.goto 4, 3) := by decide +kernel
theorem dX7_station_51 : decode cX7_station 51 = .ok (.iconst 1, 1) := by decide +kernel
theorem dX7_station_52 : decode cX7_station 52 = .ok (.istore_n 2, 1) := by decide +kernel
theorem dX7_station_53 : decode cX7_station 53 = .ok (.aload_n 0, 1) := by decide +kernel
theorem dX7_station_54 : decode cX7_station 54 = .ok (.bipush 109, 2) := by decide +kernel
theorem dX7_station_56 : decode cX7_station 56 = .ok (.invokevirtual 79, 3) := by decide +kernel
theorem dX7_station_59 : decode cX7_station 59 = .ok (.ifCond .eq 14, 3) := by decide +kernel
theorem dX7_station_62 : decode cX7_station 62 = .ok (.aload_n 0, 1) := by decide +kernel
theorem dX7_station_63 : decode cX7_station 63 = .ok (.iconst 1, 1) := by decide +kernel
theorem dX7_station_64 : decode cX7_station 64 = .ok (.sipush 200, 3) := by decide +kernel
theorem dX7_station_67 : decode cX7_station 67 = .ok (.invokevirtual 75, 3) := by decide +kernel
theorem dX7_station_70 : decode cX7_station 70 = .ok (.goto 4, 3) := by decide +kernel
theorem dX7_station_73 : decode cX7_station 73 = .ok (.iconst 0, 1) := by decide +kernel
theorem dX7_station_74 : decode cX7_station 74 = .ok (.istore_n 3, 1) := by decide +kernel
theorem dX7_station_75 : decode cX7_station 75 = .ok (.iconst 0, 1) := by decide +kernel
theorem dX7_station_76 : decode cX7_station 76 = .ok (.istore 4, 2) := by decide +kernel
theorem dX7_station_78 : decode cX7_station 78 = .ok (.iload 4, 2) := by decide +kernel
theorem dX7_station_80 : decode cX7_station 80 = .ok (.iload_n 2, 1) := by decide +kernel
theorem dX7_station_81 : decode cX7_station 81 = .ok (.if_icmp .ge 47, 3) := by decide +kernel
theorem dX7_station_84 : decode cX7_station 84 = .ok (.aload_n 0, 1) := by decide +kernel
theorem dX7_station_85 : decode cX7_station 85 = .ok (.getfield 62, 3) := by decide +kernel
theorem dX7_station_88 : decode cX7_station 88 = .ok (.iconst (-1), 1) := by decide +kernel
theorem dX7_station_89 : decode cX7_station 89 = .ok (.if_icmp .ne 39, 3) := by decide +kernel
theorem dX7_station_92 : decode cX7_station 92 = .ok (.aload_n 0, 1) := by decide +kernel
theorem dX7_station_93 : decode cX7_station 93 = .ok (.getfield 26, 3) := by decide +kernel
theorem dX7_station_96 : decode cX7_station 96 = .ok (.aload_n 0, 1) := by decide +kernel
theorem dX7_station_97 : decode cX7_station 97 = .ok (.getfield 72, 3) := by decide +kernel
theorem dX7_station_100 : decode cX7_station 100 = .ok (.iload_n 1, 1) := by decide +kernel
theorem dX7_station_101 : decode cX7_station 101 = .ok (.iastore, 1) := by decide +kernel
theorem dX7_station_102 : decode cX7_station 102 = .ok (.aload_n 0, 1) := by decide +kernel
theorem dX7_station_103 : decode cX7_station 103 = .ok (.getfield 29, 3) := by decide +kernel
theorem dX7_station_106 : decode cX7_station 106 = .ok (.aload_n 0, 1) := by decide +kernel
theorem dX7_station_107 : decode cX7_station 107 = .ok (.getfield 72, 3) := by decide +kernel
theorem dX7_station_110 : decode cX7_station 110 = .ok (.iload_n 3, 1) := by decide +kernel
theorem dX7_station_111 : decode cX7_station 111 = .ok (.iastore, 1) := by decide +kernel
theorem dX7_station_112 : decode cX7_station 112 = .ok (.aload_n 0, 1) := by decide +kernel
theorem dX7_station_113 : decode cX7_station 113 = .ok (.dup, 1) := by decide +kernel
theorem dX7_station_114 : decode cX7_station 114 = .ok (.getfield 72, 3) := by decide +kernel
theorem dX7_station_117 : decode cX7_station 117 = .ok (.iconst 1, 1) := by decide +kernel
theorem dX7_station_118 : decode cX7_station 118 = .ok (.iadd, 1) := by decide +kernel
theorem dX7_station_119 : decode cX7_station 119 = .ok (.putfield 72, 3) := by decide +kernel
theorem dX7_station_122 : decode cX7_station 122 = .ok (.iinc 4 1, 3) := by decide +kernel
theorem dX7_station_125 : decode cX7_station 125 = .ok (.goto (-47), 3) := by decide +kernel
theorem dX7_station_128 : decode cX7_station 128 = .ok (.return_, 1) := by decide +kernel
set_option maxRecDepth 20000 in
theorem ggX7_fault_X7_blanks : GoodIn wsX7_fault wsX7_blanks := goodIn_r _ [9, 1, 10, 11, 12, 8, 13, 4, 14, 36, 37, 38, 39, 40, 41, 42, 43, 44, 45, 46, 47, 48, 49, 50] (by decide +kernel) (by decide +kernel)
set_option maxRecDepth 20000 in
theorem gX7_fault_X7_blanks : GoodIn wsX7_fault (wsV RX7 65 RX7 yX7_blanks wsX7_blanks) := goodIn_app (goodIn_of _ (by decide +kernel)) ggX7_fault_X7_blanks
set_option maxRecDepth 20000 in
theorem ggX7_fault_X7_station : GoodIn wsX7_fault wsX7_station := goodIn_r _ [18, 2, 1, 3, 19, 20, 21, 22, 23, 8, 24, 25, 26, 27, 28, 10, 11, 12, 13, 4, 14, 29, 30, 31, 5, 6, 7, 9, 32, 33, 34, 35, 36, 37, 38, 39, 40, 41, 42, 43, 44, 45, 46, 47, 48, 49, 50] (by decide +kernel) (by decide +kernel)
set_option maxRecDepth 20000 in
theorem gX7_fault_X7_station : GoodIn wsX7_fault (wsV RX7 82 RX7 yX7_station wsX7_station) := goodIn_app (goodIn_of _ (by decide +kernel)) ggX7_fault_X7_station
set_option maxRecDepth 20000 in
theorem ggX7_fault_X7_takes : GoodIn wsX7_fault wsX7_takes := goodIn_r _ [35, 3, 1, 10, 11, 12, 8, 13, 4, 14, 5, 6, 7, 9, 36, 37, 38, 39, 40, 41, 42, 43, 44, 45, 46, 47, 48, 49, 50] (by decide +kernel) (by decide +kernel)
set_option maxRecDepth 20000 in
theorem gX7_fault_X7_takes : GoodIn wsX7_fault (wsV RX7 79 RX7 yX7_takes wsX7_takes) := goodIn_app (goodIn_of _ (by decide +kernel)) ggX7_fault_X7_takes
set_option maxRecDepth 20000 in
theorem ggX7_fault_X7_fails : GoodIn wsX7_fault wsX7_fails := goodIn_r _ [24, 3, 36, 37, 38, 39, 40, 41, 42, 43, 44, 45, 46, 47, 48, 49, 50] (by decide +kernel) (by decide +kernel)
set_option maxRecDepth 20000 in
theorem gX7_fault_X7_fails : GoodIn wsX7_fault (wsV RX7 68 RX7 yX7_fails wsX7_fails) := goodIn_app (goodIn_of _ (by decide +kernel)) ggX7_fault_X7_fails
theorem dX7_fault_0 : decode cX7_fault 0 = .ok (.aload_n 0, 1) := by decide +kernel
theorem dX7_fault_1 : decode cX7_fault 1 = .ok (.iconst 0, 1) := by decide +kernel
theorem dX7_fault_2 : decode cX7_fault 2 = .ok (.putfield 55, 3) := by decide +kernel
theorem dX7_fault_5 : decode cX7_fault 5 = .ok (.aload_n 0, 1) := by decide +kernel
theorem dX7_fault_6 : decode cX7_fault 6 = .ok (.iconst 0, 1) := by decide +kernel
theorem dX7_fault_7 : decode cX7_fault 7 = .ok (.putfield 72, 3) := by decide +kernel
theorem dX7_fault_10 : decode cX7_fault 10 = .ok (.aload_n 0, 1) := by decide +kernel
theorem dX7_fault_11 : decode cX7_fault 11 = .ok (.iconst (-1), 1) := by decide +kernel
theorem dX7_fault_12 : decode cX7_fault 12 = .ok (.putfield 62, 3) := by decide +kernel
theorem dX7_fault_15 : decode cX7_fault 15 = .ok (.aload_n 0, 1) := by decide +kernel
theorem dX7_fault_16 : decode cX7_fault 16 = .ok (.invokevirtual 65, 3) := by decide +kernel
theorem dX7_fault_19 : decode cX7_fault 19 = .ok (.aload_n 0, 1) := by decide +kernel
theorem dX7_fault_20 : decode cX7_fault 20 = .ok (.invokevirtual 82, 3) := by decide +kernel
theorem dX7_fault_23 : decode cX7_fault 23 = .ok (.aload_n 0, 1) := by decide +kernel
theorem dX7_fault_24 : decode cX7_fault 24 = .ok (.bipush 44, 2) := by decide +kernel
theorem dX7_fault_26 : decode cX7_fault 26 = .ok (.invokevirtual 79, 3) := by decide +kernel
theorem dX7_fault_29 : decode cX7_fault 29 = .ok (.istore_n 1, 1) := by decide +kernel
theorem dX7_fault_30 : decode cX7_fault 30 = .ok (.iload_n 1, 1) := by decide +kernel
theorem dX7_fault_31 : decode cX7_fault 31 = .ok (.ifCond .ne 11, 3) := by decide +kernel
theorem dX7_fault_34 : decode cX7_fault 34 = .ok (.aload_n 0, 1) := by decide +kernel
theorem dX7_fault_35 : decode cX7_fault 35 = .ok (.aload_n 0, 1) := by decide +kernel
theorem dX7_fault_36 : decode cX7_fault 36 = .ok (.getfield 55, 3) := by decide +kernel
theorem dX7_fault_39 : decode cX7_fault 39 = .ok (.invokevirtual 68, 3) := by decide +kernel
theorem dX7_fault_42 : decode cX7_fault 42 = .ok (.iload_n 1, 1) := by decide +kernel
theorem dX7_fault_43 : decode cX7_fault 43 = .ok (.ifCond .eq 25, 3) := by decide +kernel
theorem dX7_fault_46 : decode cX7_fault 46 = .ok (.aload_n 0, 1) := by decide +kernel
theorem dX7_fault_47 : decode cX7_fault 47 = .ok (.getfield 62, 3) := by decide +kernel
theorem dX7_fault_50 : decode cX7_fault 50 = .ok (.iconst (-1), 1) := by decide +kernel
theorem dX7_fault_51 : decode cX7_fault 51 = .ok (.if_icmp .ne 17, 3) := by decide +kernel
theorem dX7_fault_54 : decode cX7_fault 54 = .ok (.aload_n 0, 1) := by decide +kernel
theorem dX7_fault_55 : decode cX7_fault 55 = .ok (.invokevirtual 82, 3) := by decide +kernel
theorem dX7_fault_58 : decode cX7_fault 58 = .ok (.aload_n 0, 1) := by decide +kernel
theorem dX7_fault_59 : decode cX7_fault 59 = .ok (.bipush 44, 2) := by decide +kernel
theorem dX7_fault_61 : decode cX7_fault 61 = .ok (.invokevirtual 79, 3) := by decide +kernel
theorem dX7_fault_64 : decode cX7_fault 64 = .ok (.istore_n 1, 1) := by decide +kernel
theorem dX7_fault_65 : decode cX7_fault 65 = .ok (.goto (-23), 3) := by decide +kernel
theorem dX7_fault_68 : decode cX7_fault 68 = .ok (.aload_n 0, 1) := by decide +kernel
theorem dX7_fault_69 : decode cX7_fault 69 = .ok (.getfield 55, 3) := by decide +kernel
theorem dX7_fault_72 : decode cX7_fault 72 = .ok (.aload_n 0, 1) := by decide +kernel
theorem dX7_fault_73 : decode cX7_fault 73 = .ok (.getfield 52, 3) := by decide +kernel
theorem dX7_fault_76 : decode cX7_fault 76 = .ok (.if_icmp .ge 11, 3) := by decide +kernel
theorem dX7_fault_79 : decode cX7_fault 79 = .ok (.aload_n 0, 1) := by decide +kernel
theorem dX7_fault_80 : decode cX7_fault 80 = .ok (.aload_n 0, 1) := by decide +kernel
theorem dX7_fault_81 : decode cX7_fault 81 = .ok (.getfield 55, 3) := by decide +kernel
theorem dX7_fault_84 : decode cX7_fault 84 = .ok (.invokevirtual 68, 3) := by decide +kernel
theorem dX7_fault_87 : decode cX7_fault 87 = .ok (.aload_n 0, 1) := by decide +kernel
theorem dX7_fault_88 : decode cX7_fault 88 = .ok (.getfield 62, 3) := by decide +kernel
theorem dX7_fault_91 : decode cX7_fault 91 = .ok (.ireturn, 1) := by decide +kernel
set_option maxRecDepth 20000 in
theorem ggX7_load_X7_fault : GoodIn wsX7_load wsX7_fault := goodIn_r _ [10, 11, 1, 12, 5, 13, 14, 15, 9, 16, 17, 18, 19, 20, 21, 22, 23, 24, 25, 3, 4, 26, 27, 28, 29, 30, 31, 32, 33, 34, 35, 36, 37, 38, 39, 40, 47, 48, 49, 50, 51, 52, 53, 54, 55, 56, 57, 58, 59, 60, 61] (by decide +kernel) (by decide +kernel)
set_option maxRecDepth 20000 in
theorem gX7_load_X7_fault : GoodIn wsX7_load (wsV RX7 85 RX7 yX7_fault wsX7_fault) := goodIn_app (goodIn_of _ (by decide +kernel)) ggX7_load_X7_fault
set_option maxRecDepth 20000 in
theorem ggX7_load_X7_keeps : GoodIn wsX7_load wsX7_keeps := goodIn_r _ [44, 45, 46, 2, 47, 48, 49, 50, 51, 52, 53, 54, 55, 56, 57, 58, 59, 60, 61] (by decide +kernel) (by decide +kernel)
set_option maxRecDepth 20000 in
theorem gX7_load_X7_keeps : GoodIn wsX7_load (wsV RX7 45 RX7 yX7_keeps wsX7_keeps) := goodIn_app (goodIn_of _ (by decide +kernel)) ggX7_load_X7_keeps
theorem dX7_load_0 : decode cX7_load 0 = .ok (.aload_n 0, 1) := by decide +kernel
theorem dX7_load_1 : decode cX7_load 1 = .ok (.invokevirtual 85, 3) := by decide +kernel
theorem dX7_load_4 : decode cX7_load 4 = .ok (.iconst (-1), 1) := by decide +kernel
theorem dX7_load_5 : decode cX7_load 5 = .ok (.if_icmp .eq 6, 3) := by decide +kernel
theorem dX7_load_8 : decode cX7_load 8 = .ok (.bipush (-3), 2) := by decide +kernel
theorem dX7_load_10 : decode cX7_load 10 = .ok (.ireturn, 1) := by decide +kernel
theorem dX7_load_11 : decode cX7_load 11 = .ok (.aload_n 0, 1) := by decide +kernel
theorem dX7_load_12 : decode cX7_load 12 = .ok (.invokevirtual 45, 3) := by decide +kernel
theorem dX7_load_15 : decode cX7_load 15 = .ok (.iconst 0, 1) := by decide +kernel
theorem dX7_load_16 : decode cX7_load 16 = .ok (.istore_n 1, 1) := by decide +kernel
theorem dX7_load_17 : decode cX7_load 17 = .ok (.iload_n 1, 1) := by decide +kernel
theorem dX7_load_18 : decode cX7_load 18 = .ok (.aload_n 0, 1) := by decide +kernel
theorem dX7_load_19 : decode cX7_load 19 = .ok (.getfield 72, 3) := by decide +kernel
theorem dX7_load_22 : decode cX7_load 22 = .ok (.if_icmp .ge 38, 3) := by decide +kernel
theorem dX7_load_25 : decode cX7_load 25 = .ok (.aload_n 0, 1) := by decide +kernel
theorem dX7_load_26 : decode cX7_load 26 = .ok (.getfield 7, 3) := by decide +kernel
theorem dX7_load_29 : decode cX7_load 29 = .ok (.iconst 3, 1) := by decide +kernel
theorem dX7_load_30 : decode cX7_load 30 = .ok (.iload_n 1, 1) := by decide +kernel
theorem dX7_load_31 : decode cX7_load 31 = .ok (.iadd, 1) := by decide +kernel
theorem dX7_load_32 : decode cX7_load 32 = .ok (.aload_n 0, 1) := by decide +kernel
theorem dX7_load_33 : decode cX7_load 33 = .ok (.getfield 26, 3) := by decide +kernel
theorem dX7_load_36 : decode cX7_load 36 = .ok (.iload_n 1, 1) := by decide +kernel
theorem dX7_load_37 : decode cX7_load 37 = .ok (.iaload, 1) := by decide +kernel
theorem dX7_load_38 : decode cX7_load 38 = .ok (.iastore, 1) := by decide +kernel
theorem dX7_load_39 : decode cX7_load 39 = .ok (.aload_n 0, 1) := by decide +kernel
theorem dX7_load_40 : decode cX7_load 40 = .ok (.getfield 7, 3) := by decide +kernel
theorem dX7_load_43 : decode cX7_load 43 = .ok (.bipush 23, 2) := by decide +kernel
theorem dX7_load_45 : decode cX7_load 45 = .ok (.iload_n 1, 1) := by decide +kernel
theorem dX7_load_46 : decode cX7_load 46 = .ok (.iadd, 1) := by decide +kernel
theorem dX7_load_47 : decode cX7_load 47 = .ok (.aload_n 0, 1) := by decide +kernel
theorem dX7_load_48 : decode cX7_load 48 = .ok (.getfield 29, 3) := by decide +kernel
theorem dX7_load_51 : decode cX7_load 51 = .ok (.iload_n 1, 1) := by decide +kernel
theorem dX7_load_52 : decode cX7_load 52 = .ok (.iaload, 1) := by decide +kernel
theorem dX7_load_53 : decode cX7_load 53 = .ok (.iastore, 1) := by decide +kernel
theorem dX7_load_54 : decode cX7_load 54 = .ok (.iinc 1 1, 3) := by decide +kernel
theorem dX7_load_57 : decode cX7_load 57 = .ok (.goto (-40), 3) := by decide +kernel
theorem dX7_load_60 : decode cX7_load 60 = .ok (.aload_n 0, 1) := by decide +kernel
theorem dX7_load_61 : decode cX7_load 61 = .ok (.getfield 7, 3) := by decide +kernel
theorem dX7_load_64 : decode cX7_load 64 = .ok (.iconst 0, 1) := by decide +kernel
theorem dX7_load_65 : decode cX7_load 65 = .ok (.aload_n 0, 1) := by decide +kernel
theorem dX7_load_66 : decode cX7_load 66 = .ok (.getfield 72, 3) := by decide +kernel
theorem dX7_load_69 : decode cX7_load 69 = .ok (.iastore, 1) := by decide +kernel
theorem dX7_load_70 : decode cX7_load 70 = .ok (.aload_n 0, 1) := by decide +kernel
theorem dX7_load_71 : decode cX7_load 71 = .ok (.iconst 0, 1) := by decide +kernel
theorem dX7_load_72 : decode cX7_load 72 = .ok (.putfield 52, 3) := by decide +kernel
theorem dX7_load_75 : decode cX7_load 75 = .ok (.aload_n 0, 1) := by decide +kernel
theorem dX7_load_76 : decode cX7_load 76 = .ok (.getfield 72, 3) := by decide +kernel
theorem dX7_load_79 : decode cX7_load 79 = .ok (.ireturn, 1) := by decide +kernel
theorem dX7_top_0 : decode cX7_top 0 = .ok (.aload_n 0, 1) := by decide +kernel
theorem dX7_top_1 : decode cX7_top 1 = .ok (.getfield 7, 3) := by decide +kernel
theorem dX7_top_4 : decode cX7_top 4 = .ok (.iconst 3, 1) := by decide +kernel
theorem dX7_top_5 : decode cX7_top 5 = .ok (.iload_n 1, 1) := by decide +kernel
theorem dX7_top_6 : decode cX7_top 6 = .ok (.iadd, 1) := by decide +kernel
theorem dX7_top_7 : decode cX7_top 7 = .ok (.iaload, 1) := by decide +kernel
theorem dX7_top_8 : decode cX7_top 8 = .ok (.aload_n 0, 1) := by decide +kernel
theorem dX7_top_9 : decode cX7_top 9 = .ok (.getfield 7, 3) := by decide +kernel
theorem dX7_top_12 : decode cX7_top 12 = .ok (.bipush 23, 2) := by decide +kernel
theorem dX7_top_14 : decode cX7_top 14 = .ok (.iload_n 1, 1) := by decide +kernel
theorem dX7_top_15 : decode cX7_top 15 = .ok (.iadd, 1) := by decide +kernel
theorem dX7_top_16 : decode cX7_top 16 = .ok (.iaload, 1) := by decide +kernel
theorem dX7_top_17 : decode cX7_top 17 = .ok (.iadd, 1) := by decide +kernel
theorem dX7_top_18 : decode cX7_top 18 = .ok (.ireturn, 1) := by decide +kernel
theorem dX7_clearance_0 : decode cX7_clearance 0 = .ok (.iload_n 2, 1) := by decide +kernel
theorem dX7_clearance_1 : decode cX7_clearance 1 = .ok (.iload_n 3, 1) := by decide +kernel
theorem dX7_clearance_2 : decode cX7_clearance 2 = .ok (.iload 5, 2) := by decide +kernel
theorem dX7_clearance_4 : decode cX7_clearance 4 = .ok (.isub, 1) := by decide +kernel
theorem dX7_clearance_5 : decode cX7_clearance 5 = .ok (.imul, 1) := by decide +kernel
theorem dX7_clearance_6 : decode cX7_clearance 6 = .ok (.iload 4, 2) := by decide +kernel
theorem dX7_clearance_8 : decode cX7_clearance 8 = .ok (.iload 5, 2) := by decide +kernel
theorem dX7_clearance_10 : decode cX7_clearance 10 = .ok (.iload_n 1, 1) := by decide +kernel
theorem dX7_clearance_11 : decode cX7_clearance 11 = .ok (.isub, 1) := by decide +kernel
theorem dX7_clearance_12 : decode cX7_clearance 12 = .ok (.imul, 1) := by decide +kernel
theorem dX7_clearance_13 : decode cX7_clearance 13 = .ok (.iadd, 1) := by decide +kernel
theorem dX7_clearance_14 : decode cX7_clearance 14 = .ok (.iload_n 3, 1) := by decide +kernel
theorem dX7_clearance_15 : decode cX7_clearance 15 = .ok (.iload_n 1, 1) := by decide +kernel
theorem dX7_clearance_16 : decode cX7_clearance 16 = .ok (.isub, 1) := by decide +kernel
theorem dX7_clearance_17 : decode cX7_clearance 17 = .ok (.aload_n 0, 1) := by decide +kernel
theorem dX7_clearance_18 : decode cX7_clearance 18 = .ok (.getfield 7, 3) := by decide +kernel
theorem dX7_clearance_21 : decode cX7_clearance 21 = .ok (.iconst 3, 1) := by decide +kernel
theorem dX7_clearance_22 : decode cX7_clearance 22 = .ok (.iload 5, 2) := by decide +kernel
theorem dX7_clearance_24 : decode cX7_clearance 24 = .ok (.iadd, 1) := by decide +kernel
theorem dX7_clearance_25 : decode cX7_clearance 25 = .ok (.iaload, 1) := by decide +kernel
theorem dX7_clearance_26 : decode cX7_clearance 26 = .ok (.aload_n 0, 1) := by decide +kernel
theorem dX7_clearance_27 : decode cX7_clearance 27 = .ok (.getfield 7, 3) := by decide +kernel
theorem dX7_clearance_30 : decode cX7_clearance 30 = .ok (.iconst 2, 1) := by decide +kernel
theorem dX7_clearance_31 : decode cX7_clearance 31 = .ok (.iaload, 1) := by decide +kernel
theorem dX7_clearance_32 : decode cX7_clearance 32 = .ok (.iload 5, 2) := by decide +kernel
theorem dX7_clearance_34 : decode cX7_clearance 34 = .ok (.iload_n 1, 1) := by decide +kernel
theorem dX7_clearance_35 : decode cX7_clearance 35 = .ok (.isub, 1) := by decide +kernel
theorem dX7_clearance_36 : decode cX7_clearance 36 = .ok (.imul, 1) := by decide +kernel
theorem dX7_clearance_37 : decode cX7_clearance 37 = .ok (.iload_n 3, 1) := by decide +kernel
theorem dX7_clearance_38 : decode cX7_clearance 38 = .ok (.iload 5, 2) := by decide +kernel
theorem dX7_clearance_40 : decode cX7_clearance 40 = .ok (.isub, 1) := by decide +kernel
theorem dX7_clearance_41 : decode cX7_clearance 41 = .ok (.imul, 1) := by decide +kernel
theorem dX7_clearance_42 : decode cX7_clearance 42 = .ok (.iadd, 1) := by decide +kernel
theorem dX7_clearance_43 : decode cX7_clearance 43 = .ok (.imul, 1) := by decide +kernel
theorem dX7_clearance_44 : decode cX7_clearance 44 = .ok (.isub, 1) := by decide +kernel
theorem dX7_clearance_45 : decode cX7_clearance 45 = .ok (.ireturn, 1) := by decide +kernel
set_option maxRecDepth 20000 in
theorem ggX7_meet_X7_clearance : GoodIn wsX7_meet wsX7_clearance := goodIn_r _ [5, 6, 7, 8, 9, 10, 11, 12, 13, 14, 15, 16, 17, 18, 19, 20, 21] (by decide +kernel) (by decide +kernel)
set_option maxRecDepth 20000 in
theorem gX7_meet_X7_clearance : GoodIn wsX7_meet (wsV RX7 87 RX7 yX7_clearance wsX7_clearance) := goodIn_app (goodIn_of _ (by decide +kernel)) ggX7_meet_X7_clearance
theorem dX7_meet_0 : decode cX7_meet 0 = .ok (.iload_n 1, 1) := by decide +kernel
theorem dX7_meet_1 : decode cX7_meet 1 = .ok (.iload_n 3, 1) := by decide +kernel
theorem dX7_meet_2 : decode cX7_meet 2 = .ok (.if_icmp .ge 7, 3) := by decide +kernel
theorem dX7_meet_5 : decode cX7_meet 5 = .ok (.iload_n 1, 1) := by decide +kernel
theorem dX7_meet_6 : decode cX7_meet 6 = .ok (.goto 4, 3) := by decide +kernel
theorem dX7_meet_9 : decode cX7_meet 9 = .ok (.iload_n 3, 1) := by decide +kernel
theorem dX7_meet_10 : decode cX7_meet 10 = .ok (.istore 5, 2) := by decide +kernel
theorem dX7_meet_12 : decode cX7_meet 12 = .ok (.iload_n 1, 1) := by decide +kernel
theorem dX7_meet_13 : decode cX7_meet 13 = .ok (.iload_n 3, 1) := by decide +kernel
theorem dX7_meet_14 : decode cX7_meet 14 = .ok (.if_icmp .ge 7, 3) := by decide +kernel
theorem dX7_meet_17 : decode cX7_meet 17 = .ok (.iload_n 3, 1) := by decide +kernel
theorem dX7_meet_18 : decode cX7_meet 18 = .ok (.goto 4, 3) := by decide +kernel
theorem dX7_meet_21 : decode cX7_meet 21 = .ok (.iload_n 1, 1) := by decide +kernel
theorem dX7_meet_22 : decode cX7_meet 22 = .ok (.istore 6, 2) := by decide +kernel
theorem dX7_meet_24 : decode cX7_meet 24 = .ok (.iconst 1, 1) := by decide +kernel
theorem dX7_meet_25 : decode cX7_meet 25 = .ok (.istore 7, 2) := by decide +kernel
theorem dX7_meet_27 : decode cX7_meet 27 = .ok (.iload 5, 2) := by decide +kernel
theorem dX7_meet_29 : decode cX7_meet 29 = .ok (.iconst 1, 1) := by decide +kernel
theorem dX7_meet_30 : decode cX7_meet 30 = .ok (.iadd, 1) := by decide +kernel
theorem dX7_meet_31 : decode cX7_meet 31 = .ok (.istore 8, 2) := by decide +kernel
theorem dX7_meet_33 : decode cX7_meet 33 = .ok (.iload 8, 2) := by decide +kernel
theorem dX7_meet_35 : decode cX7_meet 35 = .ok (.iload 6, 2) := by decide +kernel
theorem dX7_meet_37 : decode cX7_meet 37 = .ok (.if_icmp .ge 56, 3) := by decide +kernel
theorem dX7_meet_40 : decode cX7_meet 40 = .ok (.iload 7, 2) := by decide +kernel
theorem dX7_meet_42 : decode cX7_meet 42 = .ok (.ifCond .eq 42, 3) := by decide +kernel
theorem dX7_meet_45 : decode cX7_meet 45 = .ok (.aload_n 0, 1) := by decide +kernel
theorem dX7_meet_46 : decode cX7_meet 46 = .ok (.iload 5, 2) := by decide +kernel
theorem dX7_meet_48 : decode cX7_meet 48 = .ok (.iload_n 1, 1) := by decide +kernel
theorem dX7_meet_49 : decode cX7_meet 49 = .ok (.iload_n 3, 1) := by decide +kernel
theorem dX7_meet_50 : decode cX7_meet 50 = .ok (.if_icmp .ge 7, 3) := by decide +kernel
theorem dX7_meet_53 : decode cX7_meet 53 = .ok (.iload_n 2, 1) := by decide +kernel
theorem dX7_meet_54 : decode cX7_meet 54 = .ok (.goto 5, 3) := by decide +kernel
theorem dX7_meet_57 : decode cX7_meet 57 = .ok (.iload 4, 2) := by decide +kernel
theorem dX7_meet_59 : decode cX7_meet 59 = .ok (.iload 6, 2) := by decide +kernel
theorem dX7_meet_61 : decode cX7_meet 61 = .ok (.iload_n 1, 1) := by decide +kernel
theorem dX7_meet_62 : decode cX7_meet 62 = .ok (.iload_n 3, 1) := by decide +kernel
theorem dX7_meet_63 : decode cX7_meet 63 = .ok (.if_icmp .ge 8, 3) := by decide +kernel
theorem dX7_meet_66 : decode cX7_meet 66 = .ok (.iload 4, 2) := by decide +kernel
theorem dX7_meet_68 : decode cX7_meet 68 = .ok (.goto 4, 3) := by decide +kernel
theorem dX7_meet_71 : decode cX7_meet 71 = .ok (.iload_n 2, 1) := by decide +kernel
theorem dX7_meet_72 : decode cX7_meet 72 = .ok (.iload 8, 2) := by decide +kernel
theorem dX7_meet_74 : decode cX7_meet 74 = .ok (.invokevirtual 87, 3) := by decide +kernel
theorem dX7_meet_77 : decode cX7_meet 77 = .ok (.ifCond .lt 7, 3) := by decide +kernel
theorem dX7_meet_80 : decode cX7_meet 80 = .ok (.iconst 1, 1) := by decide +kernel
theorem dX7_meet_81 : decode cX7_meet 81 = .ok (.goto 4, 3) := by decide +kernel
theorem dX7_meet_84 : decode cX7_meet 84 = .ok (.iconst 0, 1) := by decide +kernel
theorem dX7_meet_85 : decode cX7_meet 85 = .ok (.istore 7, 2) := by decide +kernel
theorem dX7_meet_87 : decode cX7_meet 87 = .ok (.iinc 8 1, 3) := by decide +kernel
theorem dX7_meet_90 : decode cX7_meet 90 = .ok (.goto (-57), 3) := by decide +kernel
theorem dX7_meet_93 : decode cX7_meet 93 = .ok (.iload 7, 2) := by decide +kernel
theorem dX7_meet_95 : decode cX7_meet 95 = .ok (.ireturn, 1) := by decide +kernel
set_option maxRecDepth 20000 in
theorem ggX7_see_X7_top : GoodIn wsX7_see wsX7_top := goodIn_r _ [5, 6, 15, 16, 17, 18, 19, 20, 21, 22, 23, 24, 25, 26, 27, 28, 29] (by decide +kernel) (by decide +kernel)
set_option maxRecDepth 20000 in
theorem gX7_see_X7_top : GoodIn wsX7_see (wsV RX7 91 RX7 yX7_top wsX7_top) := goodIn_app (goodIn_of _ (by decide +kernel)) ggX7_see_X7_top
set_option maxRecDepth 20000 in
theorem ggX7_see_X7_meet : GoodIn wsX7_see wsX7_meet := goodIn_r _ [10, 11, 12, 13, 4, 14, 6, 15, 16, 17, 18, 19, 20, 21, 22, 23, 24, 25, 26, 27, 28, 29] (by decide +kernel) (by decide +kernel)
set_option maxRecDepth 20000 in
theorem gX7_see_X7_meet : GoodIn wsX7_see (wsV RX7 95 RX7 yX7_meet wsX7_meet) := goodIn_app (goodIn_of _ (by decide +kernel)) ggX7_see_X7_meet
