set_option maxRecDepth 20000 in
theorem gX6_slope_X3_has : GoodIn wsX6_slope (wsV RX6 69 RX3 yX3_has wsX3_has) := goodIn_app (goodIn_of _ (by decide +kernel)) ggX6_slope_X3_has
set_option maxRecDepth 20000 in
theorem ggX6_slope_X2_keep : GoodIn wsX6_slope wsX2_keep := goodIn_r _ [13, 14, 15, 16, 17, 18, 19, 20, 21, 22, 23, 6, 24, 25, 26, 27, 28, 29, 30, 8, 31, 32, 50, 51, 52, 45, 46, 47, 48, 49] (by decide +kernel) (by decide +kernel)
set_option maxRecDepth 20000 in
theorem gX6_slope_X2_keep : GoodIn wsX6_slope (wsV RX6 58 RX2 yX2_keep wsX2_keep) := goodIn_app (goodIn_of _ (by decide +kernel)) ggX6_slope_X2_keep
set_option maxRecDepth 20000 in
theorem ggX6_slope_X3_even : GoodIn wsX6_slope wsX3_even := goodIn_r _ [36, 31, 37, 4, 5, 6, 7, 8, 45, 46, 47, 48, 49] (by decide +kernel) (by decide +kernel)
set_option maxRecDepth 20000 in
theorem gX6_slope_X3_even : GoodIn wsX6_slope (wsV RX6 77 RX3 yX3_even wsX3_even) := goodIn_app (goodIn_of _ (by decide +kernel)) ggX6_slope_X3_even
theorem dX6_slope_0 : decode cX6_slope 0 = .ok (.aload_n 0, 1) := by decide +kernel
theorem dX6_slope_1 : decode cX6_slope 1 = .ok (.getfield 10, 3) := by decide +kernel
theorem dX6_slope_4 : decode cX6_slope 4 = .ok (.iload_n 1, 1) := by decide +kernel
theorem dX6_slope_5 : decode cX6_slope 5 = .ok (.invokevirtual 69, 3) := by decide +kernel
theorem dX6_slope_8 : decode cX6_slope 8 = .ok (.ifCond .eq 19, 3) := by decide +kernel
theorem dX6_slope_11 : decode cX6_slope 11 = .ok (.aload_n 0, 1) := by decide +kernel
theorem dX6_slope_12 : decode cX6_slope 12 = .ok (.getfield 10, 3) := by decide +kernel
theorem dX6_slope_15 : decode cX6_slope 15 = .ok (.iload_n 2, 1) := by decide +kernel
theorem dX6_slope_16 : decode cX6_slope 16 = .ok (.invokevirtual 69, 3) := by decide +kernel
theorem dX6_slope_19 : decode cX6_slope 19 = .ok (.ifCond .eq 8, 3) := by decide +kernel
theorem dX6_slope_22 : decode cX6_slope 22 = .ok (.iload_n 1, 1) := by decide +kernel
theorem dX6_slope_23 : decode cX6_slope 23 = .ok (.iload_n 2, 1) := by decide +kernel
theorem dX6_slope_24 : decode cX6_slope 24 = .ok (.if_icmp .lt 6, 3) := by decide +kernel
theorem dX6_slope_27 : decode cX6_slope 27 = .ok (.bipush (-2), 2) := by decide +kernel
theorem dX6_slope_29 : decode cX6_slope 29 = .ok (.ireturn, 1) := by decide +kernel
theorem dX6_slope_30 : decode cX6_slope 30 = .ok (.aload_n 0, 1) := by decide +kernel
theorem dX6_slope_31 : decode cX6_slope 31 = .ok (.getfield 22, 3) := by decide +kernel
theorem dX6_slope_34 : decode cX6_slope 34 = .ok (.aload_n 0, 1) := by decide +kernel
theorem dX6_slope_35 : decode cX6_slope 35 = .ok (.getfield 10, 3) := by decide +kernel
theorem dX6_slope_38 : decode cX6_slope 38 = .ok (.invokevirtual 58, 3) := by decide +kernel
theorem dX6_slope_41 : decode cX6_slope 41 = .ok (.aload_n 0, 1) := by decide +kernel
theorem dX6_slope_42 : decode cX6_slope 42 = .ok (.getfield 10, 3) := by decide +kernel
theorem dX6_slope_45 : decode cX6_slope 45 = .ok (.iload_n 1, 1) := by decide +kernel
theorem dX6_slope_46 : decode cX6_slope 46 = .ok (.iload_n 2, 1) := by decide +kernel
theorem dX6_slope_47 : decode cX6_slope 47 = .ok (.invokevirtual 77, 3) := by decide +kernel
theorem dX6_slope_50 : decode cX6_slope 50 = .ok (.ireturn, 1) := by decide +kernel
set_option maxRecDepth 20000 in
theorem ggX6_mast_X3_has : GoodIn wsX6_mast wsX3_has := goodIn_r _ [8, 9, 45, 46, 47, 48, 49] (by decide +kernel) (by decide +kernel)
set_option maxRecDepth 20000 in
theorem gX6_mast_X3_has : GoodIn wsX6_mast (wsV RX6 69 RX3 yX3_has wsX3_has) := goodIn_app (goodIn_of _ (by decide +kernel)) ggX6_mast_X3_has
set_option maxRecDepth 20000 in
theorem ggX6_mast_X6_within : GoodIn wsX6_mast wsX6_within := goodIn_r _ [13] (by decide +kernel) (by decide +kernel)
set_option maxRecDepth 20000 in
theorem gX6_mast_X6_within : GoodIn wsX6_mast (va_wsS RX6 54 yX6_within wsX6_within) := goodIn_app (goodIn_of _ (by decide +kernel)) ggX6_mast_X6_within
set_option maxRecDepth 20000 in
theorem ggX6_mast_X2_keep : GoodIn wsX6_mast wsX2_keep := goodIn_r _ [18, 19, 20, 21, 22, 23, 24, 25, 26, 27, 28, 7, 29, 30, 31, 32, 33, 34, 35, 9, 36, 37, 50, 51, 52, 45, 46, 47, 48, 49] (by decide +kernel) (by decide +kernel)
set_option maxRecDepth 20000 in
theorem gX6_mast_X2_keep : GoodIn wsX6_mast (wsV RX6 58 RX2 yX2_keep wsX2_keep) := goodIn_app (goodIn_of _ (by decide +kernel)) ggX6_mast_X2_keep
theorem dX6_mast_0 : decode cX6_mast 0 = .ok (.aload_n 0, 1) := by decide +kernel
theorem dX6_mast_1 : decode cX6_mast 1 = .ok (.getfield 10, 3) := by decide +kernel
theorem dX6_mast_4 : decode cX6_mast 4 = .ok (.iload_n 1, 1) := by decide +kernel
theorem dX6_mast_5 : decode cX6_mast 5 = .ok (.invokevirtual 69, 3) := by decide +kernel
theorem dX6_mast_8 : decode cX6_mast 8 = .ok (.ifCond .eq 14, 3) := by decide +kernel
theorem dX6_mast_11 : decode cX6_mast 11 = .ok (.iload_n 2, 1) := by decide +kernel
theorem dX6_mast_12 : decode cX6_mast 12 = .ok (.iconst 0, 1) := by decide +kernel
theorem dX6_mast_13 : decode cX6_mast 13 = .ok (.sipush 200, 3) := by decide +kernel
theorem dX6_mast_16 : decode cX6_mast 16 = .ok (.invokestatic 54, 3) := by decide +kernel
theorem dX6_mast_19 : decode cX6_mast 19 = .ok (.ifCond .ne 6, 3) := by decide +kernel
theorem dX6_mast_22 : decode cX6_mast 22 = .ok (.bipush (-2), 2) := by decide +kernel
theorem dX6_mast_24 : decode cX6_mast 24 = .ok (.ireturn, 1) := by decide +kernel
theorem dX6_mast_25 : decode cX6_mast 25 = .ok (.aload_n 0, 1) := by decide +kernel
theorem dX6_mast_26 : decode cX6_mast 26 = .ok (.getfield 22, 3) := by decide +kernel
theorem dX6_mast_29 : decode cX6_mast 29 = .ok (.aload_n 0, 1) := by decide +kernel
theorem dX6_mast_30 : decode cX6_mast 30 = .ok (.getfield 10, 3) := by decide +kernel
theorem dX6_mast_33 : decode cX6_mast 33 = .ok (.invokevirtual 58, 3) := by decide +kernel
theorem dX6_mast_36 : decode cX6_mast 36 = .ok (.aload_n 0, 1) := by decide +kernel
theorem dX6_mast_37 : decode cX6_mast 37 = .ok (.getfield 10, 3) := by decide +kernel
theorem dX6_mast_40 : decode cX6_mast 40 = .ok (.getfield 81, 3) := by decide +kernel
theorem dX6_mast_43 : decode cX6_mast 43 = .ok (.iload_n 1, 1) := by decide +kernel
theorem dX6_mast_44 : decode cX6_mast 44 = .ok (.iaload, 1) := by decide +kernel
theorem dX6_mast_45 : decode cX6_mast 45 = .ok (.istore_n 3, 1) := by decide +kernel
theorem dX6_mast_46 : decode cX6_mast 46 = .ok (.aload_n 0, 1) := by decide +kernel
theorem dX6_mast_47 : decode cX6_mast 47 = .ok (.getfield 10, 3) := by decide +kernel
theorem dX6_mast_50 : decode cX6_mast 50 = .ok (.getfield 81, 3) := by decide +kernel
theorem dX6_mast_53 : decode cX6_mast 53 = .ok (.iload_n 1, 1) := by decide +kernel
theorem dX6_mast_54 : decode cX6_mast 54 = .ok (.iload_n 2, 1) := by decide +kernel
theorem dX6_mast_55 : decode cX6_mast 55 = .ok (.iastore, 1) := by decide +kernel
theorem dX6_mast_56 : decode cX6_mast 56 = .ok (.iload_n 3, 1) := by decide +kernel
theorem dX6_mast_57 : decode cX6_mast 57 = .ok (.ireturn, 1) := by decide +kernel
set_option maxRecDepth 20000 in
theorem ggX6_reverse_X2_keep : GoodIn wsX6_reverse wsX2_keep := goodIn_r _ [8, 9, 10, 11, 12, 13, 14, 15, 16, 17, 18, 19, 20, 21, 22, 23, 24, 25, 26, 27, 28, 29, 42, 43, 44, 45, 46, 47, 48, 49] (by decide +kernel) (by decide +kernel)
set_option maxRecDepth 20000 in
theorem gX6_reverse_X2_keep : GoodIn wsX6_reverse (wsV RX6 58 RX2 yX2_keep wsX2_keep) := goodIn_app (goodIn_of _ (by decide +kernel)) ggX6_reverse_X2_keep
set_option maxRecDepth 20000 in
theorem ggX6_reverse_X3_copyFrom : GoodIn wsX6_reverse wsX3_copyFrom := goodIn_r _ [20, 21, 22, 23, 24, 25, 19, 26, 27, 28, 29, 45, 46, 47, 48, 49] (by decide +kernel) (by decide +kernel)
set_option maxRecDepth 20000 in
theorem gX6_reverse_X3_copyFrom : GoodIn wsX6_reverse (wsV RX6 84 RX3 yX3_copyFrom wsX3_copyFrom) := goodIn_app (goodIn_of _ (by decide +kernel)) ggX6_reverse_X3_copyFrom
set_option maxRecDepth 20000 in
theorem ggX6_reverse_X3_takeReversed : GoodIn wsX6_reverse wsX3_takeReversed := goodIn_r _ [34, 27, 28, 29, 45, 46, 47, 48, 49] (by decide +kernel) (by decide +kernel)
set_option maxRecDepth 20000 in
theorem gX6_reverse_X3_takeReversed : GoodIn wsX6_reverse (wsV RX6 87 RX3 yX3_takeReversed wsX3_takeReversed) := goodIn_app (goodIn_of _ (by decide +kernel)) ggX6_reverse_X3_takeReversed
theorem dX6_reverse_0 : decode cX6_reverse 0 = .ok (.aload_n 0, 1) := by decide +kernel
theorem dX6_reverse_1 : decode cX6_reverse 1 = .ok (.getfield 22, 3) := by decide +kernel
theorem dX6_reverse_4 : decode cX6_reverse 4 = .ok (.aload_n 0, 1) := by decide +kernel
theorem dX6_reverse_5 : decode cX6_reverse 5 = .ok (.getfield 10, 3) := by decide +kernel
theorem dX6_reverse_8 : decode cX6_reverse 8 = .ok (.invokevirtual 58, 3) := by decide +kernel
theorem dX6_reverse_11 : decode cX6_reverse 11 = .ok (.aload_n 0, 1) := by decide +kernel
theorem dX6_reverse_12 : decode cX6_reverse 12 = .ok (.getfield 16, 3) := by decide +kernel
theorem dX6_reverse_15 : decode cX6_reverse 15 = .ok (.aload_n 0, 1) := by decide +kernel
theorem dX6_reverse_16 : decode cX6_reverse 16 = .ok (.getfield 10, 3) := by decide +kernel
theorem dX6_reverse_19 : decode cX6_reverse 19 = .ok (.invokevirtual 84, 3) := by decide +kernel
theorem dX6_reverse_22 : decode cX6_reverse 22 = .ok (.aload_n 0, 1) := by decide +kernel
theorem dX6_reverse_23 : decode cX6_reverse 23 = .ok (.getfield 10, 3) := by decide +kernel
theorem dX6_reverse_26 : decode cX6_reverse 26 = .ok (.aload_n 0, 1) := by decide +kernel
theorem dX6_reverse_27 : decode cX6_reverse 27 = .ok (.getfield 16, 3) := by decide +kernel
theorem dX6_reverse_30 : decode cX6_reverse 30 = .ok (.invokevirtual 87, 3) := by decide +kernel
theorem dX6_reverse_33 : decode cX6_reverse 33 = .ok (.ireturn, 1) := by decide +kernel
set_option maxRecDepth 20000 in
theorem ggX6_setRange_X6_within : GoodIn wsX6_setRange wsX6_within := goodIn_r _ [7] (by decide +kernel) (by decide +kernel)
set_option maxRecDepth 20000 in
theorem gX6_setRange_X6_within : GoodIn wsX6_setRange (va_wsS RX6 54 yX6_within wsX6_within) := goodIn_app (goodIn_of _ (by decide +kernel)) ggX6_setRange_X6_within
set_option maxRecDepth 20000 in
theorem ggX6_setRange_X2_keep : GoodIn wsX6_setRange wsX2_keep := goodIn_r _ [12, 13, 14, 15, 16, 17, 18, 19, 20, 21, 22, 23, 24, 25, 26, 27, 28, 29, 30, 31, 32, 33, 46, 47, 48, 41, 42, 43, 44, 45] (by decide +kernel) (by decide +kernel)
set_option maxRecDepth 20000 in
theorem gX6_setRange_X2_keep : GoodIn wsX6_setRange (wsV RX6 58 RX2 yX2_keep wsX2_keep) := goodIn_app (goodIn_of _ (by decide +kernel)) ggX6_setRange_X2_keep
theorem dX6_setRange_0 : decode cX6_setRange 0 = .ok (.iload_n 1, 1) := by decide +kernel
theorem dX6_setRange_1 : decode cX6_setRange 1 = .ok (.iconst 1, 1) := by decide +kernel
theorem dX6_setRange_2 : decode cX6_setRange 2 = .ok (.bipush 19, 2) := by decide +kernel
theorem dX6_setRange_4 : decode cX6_setRange 4 = .ok (.invokestatic 54, 3) := by decide +kernel
theorem dX6_setRange_7 : decode cX6_setRange 7 = .ok (.ifCond .ne 6, 3) := by decide +kernel
theorem dX6_setRange_10 : decode cX6_setRange 10 = .ok (.bipush (-2), 2) := by decide +kernel
theorem dX6_setRange_12 : decode cX6_setRange 12 = .ok (.ireturn, 1) := by decide +kernel
theorem dX6_setRange_13 : decode cX6_setRange 13 = .ok (.aload_n 0, 1) := by decide +kernel
theorem dX6_setRange_14 : decode cX6_setRange 14 = .ok (.getfield 22, 3) := by decide +kernel
theorem dX6_setRange_17 : decode cX6_setRange 17 = .ok (.aload_n 0, 1) := by decide +kernel
theorem dX6_setRange_18 : decode cX6_setRange 18 = .ok (.getfield 10, 3) := by decide +kernel
theorem dX6_setRange_21 : decode cX6_setRange 21 = .ok (.invokevirtual 58, 3) := by decide +kernel
theorem dX6_setRange_24 : decode cX6_setRange 24 = .ok (.aload_n 0, 1) := by decide +kernel
theorem dX6_setRange_25 : decode cX6_setRange 25 = .ok (.getfield 10, 3) := by decide +kernel
theorem dX6_setRange_28 : decode cX6_setRange 28 = .ok (.getfield 91, 3) := by decide +kernel
theorem dX6_setRange_31 : decode cX6_setRange 31 = .ok (.istore_n 2, 1) := by decide +kernel
theorem dX6_setRange_32 : decode cX6_setRange 32 = .ok (.aload_n 0, 1) := by decide +kernel
theorem dX6_setRange_33 : decode cX6_setRange 33 = .ok (.getfield 10, 3) := by decide +kernel
theorem dX6_setRange_36 : decode cX6_setRange 36 = .ok (.iload_n 1, 1) := by decide +kernel
theorem dX6_setRange_37 : decode cX6_setRange 37 = .ok (.putfield 91, 3) := by decide +kernel
theorem dX6_setRange_40 : decode cX6_setRange 40 = .ok (.iload_n 2, 1) := by decide +kernel
theorem dX6_setRange_41 : decode cX6_setRange 41 = .ok (.ireturn, 1) := by decide +kernel
set_option maxRecDepth 20000 in
theorem ggX6_setBulge_X6_within : GoodIn wsX6_setBulge wsX6_within := goodIn_r _ [7] (by decide +kernel) (by decide +kernel)
set_option maxRecDepth 20000 in
theorem gX6_setBulge_X6_within : GoodIn wsX6_setBulge (va_wsS RX6 54 yX6_within wsX6_within) := goodIn_app (goodIn_of _ (by decide +kernel)) ggX6_setBulge_X6_within
set_option maxRecDepth 20000 in
theorem ggX6_setBulge_X2_keep : GoodIn wsX6_setBulge wsX2_keep := goodIn_r _ [12, 13, 14, 15, 16, 17, 18, 19, 20, 21, 22, 23, 24, 25, 26, 27, 28, 29, 30, 31, 32, 33, 46, 47, 48, 41, 42, 43, 44, 45] (by decide +kernel) (by decide +kernel)
set_option maxRecDepth 20000 in
theorem gX6_setBulge_X2_keep : GoodIn wsX6_setBulge (wsV RX6 58 RX2 yX2_keep wsX2_keep) := goodIn_app (goodIn_of _ (by decide +kernel)) ggX6_setBulge_X2_keep
theorem dX6_setBulge_0 : decode cX6_setBulge 0 = .ok (.iload_n 1, 1) := by decide +kernel
theorem dX6_setBulge_1 : decode cX6_setBulge 1 = .ok (.iconst 0, 1) := by decide +kernel
theorem dX6_setBulge_2 : decode cX6_setBulge 2 = .ok (.bipush 9, 2) := by decide +kernel
theorem dX6_setBulge_4 : decode cX6_setBulge 4 = .ok (.invokestatic 54, 3) := by decide +kernel
theorem dX6_setBulge_7 : decode cX6_setBulge 7 = .ok (.ifCond .ne 6, 3) := by decide +kernel
theorem dX6_setBulge_10 : decode cX6_setBulge 10 = .ok (.bipush (-2), 2) := by decide +kernel
theorem dX6_setBulge_12 : decode cX6_setBulge 12 = .ok (.ireturn, 1) := by decide +kernel
theorem dX6_setBulge_13 : decode cX6_setBulge 13 = .ok (.aload_n 0, 1) := by decide +kernel
theorem dX6_setBulge_14 : decode cX6_setBulge 14 = .ok (.getfield 22, 3) := by decide +kernel
theorem dX6_setBulge_17 : decode cX6_setBulge 17 = .ok (.aload_n 0, 1) := by decide +kernel
theorem dX6_setBulge_18 : decode cX6_setBulge 18 = .ok (.getfield 10, 3) := by decide +kernel
theorem dX6_setBulge_21 : decode cX6_setBulge 21 = .ok (.invokevirtual 58, 3) := by decide +kernel
theorem dX6_setBulge_24 : decode cX6_setBulge 24 = .ok (.aload_n 0, 1) := by decide +kernel
theorem dX6_setBulge_25 : decode cX6_setBulge 25 = .ok (.getfield 10, 3) := by decide +kernel
theorem dX6_setBulge_28 : decode cX6_setBulge 28 = .ok (.getfield 95, 3) := by decide +kernel
theorem dX6_setBulge_31 : decode cX6_setBulge 31 = .ok (.istore_n 2, 1) := by decide +kernel
theorem dX6_setBulge_32 : decode cX6_setBulge 32 = .ok (.aload_n 0, 1) := by decide +kernel
theorem dX6_setBulge_33 : decode cX6_setBulge 33 = .ok (.getfield 10, 3) := by decide +kernel
theorem dX6_setBulge_36 : decode cX6_setBulge 36 = .ok (.iload_n 1, 1) := by decide +kernel
theorem dX6_setBulge_37 : decode cX6_setBulge 37 = .ok (.putfield 95, 3) := by decide +kernel
theorem dX6_setBulge_40 : decode cX6_setBulge 40 = .ok (.iload_n 2, 1) := by decide +kernel
theorem dX6_setBulge_41 : decode cX6_setBulge 41 = .ok (.ireturn, 1) := by decide +kernel
set_option maxRecDepth 20000 in
theorem ggX6_station_X3_has : GoodIn wsX6_station wsX3_has := goodIn_r _ [8, 9, 61, 62, 63, 64, 65] (by decide +kernel) (by decide +kernel)
set_option maxRecDepth 20000 in
theorem gX6_station_X3_has : GoodIn wsX6_station (wsV RX6 69 RX3 yX3_has wsX3_has) := goodIn_app (goodIn_of _ (by decide +kernel)) ggX6_station_X3_has
set_option maxRecDepth 20000 in
theorem ggX6_station_X3_topOf : GoodIn wsX6_station wsX3_topOf := goodIn_r _ [13, 14, 15, 16, 5, 6, 7, 8, 9, 61, 62, 63, 64, 65] (by decide +kernel) (by decide +kernel)
set_option maxRecDepth 20000 in
theorem gX6_station_X3_topOf : GoodIn wsX6_station (wsV RX6 118 RX3 yX3_topOf wsX3_topOf) := goodIn_app (goodIn_of _ (by decide +kernel)) ggX6_station_X3_topOf
set_option maxRecDepth 20000 in
theorem ggX6_station_X3_contacts : GoodIn wsX6_station wsX3_contacts := goodIn_r _ [20, 9, 21, 22, 23, 7, 24, 25, 26, 27, 28, 29, 30, 11, 12, 13, 14, 15, 16, 5, 6, 8, 31, 32, 33, 34, 35, 36, 37, 38, 39, 40, 41, 42, 43, 44, 45, 61, 62, 63, 64, 65] (by decide +kernel) (by decide +kernel)
set_option maxRecDepth 20000 in
theorem gX6_station_X3_contacts : GoodIn wsX6_station (wsV RX6 122 RX3 yX3_contacts wsX3_contacts) := goodIn_app (goodIn_of _ (by decide +kernel)) ggX6_station_X3_contacts
set_option maxRecDepth 20000 in
theorem ggX6_station_X3_groundsSeen : GoodIn wsX6_station wsX3_groundsSeen := goodIn_r _ [49, 9, 14, 31, 32, 33, 7, 34, 35, 36, 27, 37, 38, 39, 40, 41, 42, 43, 44, 25, 26, 28, 45, 16, 5, 6, 8, 61, 62, 63, 64, 65] (by decide +kernel) (by decide +kernel)
set_option maxRecDepth 20000 in
theorem gX6_station_X3_groundsSeen : GoodIn wsX6_station (wsV RX6 125 RX3 yX3_groundsSeen wsX3_groundsSeen) := goodIn_app (goodIn_of _ (by decide +kernel)) ggX6_station_X3_groundsSeen
set_option maxRecDepth 20000 in
theorem ggX6_station_X3_higherNeighbors : GoodIn wsX6_station wsX3_higherNeighbors := goodIn_r _ [53, 16, 5, 6, 7, 8, 9, 30, 11, 12, 13, 14, 15, 61, 62, 63, 64, 65] (by decide +kernel) (by decide +kernel)
set_option maxRecDepth 20000 in
theorem gX6_station_X3_higherNeighbors : GoodIn wsX6_station (wsV RX6 128 RX3 yX3_higherNeighbors wsX3_higherNeighbors) := goodIn_app (goodIn_of _ (by decide +kernel)) ggX6_station_X3_higherNeighbors
theorem dX6_station_0 : decode cX6_station 0 = .ok (.aload_n 0, 1) := by decide +kernel
theorem dX6_station_1 : decode cX6_station 1 = .ok (.getfield 10, 3) := by decide +kernel
theorem dX6_station_4 : decode cX6_station 4 = .ok (.iload_n 1, 1) := by decide +kernel
theorem dX6_station_5 : decode cX6_station 5 = .ok (.invokevirtual 69, 3) := by decide +kernel
theorem dX6_station_8 : decode cX6_station 8 = .ok (.ifCond .ne 6, 3) := by decide +kernel
theorem dX6_station_11 : decode cX6_station 11 = .ok (.bipush (-2), 2) := by decide +kernel
theorem dX6_station_13 : decode cX6_station 13 = .ok (.ireturn, 1) := by decide +kernel
theorem dX6_station_14 : decode cX6_station 14 = .ok (.iload_n 2, 1) := by decide +kernel
theorem dX6_station_15 : decode cX6_station 15 = .ok (.tableswitch 101 0 5 #[37, 47, 57, 66, 75, 92], 37) := by decide +kernel
theorem dX6_station_52 : decode cX6_station 52 = .ok (.aload_n 0, 1) := by decide +kernel
theorem dX6_station_53 : decode cX6_station 53 = .ok (.getfield 10, 3) := by decide +kernel
theorem dX6_station_56 : decode cX6_station 56 = .ok (.getfield 73, 3) := by decide +kernel
theorem dX6_station_59 : decode cX6_station 59 = .ok (.iload_n 1, 1) := by decide +kernel
theorem dX6_station_60 : decode cX6_station 60 = .ok (.iaload, 1) := by decide +kernel
theorem dX6_station_61 : decode cX6_station 61 = .ok (.ireturn, 1) := by decide +kernel
theorem dX6_station_62 : decode cX6_station 62 = .ok (.aload_n 0, 1) := by decide +kernel
theorem dX6_station_63 : decode cX6_station 63 = .ok (.getfield 10, 3) := by decide +kernel
theorem dX6_station_66 : decode cX6_station 66 = .ok (.getfield 81, 3) := by decide +kernel
theorem dX6_station_69 : decode cX6_station 69 = .ok (.iload_n 1, 1) := by decide +kernel
theorem dX6_station_70 : decode cX6_station 70 = .ok (.iaload, 1) := by decide +kernel
theorem dX6_station_71 : decode cX6_station 71 = .ok (.ireturn, 1) := by decide +kernel
theorem dX6_station_72 : decode cX6_station 72 = .ok (.aload_n 0, 1) := by decide +kernel
theorem dX6_station_73 : decode cX6_station 73 = .ok (.getfield 10, 3) := by decide +kernel
theorem dX6_station_76 : decode cX6_station 76 = .ok (.iload_n 1, 1) := by decide +kernel
theorem dX6_station_77 : decode cX6_station 77 = .ok (.invokevirtual 118, 3) := by decide +kernel
theorem dX6_station_80 : decode cX6_station 80 = .ok (.ireturn, 1) := by decide +kernel
theorem dX6_station_81 : decode cX6_station 81 = .ok (.aload_n 0, 1) := by decide +kernel
theorem dX6_station_82 : decode cX6_station 82 = .ok (.getfield 10, 3) := by decide +kernel
theorem dX6_station_85 : decode cX6_station 85 = .ok (.iload_n 1, 1) := by decide +kernel
theorem dX6_station_86 : decode cX6_station 86 = .ok (.invokevirtual 122, 3) := by decide +kernel
theorem dX6_station_89 : decode cX6_station 89 = .ok (.ireturn, 1) := by decide +kernel
theorem dX6_station_90 : decode cX6_station 90 = .ok (.aload_n 0, 1) := by decide +kernel
theorem dX6_station_91 : decode cX6_station 91 = .ok (.getfield 10, 3) := by decide +kernel
theorem dX6_station_94 : decode cX6_station 94 = .ok (.iload_n 1, 1) := by decide +kernel
theorem dX6_station_95 : decode cX6_station 95 = .ok (.aload_n 0, 1) := by decide +kernel
theorem dX6_station_96 : decode cX6_station 96 = .ok (.getfield 10, 3) := by decide +kernel
theorem dX6_station_99 : decode cX6_station 99 = .ok (.iload_n 1, 1) := by decide +kernel
theorem dX6_station_100 : decode cX6_station 100 = .ok (.invokevirtual 118, 3) := by decide +kernel
theorem dX6_station_103 : decode cX6_station 103 = .ok (.invokevirtual 125, 3) := by decide +kernel
theorem dX6_station_106 : decode cX6_station 106 = .ok (.ireturn, 1) := by decide +kernel
theorem dX6_station_107 : decode cX6_station 107 = .ok (.aload_n 0, 1) := by decide +kernel
theorem dX6_station_108 : decode cX6_station 108 = .ok (.getfield 10, 3) := by decide +kernel
theorem dX6_station_111 : decode cX6_station 111 = .ok (.iload_n 1, 1) := by decide +kernel
theorem dX6_station_112 : decode cX6_station 112 = .ok (.invokevirtual 128, 3) := by decide +kernel
theorem dX6_station_115 : decode cX6_station 115 = .ok (.ireturn, 1) := by decide +kernel
theorem dX6_station_116 : decode cX6_station 116 = .ok (.bipush (-2), 2) := by decide +kernel
theorem dX6_station_118 : decode cX6_station 118 = .ok (.ireturn, 1) := by decide +kernel
set_option maxRecDepth 20000 in
theorem ggX6_sees_X3_has : GoodIn wsX6_sees wsX3_has := goodIn_r _ [6, 7, 45, 46, 47, 48, 49] (by decide +kernel) (by decide +kernel)
set_option maxRecDepth 20000 in
theorem gX6_sees_X3_has : GoodIn wsX6_sees (wsV RX6 69 RX3 yX3_has wsX3_has) := goodIn_app (goodIn_of _ (by decide +kernel)) ggX6_sees_X3_has
set_option maxRecDepth 20000 in
theorem ggX6_sees_X3_topsSee : GoodIn wsX6_sees wsX3_topsSee := goodIn_r _ [11, 12, 13, 14, 5, 15, 16, 17, 18, 3, 4, 6, 7, 19, 20, 21, 22, 23, 24, 25, 26, 27, 28, 29, 30, 31, 32, 33, 34, 35, 36, 37, 45, 46, 47, 48, 49] (by decide +kernel) (by decide +kernel)
set_option maxRecDepth 20000 in
theorem gX6_sees_X3_topsSee : GoodIn wsX6_sees (wsV RX6 131 RX3 yX3_topsSee wsX3_topsSee) := goodIn_app (goodIn_of _ (by decide +kernel)) ggX6_sees_X3_topsSee
theorem dX6_sees_0 : decode cX6_sees 0 = .ok (.aload_n 0, 1) := by decide +kernel
theorem dX6_sees_1 : decode cX6_sees 1 = .ok (.getfield 10, 3) := by decide +kernel
theorem dX6_sees_4 : decode cX6_sees 4 = .ok (.iload_n 1, 1) := by decide +kernel
theorem dX6_sees_5 : decode cX6_sees 5 = .ok (.invokevirtual 69, 3) := by decide +kernel
theorem dX6_sees_8 : decode cX6_sees 8 = .ok (.ifCond .eq 14, 3) := by decide +kernel
theorem dX6_sees_11 : decode cX6_sees 11 = .ok (.aload_n 0, 1) := by decide +kernel
theorem dX6_sees_12 : decode cX6_sees 12 = .ok (.getfield 10, 3) := by decide +kernel
theorem dX6_sees_15 : decode cX6_sees 15 = .ok (.iload_n 2, 1) := by decide +kernel
theorem dX6_sees_16 : decode cX6_sees 16 = .ok (.invokevirtual 69, 3) := by decide +kernel
theorem dX6_sees_19 : decode cX6_sees 19 = .ok (.ifCond .ne 6, 3) := by decide +kernel
theorem dX6_sees_22 : decode cX6_sees 22 = .ok (.bipush (-2), 2) := by decide +kernel
theorem dX6_sees_24 : decode cX6_sees 24 = .ok (.ireturn, 1) := by decide +kernel
theorem dX6_sees_25 : decode cX6_sees 25 = .ok (.aload_n 0, 1) := by decide +kernel
theorem dX6_sees_26 : decode cX6_sees 26 = .ok (.getfield 10, 3) := by decide +kernel
theorem dX6_sees_29 : decode cX6_sees 29 = .ok (.iload_n 1, 1) := by decide +kernel
theorem dX6_sees_30 : decode cX6_sees 30 = .ok (.iload_n 2, 1) := by decide +kernel
theorem dX6_sees_31 : decode cX6_sees 31 = .ok (.invokevirtual 131, 3) := by decide +kernel
theorem dX6_sees_34 : decode cX6_sees 34 = .ok (.ifCond .eq 7, 3) := by decide +kernel
theorem dX6_sees_37 : decode cX6_sees 37 = .ok (.iconst 1, 1) := by decide +kernel
theorem dX6_sees_38 : decode cX6_sees 38 = .ok (.goto 4, 3) := by decide +kernel
theorem dX6_sees_41 : decode cX6_sees 41 = .ok (.iconst 0, 1) := by decide +kernel
theorem dX6_sees_42 : decode cX6_sees 42 = .ok (.ireturn, 1) := by decide +kernel
set_option maxRecDepth 20000 in
theorem ggX6_obstacle_X3_hasPair : GoodIn wsX6_obstacle wsX3_hasPair := goodIn_r _ [6, 7, 8, 9, 5, 10, 11, 50, 51, 52, 53, 54] (by decide +kernel) (by decide +kernel)
set_option maxRecDepth 20000 in
theorem gX6_obstacle_X3_hasPair : GoodIn wsX6_obstacle (wsV RX6 135 RX3 yX3_hasPair wsX3_hasPair) := goodIn_app (goodIn_of _ (by decide +kernel)) ggX6_obstacle_X3_hasPair
set_option maxRecDepth 20000 in
theorem ggX6_obstacle_X6_within : GoodIn wsX6_obstacle wsX6_within := goodIn_r _ [15] (by decide +kernel) (by decide +kernel)
set_option maxRecDepth 20000 in
theorem gX6_obstacle_X6_within : GoodIn wsX6_obstacle (va_wsS RX6 54 yX6_within wsX6_within) := goodIn_app (goodIn_of _ (by decide +kernel)) ggX6_obstacle_X6_within
set_option maxRecDepth 20000 in
theorem ggX6_obstacle_X3_mostInTheWay : GoodIn wsX6_obstacle wsX3_mostInTheWay := goodIn_r _ [19, 20, 21, 22, 23, 24, 25, 26, 27, 28, 29, 5, 30, 31, 32, 7, 8, 9, 10, 11, 33, 34, 35, 36, 37, 38, 39, 40, 50, 51, 52, 53, 54] (by decide +kernel) (by decide +kernel)
set_option maxRecDepth 20000 in
theorem gX6_obstacle_X3_mostInTheWay : GoodIn wsX6_obstacle (wsV RX6 138 RX3 yX3_mostInTheWay wsX3_mostInTheWay) := goodIn_app (goodIn_of _ (by decide +kernel)) ggX6_obstacle_X3_mostInTheWay
set_option maxRecDepth 20000 in
theorem ggX6_obstacle_X3_topOf : GoodIn wsX6_obstacle wsX3_topOf := goodIn_r _ [30, 31, 32, 7, 8, 9, 5, 10, 11, 50, 51, 52, 53, 54] (by decide +kernel) (by decide +kernel)
set_option maxRecDepth 20000 in
theorem gX6_obstacle_X3_topOf : GoodIn wsX6_obstacle (wsV RX6 118 RX3 yX3_topOf wsX3_topOf) := goodIn_app (goodIn_of _ (by decide +kernel)) ggX6_obstacle_X3_topOf
set_option maxRecDepth 20000 in
theorem ggX6_obstacle_X3_clearance : GoodIn wsX6_obstacle wsX3_clearance := goodIn_r _ [36, 37, 38, 22, 39, 31, 40, 7, 8, 9, 5, 10, 11, 50, 51, 52, 53, 54] (by decide +kernel) (by decide +kernel)
set_option maxRecDepth 20000 in
theorem gX6_obstacle_X3_clearance : GoodIn wsX6_obstacle (wsV RX6 141 RX3 yX3_clearance wsX3_clearance) := goodIn_app (goodIn_of _ (by decide +kernel)) ggX6_obstacle_X3_clearance
theorem dX6_obstacle_0 : decode cX6_obstacle 0 = .ok (.aload_n 0, 1) := by decide +kernel
theorem dX6_obstacle_1 : decode cX6_obstacle 1 = .ok (.getfield 10, 3) := by decide +kernel
theorem dX6_obstacle_4 : decode cX6_obstacle 4 = .ok (.iload_n 1, 1) := by decide +kernel
theorem dX6_obstacle_5 : decode cX6_obstacle 5 = .ok (.iload_n 2, 1) := by decide +kernel
theorem dX6_obstacle_6 : decode cX6_obstacle 6 = .ok (.invokevirtual 135, 3) := by decide +kernel
theorem dX6_obstacle_9 : decode cX6_obstacle 9 = .ok (.ifCond .eq 12, 3) := by decide +kernel
theorem dX6_obstacle_12 : decode cX6_obstacle 12 = .ok (.iload_n 3, 1) := by decide +kernel
theorem dX6_obstacle_13 : decode cX6_obstacle 13 = .ok (.iconst 0, 1) := by decide +kernel
theorem dX6_obstacle_14 : decode cX6_obstacle 14 = .ok (.iconst 1, 1) := by decide +kernel
theorem dX6_obstacle_15 : decode cX6_obstacle 15 = .ok (.invokestatic 54, 3) := by decide +kernel
theorem dX6_obstacle_18 : decode cX6_obstacle 18 = .ok (.ifCond .ne 6, 3) := by decide +kernel
theorem dX6_obstacle_21 : decode cX6_obstacle 21 = .ok (.bipush (-2), 2) := by decide +kernel
theorem dX6_obstacle_23 : decode cX6_obstacle 23 = .ok (.ireturn, 1) := by decide +kernel
theorem dX6_obstacle_24 : decode cX6_obstacle 24 = .ok (.aload_n 0, 1) := by decide +kernel
theorem dX6_obstacle_25 : decode cX6_obstacle 25 = .ok (.getfield 10, 3) := by decide +kernel
theorem dX6_obstacle_28 : decode cX6_obstacle 28 = .ok (.iload_n 1, 1) := by decide +kernel
theorem dX6_obstacle_29 : decode cX6_obstacle 29 = .ok (.iload_n 2, 1) := by decide +kernel
theorem dX6_obstacle_30 : decode cX6_obstacle 30 = .ok (.invokevirtual 138, 3) := by decide +kernel
theorem dX6_obstacle_33 : decode cX6_obstacle 33 = .ok (.istore 4, 2) := by decide +kernel
theorem dX6_obstacle_35 : decode cX6_obstacle 35 = .ok (.iload 4, 2) := by decide +kernel
theorem dX6_obstacle_37 : decode cX6_obstacle 37 = .ok (.iconst (-1), 1) := by decide +kernel
theorem dX6_obstacle_38 : decode cX6_obstacle 38 = .ok (.if_icmp .eq 7, 3) := by decide +kernel
theorem dX6_obstacle_41 : decode cX6_obstacle 41 = .ok (.iload_n 3, 1) := by decide +kernel
theorem dX6_obstacle_42 : decode cX6_obstacle 42 = .ok (.ifCond .ne 6, 3) := by decide +kernel
theorem dX6_obstacle_45 : decode cX6_obstacle 45 = .ok (.iload 4, 2) := by decide +kernel
theorem dX6_obstacle_47 : decode cX6_obstacle 47 = .ok (.ireturn, 1) := by decide +kernel
theorem dX6_obstacle_48 : decode cX6_obstacle 48 = .ok (.aload_n 0, 1) := by decide +kernel
theorem dX6_obstacle_49 : decode cX6_obstacle 49 = .ok (.getfield 10, 3) := by decide +kernel
theorem dX6_obstacle_52 : decode cX6_obstacle 52 = .ok (.iload_n 1, 1) := by decide +kernel
theorem dX6_obstacle_53 : decode cX6_obstacle 53 = .ok (.aload_n 0, 1) := by decide +kernel
theorem dX6_obstacle_54 : decode cX6_obstacle 54 = .ok (.getfield 10, 3) := by decide +kernel
theorem dX6_obstacle_57 : decode cX6_obstacle 57 = .ok (.iload_n 1, 1) := by decide +kernel
theorem dX6_obstacle_58 : decode cX6_obstacle 58 = .ok (.invokevirtual 118, 3) := by decide +kernel
theorem dX6_obstacle_61 : decode cX6_obstacle 61 = .ok (.iload_n 2, 1) := by decide +kernel
theorem dX6_obstacle_62 : decode cX6_obstacle 62 = .ok (.aload_n 0, 1) := by decide +kernel
theorem dX6_obstacle_63 : decode cX6_obstacle 63 = .ok (.getfield 10, 3) := by decide +kernel
theorem dX6_obstacle_66 : decode cX6_obstacle 66 = .ok (.iload_n 2, 1) := by decide +kernel
theorem dX6_obstacle_67 : decode cX6_obstacle 67 = .ok (.invokevirtual 118, 3) := by decide +kernel
theorem dX6_obstacle_70 : decode cX6_obstacle 70 = .ok (.iload 4, 2) := by decide +kernel
theorem dX6_obstacle_72 : decode cX6_obstacle 72 = .ok (.invokevirtual 141, 3) := by decide +kernel
theorem dX6_obstacle_75 : decode cX6_obstacle 75 = .ok (.ireturn, 1) := by decide +kernel
set_option maxRecDepth 20000 in
theorem ggX6_shadow_X3_has : GoodIn wsX6_shadow wsX3_has := goodIn_r _ [6, 7, 59, 60, 61, 62, 63] (by decide +kernel) (by decide +kernel)
set_option maxRecDepth 20000 in
theorem gX6_shadow_X3_has : GoodIn wsX6_shadow (wsV RX6 69 RX3 yX3_has wsX3_has) := goodIn_app (goodIn_of _ (by decide +kernel)) ggX6_shadow_X3_has
set_option maxRecDepth 20000 in
theorem ggX6_shadow_X6_within : GoodIn wsX6_shadow wsX6_within := goodIn_r _ [11] (by decide +kernel) (by decide +kernel)
set_option maxRecDepth 20000 in
theorem gX6_shadow_X6_within : GoodIn wsX6_shadow (va_wsS RX6 54 yX6_within wsX6_within) := goodIn_app (goodIn_of _ (by decide +kernel)) ggX6_shadow_X6_within
set_option maxRecDepth 20000 in
theorem ggX6_shadow_X3_all : GoodIn wsX6_shadow wsX3_all := goodIn_r _ [15, 7, 59, 60, 61, 62, 63] (by decide +kernel) (by decide +kernel)
set_option maxRecDepth 20000 in
theorem gX6_shadow_X3_all : GoodIn wsX6_shadow (wsV RX6 152 RX3 yX3_all wsX3_all) := goodIn_app (goodIn_of _ (by decide +kernel)) ggX6_shadow_X3_all
set_option maxRecDepth 20000 in
theorem ggX6_shadow_X3_topOf : GoodIn wsX6_shadow wsX3_topOf := goodIn_r _ [19, 20, 21, 22, 3, 4, 5, 6, 7, 59, 60, 61, 62, 63] (by decide +kernel) (by decide +kernel)
set_option maxRecDepth 20000 in
theorem gX6_shadow_X3_topOf : GoodIn wsX6_shadow (wsV RX6 118 RX3 yX3_topOf wsX3_topOf) := goodIn_app (goodIn_of _ (by decide +kernel)) ggX6_shadow_X3_topOf
set_option maxRecDepth 20000 in
theorem ggX6_shadow_X3_groundsSeen : GoodIn wsX6_shadow wsX3_groundsSeen := goodIn_r _ [26, 7, 20, 27, 28, 29, 5, 30, 31, 32, 33, 34, 35, 36, 37, 38, 39, 40, 41, 42, 43, 44, 45, 22, 3, 4, 6, 59, 60, 61, 62, 63] (by decide +kernel) (by decide +kernel)
set_option maxRecDepth 20000 in
theorem gX6_shadow_X3_groundsSeen : GoodIn wsX6_shadow (wsV RX6 125 RX3 yX3_groundsSeen wsX3_groundsSeen) := goodIn_app (goodIn_of _ (by decide +kernel)) ggX6_shadow_X3_groundsSeen
set_option maxRecDepth 20000 in
theorem ggX6_shadow_X6_nthOf : GoodIn wsX6_shadow wsX6_nthOf := goodIn_r _ [48, 49, 50, 10, 51] (by decide +kernel) (by decide +kernel)
set_option maxRecDepth 20000 in
theorem gX6_shadow_X6_nthOf : GoodIn wsX6_shadow (va_wsS RX6 156 yX6_nthOf wsX6_nthOf) := goodIn_app (goodIn_of _ (by decide +kernel)) ggX6_shadow_X6_nthOf
theorem dX6_shadow_0 : decode cX6_shadow 0 = .ok (.aload_n 0, 1) := by decide +kernel
theorem dX6_shadow_1 : decode cX6_shadow 1 = .ok (.getfield 10, 3) := by decide +kernel
theorem dX6_shadow_4 : decode cX6_shadow 4 = .ok (.iload_n 1, 1) := by decide +kernel
theorem dX6_shadow_5 : decode cX6_shadow 5 = .ok (.invokevirtual 69, 3) := by decide +kernel
theorem dX6_shadow_8 : decode cX6_shadow 8 = .ok (.ifCond .eq 16, 3) := by decide +kernel
theorem dX6_shadow_11 : decode cX6_shadow 11 = .ok (.iload_n 2, 1) := by decide +kernel
theorem dX6_shadow_12 : decode cX6_shadow 12 = .ok (.ifCond .lt 12, 3) := by decide +kernel
theorem dX6_shadow_15 : decode cX6_shadow 15 = .ok (.iload_n 3, 1) := by decide +kernel
theorem dX6_shadow_16 : decode cX6_shadow 16 = .ok (.iconst 0, 1) := by decide +kernel
theorem dX6_shadow_17 : decode cX6_shadow 17 = .ok (.iconst 1, 1) := by decide +kernel
theorem dX6_shadow_18 : decode cX6_shadow 18 = .ok (.invokestatic 54, 3) := by decide +kernel
theorem dX6_shadow_21 : decode cX6_shadow 21 = .ok (.ifCond .ne 6, 3) := by decide +kernel
theorem dX6_shadow_24 : decode cX6_shadow 24 = .ok (.bipush (-2), 2) := by decide +kernel
theorem dX6_shadow_26 : decode cX6_shadow 26 = .ok (.ireturn, 1) := by decide +kernel
theorem dX6_shadow_27 : decode cX6_shadow 27 = .ok (.aload_n 0, 1) := by decide +kernel
theorem dX6_shadow_28 : decode cX6_shadow 28 = .ok (.getfield 10, 3) := by decide +kernel
theorem dX6_shadow_31 : decode cX6_shadow 31 = .ok (.invokevirtual 152, 3) := by decide +kernel
theorem dX6_shadow_34 : decode cX6_shadow 34 = .ok (.aload_n 0, 1) := by decide +kernel
theorem dX6_shadow_35 : decode cX6_shadow 35 = .ok (.getfield 10, 3) := by decide +kernel
theorem dX6_shadow_38 : decode cX6_shadow 38 = .ok (.iload_n 1, 1) := by decide +kernel
theorem dX6_shadow_39 : decode cX6_shadow 39 = .ok (.aload_n 0, 1) := by decide +kernel
theorem dX6_shadow_40 : decode cX6_shadow 40 = .ok (.getfield 10, 3) := by decide +kernel
theorem dX6_shadow_43 : decode cX6_shadow 43 = .ok (.iload_n 1, 1) := by decide +kernel
theorem dX6_shadow_44 : decode cX6_shadow 44 = .ok (.invokevirtual 118, 3) := by decide +kernel
theorem dX6_shadow_47 : decode cX6_shadow 47 = .ok (.invokevirtual 125, 3) := by decide +kernel
theorem dX6_shadow_50 : decode cX6_shadow 50 = .ok (.iconst (-1), 1) := by decide +kernel
theorem dX6_shadow_51 : decode cX6_shadow 51 = .ok (.ixor, 1) := by decide +kernel
theorem dX6_shadow_52 : decode cX6_shadow 52 = .ok (.iand, 1) := by decide +kernel
theorem dX6_shadow_53 : decode cX6_shadow 53 = .ok (.istore 4, 2) := by decide +kernel
theorem dX6_shadow_55 : decode cX6_shadow 55 = .ok (.iload_n 3, 1) := by decide +kernel
theorem dX6_shadow_56 : decode cX6_shadow 56 = .ok (.ifCond .ne 15, 3) := by decide +kernel
theorem dX6_shadow_59 : decode cX6_shadow 59 = .ok (.iload 4, 2) := by decide +kernel
theorem dX6_shadow_61 : decode cX6_shadow 61 = .ok (.iload 4, 2) := by decide +kernel
theorem dX6_shadow_63 : decode cX6_shadow 63 = .ok (.iconst 1, 1) := by decide +kernel
theorem dX6_shadow_64 : decode cX6_shadow 64 = .ok (.ishl, 1) := by decide +kernel
theorem dX6_shadow_65 : decode cX6_shadow 65 = .ok (.iconst (-1), 1) := by decide +kernel
theorem dX6_shadow_66 : decode cX6_shadow 66 = .ok (.ixor, 1) := by decide +kernel
theorem dX6_shadow_67 : decode cX6_shadow 67 = .ok (.iand, 1) := by decide +kernel
theorem dX6_shadow_68 : decode cX6_shadow 68 = .ok (.goto 12, 3) := by decide +kernel
theorem dX6_shadow_71 : decode cX6_shadow 71 = .ok (.iload 4, 2) := by decide +kernel
theorem dX6_shadow_73 : decode cX6_shadow 73 = .ok (.iload 4, 2) := by decide +kernel
theorem dX6_shadow_75 : decode cX6_shadow 75 = .ok (.iconst 1, 1) := by decide +kernel
theorem dX6_shadow_76 : decode cX6_shadow 76 = .ok (.ishr, 1) := by decide +kernel
theorem dX6_shadow_77 : decode cX6_shadow 77 = .ok (.iconst (-1), 1) := by decide +kernel
theorem dX6_shadow_78 : decode cX6_shadow 78 = .ok (.ixor, 1) := by decide +kernel
theorem dX6_shadow_79 : decode cX6_shadow 79 = .ok (.iand, 1) := by decide +kernel
theorem dX6_shadow_80 : decode cX6_shadow 80 = .ok (.istore 5, 2) := by decide +kernel
theorem dX6_shadow_82 : decode cX6_shadow 82 = .ok (.iload 5, 2) := by decide +kernel
theorem dX6_shadow_84 : decode cX6_shadow 84 = .ok (.iload_n 2, 1) := by decide +kernel
theorem dX6_shadow_85 : decode cX6_shadow 85 = .ok (.invokestatic 156, 3) := by decide +kernel
theorem dX6_shadow_88 : decode cX6_shadow 88 = .ok (.ireturn, 1) := by decide +kernel
set_option maxRecDepth 20000 in
theorem ggX6_farthest_X3_inContact : GoodIn wsX6_farthest wsX3_inContact := goodIn_r _ [7, 8, 9, 10, 11, 12, 13, 14, 15, 6, 16, 17, 18, 19, 20, 21, 22, 23, 24, 25, 26, 27, 28, 29, 30, 31, 32, 33, 34, 35, 36, 37, 38, 46, 47, 48, 49, 50] (by decide +kernel) (by decide +kernel)
set_option maxRecDepth 20000 in
theorem gX6_farthest_X3_inContact : GoodIn wsX6_farthest (wsV RX6 159 RX3 yX3_inContact wsX3_inContact) := goodIn_app (goodIn_of _ (by decide +kernel)) ggX6_farthest_X3_inContact
theorem dX6_farthest_0 : decode cX6_farthest 0 = .ok (.iconst 0, 1) := by decide +kernel
theorem dX6_farthest_1 : decode cX6_farthest 1 = .ok (.istore_n 1, 1) := by decide +kernel
theorem dX6_farthest_2 : decode cX6_farthest 2 = .ok (.iconst 1, 1) := by decide +kernel
theorem dX6_farthest_3 : decode cX6_farthest 3 = .ok (.istore_n 2, 1) := by decide +kernel
theorem dX6_farthest_4 : decode cX6_farthest 4 = .ok (.iconst 0, 1) := by decide +kernel
theorem dX6_farthest_5 : decode cX6_farthest 5 = .ok (.istore_n 3, 1) := by decide +kernel
theorem dX6_farthest_6 : decode cX6_farthest 6 = .ok (.iload_n 3, 1) := by decide +kernel
theorem dX6_farthest_7 : decode cX6_farthest 7 = .ok (.aload_n 0, 1) := by decide +kernel
theorem dX6_farthest_8 : decode cX6_farthest 8 = .ok (.getfield 10, 3) := by decide +kernel
theorem dX6_farthest_11 : decode cX6_farthest 11 = .ok (.getfield 115, 3) := by decide +kernel
theorem dX6_farthest_14 : decode cX6_farthest 14 = .ok (.if_icmp .ge 60, 3) := by decide +kernel
theorem dX6_farthest_17 : decode cX6_farthest 17 = .ok (.iload_n 3, 1) := by decide +kernel
theorem dX6_farthest_18 : decode cX6_farthest 18 = .ok (.iconst 1, 1) := by decide +kernel
theorem dX6_farthest_19 : decode cX6_farthest 19 = .ok (.iadd, 1) := by decide +kernel
theorem dX6_farthest_20 : decode cX6_farthest 20 = .ok (.istore 4, 2) := by decide +kernel
theorem dX6_farthest_22 : decode cX6_farthest 22 = .ok (.iload 4, 2) := by decide +kernel
theorem dX6_farthest_24 : decode cX6_farthest 24 = .ok (.aload_n 0, 1) := by decide +kernel
theorem dX6_farthest_25 : decode cX6_farthest 25 = .ok (.getfield 10, 3) := by decide +kernel
theorem dX6_farthest_28 : decode cX6_farthest 28 = .ok (.getfield 115, 3) := by decide +kernel
theorem dX6_farthest_31 : decode cX6_farthest 31 = .ok (.if_icmp .ge 37, 3) := by decide +kernel
theorem dX6_farthest_34 : decode cX6_farthest 34 = .ok (.iload 4, 2) := by decide +kernel
theorem dX6_farthest_36 : decode cX6_farthest 36 = .ok (.iload_n 3, 1) := by decide +kernel
theorem dX6_farthest_37 : decode cX6_farthest 37 = .ok (.isub, 1) := by decide +kernel
theorem dX6_farthest_38 : decode cX6_farthest 38 = .ok (.iload_n 2, 1) := by decide +kernel
theorem dX6_farthest_39 : decode cX6_farthest 39 = .ok (.iload_n 1, 1) := by decide +kernel
theorem dX6_farthest_40 : decode cX6_farthest 40 = .ok (.isub, 1) := by decide +kernel
theorem dX6_farthest_41 : decode cX6_farthest 41 = .ok (.if_icmp .le 21, 3) := by decide +kernel
theorem dX6_farthest_44 : decode cX6_farthest 44 = .ok (.aload_n 0, 1) := by decide +kernel
theorem dX6_farthest_45 : decode cX6_farthest 45 = .ok (.getfield 10, 3) := by decide +kernel
theorem dX6_farthest_48 : decode cX6_farthest 48 = .ok (.iload_n 3, 1) := by decide +kernel
theorem dX6_farthest_49 : decode cX6_farthest 49 = .ok (.iload 4, 2) := by decide +kernel
theorem dX6_farthest_51 : decode cX6_farthest 51 = .ok (.invokevirtual 159, 3) := by decide +kernel
theorem dX6_farthest_54 : decode cX6_farthest 54 = .ok (.ifCond .eq 8, 3) := by decide +kernel
theorem dX6_farthest_57 : decode cX6_farthest 57 = .ok (.iload_n 3, 1) := by decide +kernel
theorem dX6_farthest_58 : decode cX6_farthest 58 = .ok (.istore_n 1, 1) := by decide +kernel
theorem dX6_farthest_59 : decode cX6_farthest 59 = .ok (.iload 4, 2) := by decide +kernel
theorem dX6_farthest_61 : decode cX6_farthest 61 = .ok (.istore_n 2, 1) := by decide +kernel
theorem dX6_farthest_62 : decode cX6_farthest 62 = .ok (.iinc 4 1, 3) := by decide +kernel
theorem dX6_farthest_65 : decode cX6_farthest 65 = .ok (.goto (-43), 3) := by decide +kernel
theorem dX6_farthest_68 : decode cX6_farthest 68 = .ok (.iinc 3 1, 3) := by decide +kernel
theorem dX6_farthest_71 : decode cX6_farthest 71 = .ok (.goto (-65), 3) := by decide +kernel
theorem dX6_farthest_74 : decode cX6_farthest 74 = .ok (.bipush 100, 2) := by decide +kernel
theorem dX6_farthest_76 : decode cX6_farthest 76 = .ok (.iload_n 1, 1) := by decide +kernel
theorem dX6_farthest_77 : decode cX6_farthest 77 = .ok (.imul, 1) := by decide +kernel
theorem dX6_farthest_78 : decode cX6_farthest 78 = .ok (.iload_n 2, 1) := by decide +kernel
theorem dX6_farthest_79 : decode cX6_farthest 79 = .ok (.iadd, 1) := by decide +kernel
theorem dX6_farthest_80 : decode cX6_farthest 80 = .ok (.ireturn, 1) := by decide +kernel
set_option maxRecDepth 20000 in
theorem ggX6_groups_X4_survey : GoodIn wsX6_groups wsX4_survey := goodIn_r _ [7, 8, 9, 10, 11, 12, 13, 14, 15, 16, 17, 18, 19, 20, 21, 22, 23, 24, 25, 26, 27, 28, 29, 6, 30, 31, 32, 33, 34, 35, 36, 37, 38, 39, 40, 41, 42, 43, 44, 45, 46, 47, 48, 49, 50, 51, 70, 71, 72, 73, 74, 75, 76, 77, 78, 79, 80] (by decide +kernel) (by decide +kernel)
set_option maxRecDepth 20000 in
theorem gX6_groups_X4_survey : GoodIn wsX6_groups (wsV RX6 162 RX4 yX4_survey wsX4_survey) := goodIn_app (goodIn_of _ (by decide +kernel)) ggX6_groups_X4_survey
set_option maxRecDepth 20000 in
theorem ggX6_groups_X4_countGroups : GoodIn wsX6_groups wsX4_countGroups := goodIn_r _ [55, 9, 56, 57, 58, 59, 60, 61, 6, 62, 14, 75, 76, 77, 78, 79, 80] (by decide +kernel) (by decide +kernel)
set_option maxRecDepth 20000 in
theorem gX6_groups_X4_countGroups : GoodIn wsX6_groups (wsV RX6 190 RX4 yX4_countGroups wsX4_countGroups) := goodIn_app (goodIn_of _ (by decide +kernel)) ggX6_groups_X4_countGroups
theorem dX6_groups_0 : decode cX6_groups 0 = .ok (.aload_n 0, 1) := by decide +kernel
theorem dX6_groups_1 : decode cX6_groups 1 = .ok (.getfield 43, 3) := by decide +kernel
theorem dX6_groups_4 : decode cX6_groups 4 = .ok (.aload_n 0, 1) := by decide +kernel
theorem dX6_groups_5 : decode cX6_groups 5 = .ok (.getfield 10, 3) := by decide +kernel
theorem dX6_groups_8 : decode cX6_groups 8 = .ok (.iconst 0, 1) := by decide +kernel
theorem dX6_groups_9 : decode cX6_groups 9 = .ok (.invokevirtual 162, 3) := by decide +kernel
theorem dX6_groups_12 : decode cX6_groups 12 = .ok (.aload_n 0, 1) := by decide +kernel
theorem dX6_groups_13 : decode cX6_groups 13 = .ok (.getfield 43, 3) := by decide +kernel
theorem dX6_groups_16 : decode cX6_groups 16 = .ok (.invokevirtual 190, 3) := by decide +kernel
theorem dX6_groups_19 : decode cX6_groups 19 = .ok (.ireturn, 1) := by decide +kernel
set_option maxRecDepth 20000 in
theorem ggX6_count_X3_countMasts : GoodIn wsX6_count wsX3_countMasts := goodIn_r _ [13, 14, 15, 63, 64, 65, 66, 67] (by decide +kernel) (by decide +kernel)
set_option maxRecDepth 20000 in
theorem gX6_count_X3_countMasts : GoodIn wsX6_count (wsV RX6 205 RX3 yX3_countMasts wsX3_countMasts) := goodIn_app (goodIn_of _ (by decide +kernel)) ggX6_count_X3_countMasts
set_option maxRecDepth 20000 in
theorem ggX6_count_X3_pairsWithin : GoodIn wsX6_count wsX3_pairsWithin := goodIn_r _ [19, 14, 20, 21, 22, 12, 23, 24, 25, 26, 27, 28, 15, 29, 30, 31, 32, 33, 34, 35, 36, 37, 38, 39, 40, 41, 42, 43, 44, 45, 46, 47, 48, 49, 50, 51, 63, 64, 65, 66, 67] (by decide +kernel) (by decide +kernel)
set_option maxRecDepth 20000 in
theorem gX6_count_X3_pairsWithin : GoodIn wsX6_count (wsV RX6 208 RX3 yX3_pairsWithin wsX3_pairsWithin) := goodIn_app (goodIn_of _ (by decide +kernel)) ggX6_count_X3_pairsWithin
set_option maxRecDepth 20000 in
theorem ggX6_count_X3_sumOfMasts : GoodIn wsX6_count wsX3_sumOfMasts := goodIn_r _ [55, 14, 15, 63, 64, 65, 66, 67] (by decide +kernel) (by decide +kernel)
set_option maxRecDepth 20000 in
theorem gX6_count_X3_sumOfMasts : GoodIn wsX6_count (wsV RX6 211 RX3 yX3_sumOfMasts wsX3_sumOfMasts) := goodIn_app (goodIn_of _ (by decide +kernel)) ggX6_count_X3_sumOfMasts
theorem dX6_count_0 : decode cX6_count 0 = .ok (.iload_n 1, 1) := by decide +kernel
theorem dX6_count_1 : decode cX6_count 1 = .ok (.tableswitch 132 0 8 #[51, 59, 67, 75, 83, 93, 108, 116, 124], 51) := by decide +kernel
theorem dX6_count_52 : decode cX6_count 52 = .ok (.aload_n 0, 1) := by decide +kernel
theorem dX6_count_53 : decode cX6_count 53 = .ok (.getfield 10, 3) := by decide +kernel
theorem dX6_count_56 : decode cX6_count 56 = .ok (.getfield 115, 3) := by decide +kernel
theorem dX6_count_59 : decode cX6_count 59 = .ok (.ireturn, 1) := by decide +kernel
theorem dX6_count_60 : decode cX6_count 60 = .ok (.aload_n 0, 1) := by decide +kernel
theorem dX6_count_61 : decode cX6_count 61 = .ok (.getfield 10, 3) := by decide +kernel
theorem dX6_count_64 : decode cX6_count 64 = .ok (.invokevirtual 205, 3) := by decide +kernel
theorem dX6_count_67 : decode cX6_count 67 = .ok (.ireturn, 1) := by decide +kernel
theorem dX6_count_68 : decode cX6_count 68 = .ok (.aload_n 0, 1) := by decide +kernel
theorem dX6_count_69 : decode cX6_count 69 = .ok (.getfield 10, 3) := by decide +kernel
theorem dX6_count_72 : decode cX6_count 72 = .ok (.getfield 91, 3) := by decide +kernel
theorem dX6_count_75 : decode cX6_count 75 = .ok (.ireturn, 1) := by decide +kernel
theorem dX6_count_76 : decode cX6_count 76 = .ok (.aload_n 0, 1) := by decide +kernel
theorem dX6_count_77 : decode cX6_count 77 = .ok (.getfield 10, 3) := by decide +kernel
theorem dX6_count_80 : decode cX6_count 80 = .ok (.getfield 95, 3) := by decide +kernel
theorem dX6_count_83 : decode cX6_count 83 = .ok (.ireturn, 1) := by decide +kernel
theorem dX6_count_84 : decode cX6_count 84 = .ok (.aload_n 0, 1) := by decide +kernel
theorem dX6_count_85 : decode cX6_count 85 = .ok (.getfield 10, 3) := by decide +kernel
theorem dX6_count_88 : decode cX6_count 88 = .ok (.bipush 19, 2) := by decide +kernel
theorem dX6_count_90 : decode cX6_count 90 = .ok (.invokevirtual 208, 3) := by decide +kernel
theorem dX6_count_93 : decode cX6_count 93 = .ok (.ireturn, 1) := by decide +kernel
theorem dX6_count_94 : decode cX6_count 94 = .ok (.aload_n 0, 1) := by decide +kernel
theorem dX6_count_95 : decode cX6_count 95 = .ok (.getfield 10, 3) := by decide +kernel
theorem dX6_count_98 : decode cX6_count 98 = .ok (.aload_n 0, 1) := by decide +kernel
theorem dX6_count_99 : decode cX6_count 99 = .ok (.getfield 10, 3) := by decide +kernel
theorem dX6_count_102 : decode cX6_count 102 = .ok (.getfield 91, 3) := by decide +kernel
theorem dX6_count_105 : decode cX6_count 105 = .ok (.invokevirtual 208, 3) := by decide +kernel
theorem dX6_count_108 : decode cX6_count 108 = .ok (.ireturn, 1) := by decide +kernel
theorem dX6_count_109 : decode cX6_count 109 = .ok (.aload_n 0, 1) := by decide +kernel
theorem dX6_count_110 : decode cX6_count 110 = .ok (.getfield 22, 3) := by decide +kernel
theorem dX6_count_113 : decode cX6_count 113 = .ok (.getfield 98, 3) := by decide +kernel
theorem dX6_count_116 : decode cX6_count 116 = .ok (.ireturn, 1) := by decide +kernel
theorem dX6_count_117 : decode cX6_count 117 = .ok (.aload_n 0, 1) := by decide +kernel
theorem dX6_count_118 : decode cX6_count 118 = .ok (.getfield 29, 3) := by decide +kernel
theorem dX6_count_121 : decode cX6_count 121 = .ok (.getfield 106, 3) := by decide +kernel
theorem dX6_count_124 : decode cX6_count 124 = .ok (.ireturn, 1) := by decide +kernel
theorem dX6_count_125 : decode cX6_count 125 = .ok (.aload_n 0, 1) := by decide +kernel
theorem dX6_count_126 : decode cX6_count 126 = .ok (.getfield 10, 3) := by decide +kernel
theorem dX6_count_129 : decode cX6_count 129 = .ok (.invokevirtual 211, 3) := by decide +kernel
theorem dX6_count_132 : decode cX6_count 132 = .ok (.ireturn, 1) := by decide +kernel
theorem dX6_count_133 : decode cX6_count 133 = .ok (.bipush (-2), 2) := by decide +kernel
theorem dX6_count_135 : decode cX6_count 135 = .ok (.ireturn, 1) := by decide +kernel
theorem dX6_within_0 : decode cX6_within 0 = .ok (.iload_n 0, 1) := by decide +kernel
theorem dX6_within_1 : decode cX6_within 1 = .ok (.iload_n 1, 1) := by decide +kernel
theorem dX6_within_2 : decode cX6_within 2 = .ok (.if_icmp .lt 12, 3) := by decide +kernel
theorem dX6_within_5 : decode cX6_within 5 = .ok (.iload_n 0, 1) := by decide +kernel
theorem dX6_within_6 : decode cX6_within 6 = .ok (.iload_n 2, 1) := by decide +kernel
theorem dX6_within_7 : decode cX6_within 7 = .ok (.if_icmp .gt 7, 3) := by decide +kernel
theorem dX6_within_10 : decode cX6_within 10 = .ok (.iconst 1, 1) := by decide +kernel
theorem dX6_within_11 : decode cX6_within 11 = .ok (.goto 4, 3) := by decide +kernel
theorem dX6_within_14 : decode cX6_within 14 = .ok (.iconst 0, 1) := by decide +kernel
theorem dX6_within_15 : decode cX6_within 15 = .ok (.ireturn, 1) := by decide +kernel
theorem dX6_holds_0 : decode cX6_holds 0 = .ok (.iload_n 0, 1) := by decide +kernel
theorem dX6_holds_1 : decode cX6_holds 1 = .ok (.iload_n 1, 1) := by decide +kernel
theorem dX6_holds_2 : decode cX6_holds 2 = .ok (.ishr, 1) := by decide +kernel
theorem dX6_holds_3 : decode cX6_holds 3 = .ok (.iconst 1, 1) := by decide +kernel
theorem dX6_holds_4 : decode cX6_holds 4 = .ok (.iand, 1) := by decide +kernel
theorem dX6_holds_5 : decode cX6_holds 5 = .ok (.iconst 1, 1) := by decide +kernel
theorem dX6_holds_6 : decode cX6_holds 6 = .ok (.if_icmp .ne 7, 3) := by decide +kernel
theorem dX6_holds_9 : decode cX6_holds 9 = .ok (.iconst 1, 1) := by decide +kernel
theorem dX6_holds_10 : decode cX6_holds 10 = .ok (.goto 4, 3) := by decide +kernel
theorem dX6_holds_13 : decode cX6_holds 13 = .ok (.iconst 0, 1) := by decide +kernel
theorem dX6_holds_14 : decode cX6_holds 14 = .ok (.ireturn, 1) := by decide +kernel
set_option maxRecDepth 20000 in
theorem ggX6_nthOf_X6_holds : GoodIn wsX6_nthOf wsX6_holds := goodIn_r _ [4] (by decide +kernel) (by decide +kernel)
set_option maxRecDepth 20000 in
theorem gX6_nthOf_X6_holds : GoodIn wsX6_nthOf (va_wsS RX6 197 yX6_holds wsX6_holds) := goodIn_app (goodIn_of _ (by decide +kernel)) ggX6_nthOf_X6_holds
theorem dX6_nthOf_0 : decode cX6_nthOf 0 = .ok (.iconst 0, 1) := by decide +kernel
theorem dX6_nthOf_1 : decode cX6_nthOf 1 = .ok (.istore_n 2, 1) := by decide +kernel
theorem dX6_nthOf_2 : decode cX6_nthOf 2 = .ok (.iconst 0, 1) := by decide +kernel
theorem dX6_nthOf_3 : decode cX6_nthOf 3 = .ok (.istore_n 3, 1) := by decide +kernel
theorem dX6_nthOf_4 : decode cX6_nthOf 4 = .ok (.iload_n 3, 1) := by decide +kernel
theorem dX6_nthOf_5 : decode cX6_nthOf 5 = .ok (.bipush 20, 2) := by decide +kernel
theorem dX6_nthOf_7 : decode cX6_nthOf 7 = .ok (.if_icmp .ge 27, 3) := by decide +kernel
theorem dX6_nthOf_10 : decode cX6_nthOf 10 = .ok (.iload_n 0, 1) := by decide +kernel
theorem dX6_nthOf_11 : decode cX6_nthOf 11 = .ok (.iload_n 3, 1) := by decide +kernel
theorem dX6_nthOf_12 : decode cX6_nthOf 12 = .ok (.invokestatic 197, 3) := by decide +kernel
theorem dX6_nthOf_15 : decode cX6_nthOf 15 = .ok (.ifCond .eq 13, 3) := by decide +kernel
theorem dX6_nthOf_18 : decode cX6_nthOf 18 = .ok (.iload_n 2, 1) := by decide +kernel
theorem dX6_nthOf_19 : decode cX6_nthOf 19 = .ok (.iload_n 1, 1) := by decide +kernel
theorem dX6_nthOf_20 : decode cX6_nthOf 20 = .ok (.if_icmp .ne 5, 3) := by decide +kernel
theorem dX6_nthOf_23 : decode cX6_nthOf 23 = .ok (.iload_n 3, 1) := by decide +kernel
theorem dX6_nthOf_24 : decode cX6_nthOf 24 = .ok (.ireturn, 1) := by decide +kernel
theorem dX6_nthOf_25 : decode cX6_nthOf 25 = .ok (.iinc 2 1, 3) := by decide +kernel
theorem dX6_nthOf_28 : decode cX6_nthOf 28 = .ok (.iinc 3 1, 3) := by decide +kernel
theorem dX6_nthOf_31 : decode cX6_nthOf 31 = .ok (.goto (-27), 3) := by decide +kernel
theorem dX6_nthOf_34 : decode cX6_nthOf 34 = .ok (.iconst (-1), 1) := by decide +kernel
theorem dX6_nthOf_35 : decode cX6_nthOf 35 = .ok (.ireturn, 1) := by decide +kernel
theorem dJ9_abs_0f7a4_0 : decode cJ9_abs_0f7a4 0 = .ok (.iload_n 0, 1) := by decide +kernel
theorem dJ9_abs_0f7a4_1 : decode cJ9_abs_0f7a4 1 = .ok (.ifCond .ge 8, 3) := by decide +kernel
theorem dJ9_abs_0f7a4_4 : decode cJ9_abs_0f7a4 4 = .ok (.iload_n 0, 1) := by decide +kernel
theorem dJ9_abs_0f7a4_5 : decode cJ9_abs_0f7a4 5 = .ok (.ineg, 1) := by decide +kernel
theorem dJ9_abs_0f7a4_6 : decode cJ9_abs_0f7a4 6 = .ok (.goto 4, 3) := by decide +kernel
theorem dJ9_abs_0f7a4_9 : decode cJ9_abs_0f7a4 9 = .ok (.iload_n 0, 1) := by decide +kernel
theorem dJ9_abs_0f7a4_10 : decode cJ9_abs_0f7a4 10 = .ok (.ireturn, 1) := by decide +kernel
theorem dJ9_max_7cf53_0 : decode cJ9_max_7cf53 0 = .ok (.iload_n 0, 1) := by decide +kernel
theorem dJ9_max_7cf53_1 : decode cJ9_max_7cf53 1 = .ok (.iload_n 1, 1) := by decide +kernel
theorem dJ9_max_7cf53_2 : decode cJ9_max_7cf53 2 = .ok (.if_icmp .lt 7, 3) := by decide +kernel
theorem dJ9_max_7cf53_5 : decode cJ9_max_7cf53 5 = .ok (.iload_n 0, 1) := by decide +kernel
theorem dJ9_max_7cf53_6 : decode cJ9_max_7cf53 6 = .ok (.goto 4, 3) := by decide +kernel
theorem dJ9_max_7cf53_9 : decode cJ9_max_7cf53 9 = .ok (.iload_n 1, 1) := by decide +kernel
theorem dJ9_max_7cf53_10 : decode cJ9_max_7cf53 10 = .ok (.ireturn, 1) := by decide +kernel
theorem dJ9_min_7cf53_0 : decode cJ9_min_7cf53 0 = .ok (.iload_n 0, 1) := by decide +kernel
theorem dJ9_min_7cf53_1 : decode cJ9_min_7cf53 1 = .ok (.iload_n 1, 1) := by decide +kernel
theorem dJ9_min_7cf53_2 : decode cJ9_min_7cf53 2 = .ok (.if_icmp .gt 7, 3) := by decide +kernel
theorem dJ9_min_7cf53_5 : decode cJ9_min_7cf53 5 = .ok (.iload_n 0, 1) := by decide +kernel
theorem dJ9_min_7cf53_6 : decode cJ9_min_7cf53 6 = .ok (.goto 4, 3) := by decide +kernel
theorem dJ9_min_7cf53_9 : decode cJ9_min_7cf53 9 = .ok (.iload_n 1, 1) := by decide +kernel
theorem dJ9_min_7cf53_10 : decode cJ9_min_7cf53 10 = .ok (.ireturn, 1) := by decide +kernel
