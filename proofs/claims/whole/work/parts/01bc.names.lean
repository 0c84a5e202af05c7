theorem dX6_undo_28 : decode cX6_undo 28 = .ok (.getfield 98, 3) := by decide +kernel
theorem dX6_undo_31 : decode cX6_undo 31 = .ok (.ireturn, 1) := by decide +kernel
set_option maxRecDepth 20000 in
theorem ggX6_type_X6_within : GoodIn wsX6_type wsX6_within := goodIn_r _ [6] (by decide +kernel) (by decide +kernel)
set_option maxRecDepth 20000 in
theorem gX6_type_X6_within : GoodIn wsX6_type (va_wsS RX6 54 yX6_within wsX6_within) := goodIn_app (goodIn_of _ (by decide +kernel)) ggX6_type_X6_within
set_option maxRecDepth 20000 in
theorem ggX6_type_X5_append : GoodIn wsX6_type wsX5_append := goodIn_r _ [11, 12, 13, 21, 22, 23, 24] (by decide +kernel) (by decide +kernel)
set_option maxRecDepth 20000 in
theorem gX6_type_X5_append : GoodIn wsX6_type (wsV RX6 104 RX5 yX5_append wsX5_append) := goodIn_app (goodIn_of _ (by decide +kernel)) ggX6_type_X5_append
theorem dX6_type_0 : decode cX6_type 0 = .ok (.iload_n 1, 1) := by decide +kernel
theorem dX6_type_1 : decode cX6_type 1 = .ok (.iconst 0, 1) := by decide +kernel
theorem dX6_type_2 : decode cX6_type 2 = .ok (.bipush 127, 2) := by decide +kernel
theorem dX6_type_4 : decode cX6_type 4 = .ok (.invokestatic 54, 3) := by decide +kernel
theorem dX6_type_7 : decode cX6_type 7 = .ok (.ifCond .ne 6, 3) := by decide +kernel
theorem dX6_type_10 : decode cX6_type 10 = .ok (.bipush (-2), 2) := by decide +kernel
theorem dX6_type_12 : decode cX6_type 12 = .ok (.ireturn, 1) := by decide +kernel
theorem dX6_type_13 : decode cX6_type 13 = .ok (.aload_n 0, 1) := by decide +kernel
theorem dX6_type_14 : decode cX6_type 14 = .ok (.getfield 29, 3) := by decide +kernel
theorem dX6_type_17 : decode cX6_type 17 = .ok (.iload_n 1, 1) := by decide +kernel
theorem dX6_type_18 : decode cX6_type 18 = .ok (.invokevirtual 104, 3) := by decide +kernel
theorem dX6_type_21 : decode cX6_type 21 = .ok (.ifCond .eq 13, 3) := by decide +kernel
theorem dX6_type_24 : decode cX6_type 24 = .ok (.aload_n 0, 1) := by decide +kernel
theorem dX6_type_25 : decode cX6_type 25 = .ok (.getfield 29, 3) := by decide +kernel
theorem dX6_type_28 : decode cX6_type 28 = .ok (.getfield 106, 3) := by decide +kernel
theorem dX6_type_31 : decode cX6_type 31 = .ok (.goto 5, 3) := by decide +kernel
theorem dX6_type_34 : decode cX6_type 34 = .ok (.bipush (-4), 2) := by decide +kernel
theorem dX6_type_36 : decode cX6_type 36 = .ok (.ireturn, 1) := by decide +kernel
theorem dX6_clearText_0 : decode cX6_clearText 0 = .ok (.aload_n 0, 1) := by decide +kernel
theorem dX6_clearText_1 : decode cX6_clearText 1 = .ok (.getfield 29, 3) := by decide +kernel
theorem dX6_clearText_4 : decode cX6_clearText 4 = .ok (.getfield 106, 3) := by decide +kernel
theorem dX6_clearText_7 : decode cX6_clearText 7 = .ok (.istore_n 1, 1) := by decide +kernel
theorem dX6_clearText_8 : decode cX6_clearText 8 = .ok (.aload_n 0, 1) := by decide +kernel
theorem dX6_clearText_9 : decode cX6_clearText 9 = .ok (.getfield 29, 3) := by decide +kernel
theorem dX6_clearText_12 : decode cX6_clearText 12 = .ok (.iconst 0, 1) := by decide +kernel
theorem dX6_clearText_13 : decode cX6_clearText 13 = .ok (.putfield 106, 3) := by decide +kernel
theorem dX6_clearText_16 : decode cX6_clearText 16 = .ok (.iload_n 1, 1) := by decide +kernel
theorem dX6_clearText_17 : decode cX6_clearText 17 = .ok (.ireturn, 1) := by decide +kernel
set_option maxRecDepth 20000 in
theorem ggX6_fault_X5_read : GoodIn wsX6_fault wsX5_read := goodIn_r _ [7, 8, 9, 10, 11, 12, 13, 14, 15, 16, 17, 18, 19, 6, 20, 21, 22, 23, 24, 25, 26, 27, 28, 29, 30, 31, 32, 33, 34, 35, 36, 37, 38, 39, 40, 41, 42, 43, 44, 45, 46, 47, 55, 56, 57, 58, 59, 60, 61, 62, 63] (by decide +kernel) (by decide +kernel)
set_option maxRecDepth 20000 in
theorem gX6_fault_X5_read : GoodIn wsX6_fault (wsV RX6 109 RX5 yX5_read wsX5_read) := goodIn_app (goodIn_of _ (by decide +kernel)) ggX6_fault_X5_read
theorem dX6_fault_0 : decode cX6_fault 0 = .ok (.aload_n 0, 1) := by decide +kernel
theorem dX6_fault_1 : decode cX6_fault 1 = .ok (.getfield 29, 3) := by decide +kernel
theorem dX6_fault_4 : decode cX6_fault 4 = .ok (.aload_n 0, 1) := by decide +kernel
theorem dX6_fault_5 : decode cX6_fault 5 = .ok (.getfield 16, 3) := by decide +kernel
theorem dX6_fault_8 : decode cX6_fault 8 = .ok (.invokevirtual 109, 3) := by decide +kernel
theorem dX6_fault_11 : decode cX6_fault 11 = .ok (.ireturn, 1) := by decide +kernel
set_option maxRecDepth 20000 in
theorem ggX6_load_X5_read : GoodIn wsX6_load wsX5_read := goodIn_r _ [11, 12, 13, 14, 15, 16, 17, 18, 19, 20, 21, 22, 23, 10, 24, 25, 26, 27, 28, 29, 30, 31, 32, 33, 34, 35, 36, 37, 38, 39, 40, 41, 42, 43, 44, 45, 46, 47, 48, 49, 50, 51, 82, 83, 84, 85, 86, 87, 88, 89, 90] (by decide +kernel) (by decide +kernel)
set_option maxRecDepth 20000 in
theorem gX6_load_X5_read : GoodIn wsX6_load (wsV RX6 109 RX5 yX5_read wsX5_read) := goodIn_app (goodIn_of _ (by decide +kernel)) ggX6_load_X5_read
set_option maxRecDepth 20000 in
theorem ggX6_load_X2_keep : GoodIn wsX6_load wsX2_keep := goodIn_r _ [56, 57, 58, 59, 60, 61, 62, 63, 64, 65, 66, 18, 67, 68, 69, 70, 71, 72, 73, 20, 50, 51, 91, 92, 93, 86, 87, 88, 89, 90] (by decide +kernel) (by decide +kernel)
set_option maxRecDepth 20000 in
theorem gX6_load_X2_keep : GoodIn wsX6_load (wsV RX6 58 RX2 yX2_keep wsX2_keep) := goodIn_app (goodIn_of _ (by decide +kernel)) ggX6_load_X2_keep
set_option maxRecDepth 20000 in
theorem ggX6_load_X3_takeStations : GoodIn wsX6_load wsX3_takeStations := goodIn_r _ [73, 20, 50, 51, 86, 87, 88, 89, 90] (by decide +kernel) (by decide +kernel)
set_option maxRecDepth 20000 in
theorem gX6_load_X3_takeStations : GoodIn wsX6_load (wsV RX6 112 RX3 yX3_takeStations wsX3_takeStations) := goodIn_app (goodIn_of _ (by decide +kernel)) ggX6_load_X3_takeStations
theorem dX6_load_0 : decode cX6_load 0 = .ok (.aload_n 0, 1) := by decide +kernel
theorem dX6_load_1 : decode cX6_load 1 = .ok (.getfield 29, 3) := by decide +kernel
theorem dX6_load_4 : decode cX6_load 4 = .ok (.aload_n 0, 1) := by decide +kernel
theorem dX6_load_5 : decode cX6_load 5 = .ok (.getfield 16, 3) := by decide +kernel
theorem dX6_load_8 : decode cX6_load 8 = .ok (.invokevirtual 109, 3) := by decide +kernel
theorem dX6_load_11 : decode cX6_load 11 = .ok (.iconst (-1), 1) := by decide +kernel
theorem dX6_load_12 : decode cX6_load 12 = .ok (.if_icmp .eq 6, 3) := by decide +kernel
theorem dX6_load_15 : decode cX6_load 15 = .ok (.bipush (-3), 2) := by decide +kernel
theorem dX6_load_17 : decode cX6_load 17 = .ok (.ireturn, 1) := by decide +kernel
theorem dX6_load_18 : decode cX6_load 18 = .ok (.aload_n 0, 1) := by decide +kernel
theorem dX6_load_19 : decode cX6_load 19 = .ok (.getfield 22, 3) := by decide +kernel
theorem dX6_load_22 : decode cX6_load 22 = .ok (.aload_n 0, 1) := by decide +kernel
theorem dX6_load_23 : decode cX6_load 23 = .ok (.getfield 10, 3) := by decide +kernel
theorem dX6_load_26 : decode cX6_load 26 = .ok (.invokevirtual 58, 3) := by decide +kernel
theorem dX6_load_29 : decode cX6_load 29 = .ok (.aload_n 0, 1) := by decide +kernel
theorem dX6_load_30 : decode cX6_load 30 = .ok (.getfield 10, 3) := by decide +kernel
theorem dX6_load_33 : decode cX6_load 33 = .ok (.aload_n 0, 1) := by decide +kernel
theorem dX6_load_34 : decode cX6_load 34 = .ok (.getfield 16, 3) := by decide +kernel
theorem dX6_load_37 : decode cX6_load 37 = .ok (.invokevirtual 112, 3) := by decide +kernel
theorem dX6_load_40 : decode cX6_load 40 = .ok (.aload_n 0, 1) := by decide +kernel
theorem dX6_load_41 : decode cX6_load 41 = .ok (.getfield 29, 3) := by decide +kernel
theorem dX6_load_44 : decode cX6_load 44 = .ok (.iconst 0, 1) := by decide +kernel
theorem dX6_load_45 : decode cX6_load 45 = .ok (.putfield 106, 3) := by decide +kernel
theorem dX6_load_48 : decode cX6_load 48 = .ok (.aload_n 0, 1) := by decide +kernel
theorem dX6_load_49 : decode cX6_load 49 = .ok (.getfield 10, 3) := by decide +kernel
theorem dX6_load_52 : decode cX6_load 52 = .ok (.getfield 115, 3) := by decide +kernel
theorem dX6_load_55 : decode cX6_load 55 = .ok (.ireturn, 1) := by decide +kernel
set_option maxRecDepth 20000 in
theorem ggX6_station_X3_has : GoodIn wsX6_station wsX3_has := goodIn_r _ [8, 9, 61, 62, 63, 64, 65] (by decide +kernel) (by decide +kernel)
set_option maxRecDepth 20000 in
theorem gX6_station_X3_has : GoodIn wsX6_station (wsV RX6 69 RX3 yX3_has wsX3_has) := goodIn_app (goodIn_of _ (by decide +kernel)) ggX6_station_X3_has
set_option maxRecDepth 20000 in
theorem ggX6_station_X3_topOf : GoodIn wsX6_station wsX3_topOf := goodIn_r _ [13, 14, 15, 16, 5, 6, 7, 8, 9, 61, 62, 63, 64, 65] (by decide +kernel) (by decide +kernel)
set_option maxRecDepth 20000 in
theorem gX6_station_X3_topOf : GoodIn wsX6_station (wsV RX6 118 RX3 yX3_topOf wsX3_topOf) := goodIn_app (goodIn_of _ (by decide +kernel)) ggX6_station_X3_topOf
set_option maxRecDepth 20000 in
theorem ggX6_station_X3_contacts : GoodIn wsX6_station wsX3_contacts := goodIn_r _ [20, 9, 21, 22, 23, 7, 24, 25, 26, 27, 28, 29, 30, 11, 12, 13, 14, 15, 16, 5, 6, 8, 31, 32, 33, 34, 35, 36, 37, 38, 39, 40, 41, 42, 43, 44, 45, 61, 62, 63, 64, 65] (by decide +kernel) (by decide +kernel)
set_option maxRecDepth 20000 in
theorem gX6_station_X3_contacts : GoodIn wsX6_station (wsV RX6 122 RX3 yX3_contacts wsX3_contacts) := goodIn_app (goodIn_of _ (by decide +kernel)) ggX6_station_X3_contacts
set_option maxRecDepth 20000 in
theorem ggX6_station_X3_groundsSeen : GoodIn wsX6_station wsX3_groundsSeen := goodIn_r _ [49, 9, 14, 31, 32, 33, 7, 34, 35, 36, 27, 37, 38, 39, 40, 41, 42, 43, 44, 25, 26, 28, 45, 16, 5, 6, 8, 61, 62, 63, 64, 65] (by decide +kernel) (by decide +kernel)
set_option maxRecDepth 20000 in
theorem gX6_station_X3_groundsSeen : GoodIn wsX6_station (wsV RX6 125 RX3 yX3_groundsSeen wsX3_groundsSeen) := goodIn_app (goodIn_of _ (by decide +kernel)) ggX6_station_X3_groundsSeen
set_option maxRecDepth 20000 in
theorem ggX6_station_X3_higherNeighbors : GoodIn wsX6_station wsX3_higherNeighbors := goodIn_r _ [53, 16, 5, 6, 7, 8, 9, 30, 11, 12, 13, 14, 15, 61, 62, 63, 64, 65] (by decide +kernel) (by decide +kernel)
set_option maxRecDepth 20000 in
theorem gX6_station_X3_higherNeighbors : GoodIn wsX6_station (wsV RX6 128 RX3 yX3_higherNeighbors wsX3_higherNeighbors) := goodIn_app (goodIn_of _ (by decide +kernel)) ggX6_station_X3_higherNeighbors
theorem dX6_station_0 : decode cX6_station 0 = .ok (.aload_n 0, 1) := by decide +kernel
theorem dX6_station_1 : decode cX6_station 1 = .ok (.getfield 10, 3) := by decide +kernel
theorem dX6_station_4 : decode cX6_station 4 = .ok (.iload_n 1, 1) := by decide +kernel
theorem dX6_station_5 : decode cX6_station 5 = .ok (.invokevirtual 69, 3) := by decide +kernel
theorem dX6_station_8 : decode cX6_station 8 = .ok (.ifCond .ne 6, 3) := by decide +kernel
theorem dX6_station_11 : decode cX6_station 11 = .ok (.bipush (-2), 2) := by decide +kernel
theorem dX6_station_13 : decode cX6_station 13 = .ok (.ireturn, 1) := by decide +kernel
theorem dX6_station_14 : decode cX6_station 14 = .ok (.iload_n 2, 1) := by decide +kernel
theorem dX6_station_15 : decode cX6_station 15 = .ok (.tableswitch 101 0 5 #[37, 47, 57, 66, 75, 92], 37) := by decide +kernel
theorem dX6_station_52 : decode cX6_station 52 = .ok (.aload_n 0, 1) := by decide +kernel
theorem dX6_station_53 : decode cX6_station 53 = .ok (.getfield 10, 3) := by decide +kernel
theorem dX6_station_56 : decode cX6_station 56 = .ok (.getfield 73, 3) := by decide +kernel
theorem dX6_station_59 : decode cX6_station 59 = .ok (.iload_n 1, 1) := by decide +kernel
theorem dX6_station_60 : decode cX6_station 60 = .ok (.iaload, 1) := by decide +kernel
theorem dX6_station_61 : decode cX6_station 61 = .ok (.ireturn, 1) := by decide +kernel
theorem dX6_station_62 : decode cX6_station 62 = .ok (.aload_n 0, 1) := by decide +kernel
theorem dX6_station_63 : decode cX6_station 63 = .ok (.getfield 10, 3) := by decide +kernel
theorem dX6_station_66 : decode cX6_station 66 = .ok (.getfield 81, 3) := by decide +kernel
theorem dX6_station_69 : decode cX6_station 69 = .ok (.iload_n 1, 1) := by decide +kernel
theorem dX6_station_70 : decode cX6_station 70 = .ok (.iaload, 1) := by decide +kernel
theorem dX6_station_71 : decode cX6_station 71 = .ok (.ireturn, 1) := by decide +kernel
theorem dX6_station_72 : decode cX6_station 72 = .ok (.aload_n 0, 1) := by decide +kernel
theorem dX6_station_73 : decode cX6_station 73 = .ok (.getfield 10, 3) := by decide +kernel
theorem dX6_station_76 : decode cX6_station 76 = .ok (.iload_n 1, 1) := by decide +kernel
theorem dX6_station_77 : decode cX6_station 77 = .ok (.invokevirtual 118, 3) := by decide +kernel
theorem dX6_station_80 : decode cX6_station 80 = .ok (.ireturn, 1) := by decide +kernel
theorem dX6_station_81 : decode cX6_station 81 = .ok (.aload_n 0, 1) := by decide +kernel
theorem dX6_station_82 : decode cX6_station 82 = .ok (.getfield 10, 3) := by decide +kernel
theorem dX6_station_85 : decode cX6_station 85 = .ok (.iload_n 1, 1) := by decide +kernel
theorem dX6_station_86 : decode cX6_station 86 = .ok (.invokevirtual 122, 3) := by decide +kernel
theorem dX6_station_89 : decode cX6_station 89 = .ok (.ireturn, 1) := by decide +kernel
theorem dX6_station_90 : decode cX6_station 90 = .ok (.aload_n 0, 1) := by decide +kernel
theorem dX6_station_91 : decode cX6_station 91 = .ok (.getfield 10, 3) := by decide +kernel
theorem dX6_station_94 : decode cX6_station 94 = .ok (.iload_n 1, 1) := by decide +kernel
theorem dX6_station_95 : decode cX6_station 95 = .ok (.aload_n 0, 1) := by decide +kernel
theorem dX6_station_96 : decode cX6_station 96 = .ok (.getfield 10, 3) := by decide +kernel
theorem dX6_station_99 : decode cX6_station 99 = .ok (.iload_n 1, 1) := by decide +kernel
theorem dX6_station_100 : decode cX6_station 100 = .ok (.invokevirtual 118, 3) := by decide +kernel
theorem dX6_station_103 : decode cX6_station 103 = .ok (.invokevirtual 125, 3) := by decide +kernel
theorem dX6_station_106 : decode cX6_station 106 = .ok (.ireturn, 1) := by decide +kernel
theorem dX6_station_107 : decode cX6_station 107 = .ok (.aload_n 0, 1) := by decide +kernel
theorem dX6_station_108 : decode cX6_station 108 = .ok (.getfield 10, 3) := by decide +kernel
theorem dX6_station_111 : decode cX6_station 111 = .ok (.iload_n 1, 1) := by decide +kernel
theorem dX6_station_112 : decode cX6_station 112 = .ok (.invokevirtual 128, 3) := by decide +kernel
theorem dX6_station_115 : decode cX6_station 115 = .ok (.ireturn, 1) := by decide +kernel
theorem dX6_station_116 : decode cX6_station 116 = .ok (.bipush (-2), 2) := by decide +kernel
theorem dX6_station_118 : decode cX6_station 118 = .ok (.ireturn, 1) := by decide +kernel
set_option maxRecDepth 20000 in
theorem ggX6_sees_X3_has : GoodIn wsX6_sees wsX3_has := goodIn_r _ [6, 7, 45, 46, 47, 48, 49] (by decide +kernel) (by decide +kernel)
set_option maxRecDepth 20000 in
theorem gX6_sees_X3_has : GoodIn wsX6_sees (wsV RX6 69 RX3 yX3_has wsX3_has) := goodIn_app (goodIn_of _ (by decide +kernel)) ggX6_sees_X3_has
set_option maxRecDepth 20000 in
theorem ggX6_sees_X3_topsSee : GoodIn wsX6_sees wsX3_topsSee := goodIn_r _ [11, 12, 13, 14, 5, 15, 16, 17, 18, 3, 4, 6, 7, 19, 20, 21, 22, 23, 24, 25, 26, 27, 28, 29, 30, 31, 32, 33, 34, 35, 36, 37, 45, 46, 47, 48, 49] (by decide +kernel) (by decide +kernel)
set_option maxRecDepth 20000 in
theorem gX6_sees_X3_topsSee : GoodIn wsX6_sees (wsV RX6 131 RX3 yX3_topsSee wsX3_topsSee) := goodIn_app (goodIn_of _ (by decide +kernel)) ggX6_sees_X3_topsSee
theorem dX6_sees_0 : decode cX6_sees 0 = .ok (.aload_n 0, 1) := by decide +kernel
theorem dX6_sees_1 : decode cX6_sees 1 = .ok (.getfield 10, 3) := by decide +kernel
theorem dX6_sees_4 : decode cX6_sees 4 = .ok (.iload_n 1, 1) := by decide +kernel
theorem dX6_sees_5 : decode cX6_sees 5 = .ok (.invokevirtual 69, 3) := by decide +kernel
theorem dX6_sees_8 : decode cX6_sees 8 = .ok (.ifCond .eq 14, 3) := by decide +kernel
theorem dX6_sees_11 : decode cX6_sees 11 = .ok (.aload_n 0, 1) := by decide +kernel
theorem dX6_sees_12 : decode cX6_sees 12 = .ok (.getfield 10, 3) := by decide +kernel
theorem dX6_sees_15 : decode cX6_sees 15 = .ok (.iload_n 2, 1) := by decide +kernel
theorem dX6_sees_16 : decode cX6_sees 16 = .ok (.invokevirtual 69, 3) := by decide +kernel
theorem dX6_sees_19 : decode cX6_sees 19 = .ok (.ifCond .ne 6, 3) := by decide +kernel
theorem dX6_sees_22 : decode cX6_sees 22 = .ok (.bipush (-2), 2) := by decide +kernel
theorem dX6_sees_24 : decode cX6_sees 24 = .ok (.ireturn, 1) := by decide +kernel
theorem dX6_sees_25 : decode cX6_sees 25 = .ok (.aload_n 0, 1) := by decide +kernel
theorem dX6_sees_26 : decode cX6_sees 26 = .ok (.getfield 10, 3) := by decide +kernel
theorem dX6_sees_29 : decode cX6_sees 29 = .ok (.iload_n 1, 1) := by decide +kernel
theorem dX6_sees_30 : decode cX6_sees 30 = .ok (.iload_n 2, 1) := by decide +kernel
theorem dX6_sees_31 : decode cX6_sees 31 = .ok (.invokevirtual 131, 3) := by decide +kernel
theorem dX6_sees_34 : decode cX6_sees 34 = .ok (.ifCond .eq 7, 3) := by decide +kernel
theorem dX6_sees_37 : decode cX6_sees 37 = .ok (.iconst 1, 1) := by decide +kernel
theorem dX6_sees_38 : decode cX6_sees 38 = .ok (.goto 4, 3) := by decide +kernel
theorem dX6_sees_41 : decode cX6_sees 41 = .ok (.iconst 0, 1) := by decide +kernel
theorem dX6_sees_42 : decode cX6_sees 42 = .ok (.ireturn, 1) := by decide +kernel
set_option maxRecDepth 20000 in
theorem ggX6_obstacle_X3_hasPair : GoodIn wsX6_obstacle wsX3_hasPair := goodIn_r _ [6, 7, 8, 9, 5, 10, 11, 50, 51, 52, 53, 54] (by decide +kernel) (by decide +kernel)
set_option maxRecDepth 20000 in
theorem gX6_obstacle_X3_hasPair : GoodIn wsX6_obstacle (wsV RX6 135 RX3 yX3_hasPair wsX3_hasPair) := goodIn_app (goodIn_of _ (by decide +kernel)) ggX6_obstacle_X3_hasPair
set_option maxRecDepth 20000 in
theorem ggX6_obstacle_X6_within : GoodIn wsX6_obstacle wsX6_within := goodIn_r _ [15] (by decide +kernel) (by decide +kernel)
set_option maxRecDepth 20000 in
theorem gX6_obstacle_X6_within : GoodIn wsX6_obstacle (va_wsS RX6 54 yX6_within wsX6_within) := goodIn_app (goodIn_of _ (by decide +kernel)) ggX6_obstacle_X6_within
set_option maxRecDepth 20000 in
theorem ggX6_obstacle_X3_mostInTheWay : GoodIn wsX6_obstacle wsX3_mostInTheWay := goodIn_r _ [19, 20, 21, 22, 23, 24, 25, 26, 27, 28, 29, 5, 30, 31, 32, 7, 8, 9, 10, 11, 33, 34, 35, 36, 37, 38, 39, 40, 50, 51, 52, 53, 54] (by decide +kernel) (by decide +kernel)
set_option maxRecDepth 20000 in
theorem gX6_obstacle_X3_mostInTheWay : GoodIn wsX6_obstacle (wsV RX6 138 RX3 yX3_mostInTheWay wsX3_mostInTheWay) := goodIn_app (goodIn_of _ (by decide +kernel)) ggX6_obstacle_X3_mostInTheWay
set_option maxRecDepth 20000 in
theorem ggX6_obstacle_X3_topOf : GoodIn wsX6_obstacle wsX3_topOf := goodIn_r _ [30, 31, 32, 7, 8, 9, 5, 10, 11, 50, 51, 52, 53, 54] (by decide +kernel) (by decide +kernel)
set_option maxRecDepth 20000 in
theorem gX6_obstacle_X3_topOf : GoodIn wsX6_obstacle (wsV RX6 118 RX3 yX3_topOf wsX3_topOf) := goodIn_app (goodIn_of _ (by decide +kernel)) ggX6_obstacle_X3_topOf
set_option maxRecDepth 20000 in
theorem ggX6_obstacle_X3_clearance : GoodIn wsX6_obstacle wsX3_clearance := goodIn_r _ [36, 37, 38, 22, 39, 31, 40, 7, 8, 9, 5, 10, 11, 50, 51, 52, 53, 54] (by decide +kernel) (by decide +kernel)
set_option maxRecDepth 20000 in
theorem gX6_obstacle_X3_clearance : GoodIn wsX6_obstacle (wsV RX6 141 RX3 yX3_clearance wsX3_clearance) := goodIn_app (goodIn_of _ (by decide +kernel)) ggX6_obstacle_X3_clearance
theorem dX6_obstacle_0 : decode cX6_obstacle 0 = .ok (.aload_n 0, 1) := by decide +kernel
theorem dX6_obstacle_1 : decode cX6_obstacle 1 = .ok (.getfield 10, 3) := by decide +kernel
theorem dX6_obstacle_4 : decode cX6_obstacle 4 = .ok (.iload_n 1, 1) := by decide +kernel
theorem dX6_obstacle_5 : decode cX6_obstacle 5 = .ok (.iload_n 2, 1) := by decide +kernel
theorem dX6_obstacle_6 : decode cX6_obstacle 6 = .ok (.invokevirtual 135, 3) := by decide +kernel
theorem dX6_obstacle_9 : decode cX6_obstacle 9 = .ok (.ifCond .eq 12, 3) := by decide +kernel
theorem dX6_obstacle_12 : decode cX6_obstacle 12 = .ok (.iload_n 3, 1) := by decide +kernel
theorem dX6_obstacle_13 : decode cX6_obstacle 13 = .ok (.iconst 0, 1) := by decide +kernel
theorem dX6_obstacle_14 : decode cX6_obstacle 14 = .ok (.iconst 1, 1) := by decide +kernel
theorem dX6_obstacle_15 : decode cX6_obstacle 15 = .ok (.invokestatic 54, 3) := by decide +kernel
theorem dX6_obstacle_18 : decode cX6_obstacle 18 = .ok (.ifCond .ne 6, 3) := by decide +kernel
theorem dX6_obstacle_21 : decode cX6_obstacle 21 = .ok (.bipush (-2), 2) := by decide +kernel
theorem dX6_obstacle_23 : decode cX6_obstacle 23 = .ok (.ireturn, 1) := by decide +kernel
theorem dX6_obstacle_24 : decode cX6_obstacle 24 = .ok (.aload_n 0, 1) := by decide +kernel
theorem dX6_obstacle_25 : decode cX6_obstacle 25 = .ok (.getfield 10, 3) := by decide +kernel
theorem dX6_obstacle_28 : decode cX6_obstacle 28 = .ok (.iload_n 1, 1) := by decide +kernel
theorem dX6_obstacle_29 : decode cX6_obstacle 29 = .ok (.iload_n 2, 1) := by decide +kernel
theorem dX6_obstacle_30 : decode cX6_obstacle 30 = .ok (.invokevirtual 138, 3) := by decide +kernel
theorem dX6_obstacle_33 : decode cX6_obstacle 33 = .ok (.istore 4, 2) := by decide +kernel
theorem dX6_obstacle_35 : decode cX6_obstacle 35 = .ok (.iload 4, 2) := by decide +kernel
theorem dX6_obstacle_37 : decode cX6_obstacle 37 = .ok (.iconst (-1), 1) := by decide +kernel
theorem dX6_obstacle_38 : decode cX6_obstacle 38 = .ok (.if_icmp .eq 7, 3) := by decide +kernel
theorem dX6_obstacle_41 : decode cX6_obstacle 41 = .ok (.iload_n 3, 1) := by decide +kernel
theorem dX6_obstacle_42 : decode cX6_obstacle 42 = .ok (.ifCond .ne 6, 3) := by decide +kernel
theorem dX6_obstacle_45 : decode cX6_obstacle 45 = .ok (.iload 4, 2) := by decide +kernel
theorem dX6_obstacle_47 : decode cX6_obstacle 47 = .ok (.ireturn, 1) := by decide +kernel
theorem dX6_obstacle_48 : decode cX6_obstacle 48 = .ok (.aload_n 0, 1) := by decide +kernel
theorem dX6_obstacle_49 : decode cX6_obstacle 49 = .ok (.getfield 10, 3) := by decide +kernel
theorem dX6_obstacle_52 : decode cX6_obstacle 52 = .ok (.iload_n 1, 1) := by decide +kernel
theorem dX6_obstacle_53 : decode cX6_obstacle 53 = .ok (.aload_n 0, 1) := by decide +kernel
theorem dX6_obstacle_54 : decode cX6_obstacle 54 = .ok (.getfield 10, 3) := by decide +kernel
theorem dX6_obstacle_57 : decode cX6_obstacle 57 = .ok (.iload_n 1, 1) := by decide +kernel
theorem dX6_obstacle_58 : decode cX6_obstacle 58 = .ok (.invokevirtual 118, 3) := by decide +kernel
theorem dX6_obstacle_61 : decode cX6_obstacle 61 = .ok (.iload_n 2, 1) := by decide +kernel
theorem dX6_obstacle_62 : decode cX6_obstacle 62 = .ok (.aload_n 0, 1) := by decide +kernel
theorem dX6_obstacle_63 : decode cX6_obstacle 63 = .ok (.getfield 10, 3) := by decide +kernel
theorem dX6_obstacle_66 : decode cX6_obstacle 66 = .ok (.iload_n 2, 1) := by decide +kernel
theorem dX6_obstacle_67 : decode cX6_obstacle 67 = .ok (.invokevirtual 118, 3) := by decide +kernel
theorem dX6_obstacle_70 : decode cX6_obstacle 70 = .ok (.iload 4, 2) := by decide +kernel
theorem dX6_obstacle_72 : decode cX6_obstacle 72 = .ok (.invokevirtual 141, 3) := by decide +kernel
theorem dX6_obstacle_75 : decode cX6_obstacle 75 = .ok (.ireturn, 1) := by decide +kernel
set_option maxRecDepth 20000 in
theorem ggX6_neededMast_X3_hasPair : GoodIn wsX6_neededMast wsX3_hasPair := goodIn_r _ [7, 8, 9, 10, 6, 11, 12, 45, 46, 47, 48, 49] (by decide +kernel) (by decide +kernel)
set_option maxRecDepth 20000 in
theorem gX6_neededMast_X3_hasPair : GoodIn wsX6_neededMast (wsV RX6 135 RX3 yX3_hasPair wsX3_hasPair) := goodIn_app (goodIn_of _ (by decide +kernel)) ggX6_neededMast_X3_hasPair
set_option maxRecDepth 20000 in
theorem ggX6_neededMast_X3_topOf : GoodIn wsX6_neededMast wsX3_topOf := goodIn_r _ [16, 17, 18, 8, 9, 10, 6, 11, 12, 45, 46, 47, 48, 49] (by decide +kernel) (by decide +kernel)
set_option maxRecDepth 20000 in
theorem gX6_neededMast_X3_topOf : GoodIn wsX6_neededMast (wsV RX6 118 RX3 yX3_topOf wsX3_topOf) := goodIn_app (goodIn_of _ (by decide +kernel)) ggX6_neededMast_X3_topOf
set_option maxRecDepth 20000 in
theorem ggX6_neededMast_X3_pointsSee : GoodIn wsX6_neededMast wsX3_pointsSee := goodIn_r _ [22, 23, 24, 25, 26, 27, 28, 29, 30, 31, 32, 6, 33, 34, 35, 36, 17, 37, 8, 9, 10, 11, 12, 45, 46, 47, 48, 49] (by decide +kernel) (by decide +kernel)
set_option maxRecDepth 20000 in
theorem gX6_neededMast_X3_pointsSee : GoodIn wsX6_neededMast (wsV RX6 145 RX3 yX3_pointsSee wsX3_pointsSee) := goodIn_app (goodIn_of _ (by decide +kernel)) ggX6_neededMast_X3_pointsSee
theorem dX6_neededMast_0 : decode cX6_neededMast 0 = .ok (.aload_n 0, 1) := by decide +kernel
theorem dX6_neededMast_1 : decode cX6_neededMast 1 = .ok (.getfield 10, 3) := by decide +kernel
theorem dX6_neededMast_4 : decode cX6_neededMast 4 = .ok (.iload_n 1, 1) := by decide +kernel
theorem dX6_neededMast_5 : decode cX6_neededMast 5 = .ok (.iload_n 2, 1) := by decide +kernel
theorem dX6_neededMast_6 : decode cX6_neededMast 6 = .ok (.invokevirtual 135, 3) := by decide +kernel
theorem dX6_neededMast_9 : decode cX6_neededMast 9 = .ok (.ifCond .ne 6, 3) := by decide +kernel
theorem dX6_neededMast_12 : decode cX6_neededMast 12 = .ok (.bipush (-2), 2) := by decide +kernel
theorem dX6_neededMast_14 : decode cX6_neededMast 14 = .ok (.ireturn, 1) := by decide +kernel
theorem dX6_neededMast_15 : decode cX6_neededMast 15 = .ok (.iconst 0, 1) := by decide +kernel
theorem dX6_neededMast_16 : decode cX6_neededMast 16 = .ok (.istore_n 3, 1) := by decide +kernel
theorem dX6_neededMast_17 : decode cX6_neededMast 17 = .ok (.iload_n 3, 1) := by decide +kernel
theorem dX6_neededMast_18 : decode cX6_neededMast 18 = .ok (.sipush 200, 3) := by decide +kernel
theorem dX6_neededMast_21 : decode cX6_neededMast 21 = .ok (.if_icmp .gt 42, 3) := by decide +kernel
theorem dX6_neededMast_24 : decode cX6_neededMast 24 = .ok (.aload_n 0, 1) := by decide +kernel
theorem dX6_neededMast_25 : decode cX6_neededMast 25 = .ok (.getfield 10, 3) := by decide +kernel
theorem dX6_neededMast_28 : decode cX6_neededMast 28 = .ok (.iload_n 1, 1) := by decide +kernel
theorem dX6_neededMast_29 : decode cX6_neededMast 29 = .ok (.aload_n 0, 1) := by decide +kernel
theorem dX6_neededMast_30 : decode cX6_neededMast 30 = .ok (.getfield 10, 3) := by decide +kernel
theorem dX6_neededMast_33 : decode cX6_neededMast 33 = .ok (.getfield 73, 3) := by decide +kernel
theorem dX6_neededMast_36 : decode cX6_neededMast 36 = .ok (.iload_n 1, 1) := by decide +kernel
theorem dX6_neededMast_37 : decode cX6_neededMast 37 = .ok (.iaload, 1) := by decide +kernel
theorem dX6_neededMast_38 : decode cX6_neededMast 38 = .ok (.iload_n 3, 1) := by decide +kernel
theorem dX6_neededMast_39 : decode cX6_neededMast 39 = .ok (.iadd, 1) := by decide +kernel
theorem dX6_neededMast_40 : decode cX6_neededMast 40 = .ok (.iload_n 2, 1) := by decide +kernel
theorem dX6_neededMast_41 : decode cX6_neededMast 41 = .ok (.aload_n 0, 1) := by decide +kernel
theorem dX6_neededMast_42 : decode cX6_neededMast 42 = .ok (.getfield 10, 3) := by decide +kernel
theorem dX6_neededMast_45 : decode cX6_neededMast 45 = .ok (.iload_n 2, 1) := by decide +kernel
theorem dX6_neededMast_46 : decode cX6_neededMast 46 = .ok (.invokevirtual 118, 3) := by decide +kernel
theorem dX6_neededMast_49 : decode cX6_neededMast 49 = .ok (.invokevirtual 145, 3) := by decide +kernel
theorem dX6_neededMast_52 : decode cX6_neededMast 52 = .ok (.ifCond .eq 5, 3) := by decide +kernel
theorem dX6_neededMast_55 : decode cX6_neededMast 55 = .ok (.iload_n 3, 1) := by decide +kernel
theorem dX6_neededMast_56 : decode cX6_neededMast 56 = .ok (.ireturn, 1) := by decide +kernel
theorem dX6_neededMast_57 : decode cX6_neededMast 57 = .ok (.iinc 3 1, 3) := by decide +kernel
theorem dX6_neededMast_60 : decode cX6_neededMast 60 = .ok (.goto (-43), 3) := by decide +kernel
theorem dX6_neededMast_63 : decode cX6_neededMast 63 = .ok (.iconst (-1), 1) := by decide +kernel
theorem dX6_neededMast_64 : decode cX6_neededMast 64 = .ok (.ireturn, 1) := by decide +kernel
set_option maxRecDepth 20000 in
theorem ggX6_growth_X3_hasPair : GoodIn wsX6_growth wsX3_hasPair := goodIn_r _ [7, 8, 9, 10, 6, 11, 12, 53, 54, 55, 56, 57] (by decide +kernel) (by decide +kernel)
set_option maxRecDepth 20000 in
theorem gX6_growth_X3_hasPair : GoodIn wsX6_growth (wsV RX6 135 RX3 yX3_hasPair wsX3_hasPair) := goodIn_app (goodIn_of _ (by decide +kernel)) ggX6_growth_X3_hasPair
set_option maxRecDepth 20000 in
theorem ggX6_growth_X6_within : GoodIn wsX6_growth wsX6_within := goodIn_r _ [16] (by decide +kernel) (by decide +kernel)
set_option maxRecDepth 20000 in
theorem gX6_growth_X6_within : GoodIn wsX6_growth (va_wsS RX6 54 yX6_within wsX6_within) := goodIn_app (goodIn_of _ (by decide +kernel)) ggX6_growth_X6_within
set_option maxRecDepth 20000 in
theorem ggX6_growth_X3_grownSee : GoodIn wsX6_growth wsX3_grownSee := goodIn_r _ [20, 21, 22, 23, 6, 24, 25, 26, 8, 9, 10, 11, 12, 27, 28, 29, 30, 31, 32, 33, 34, 35, 36, 37, 38, 39, 40, 41, 42, 43, 44, 45, 53, 54, 55, 56, 57] (by decide +kernel) (by decide +kernel)
set_option maxRecDepth 20000 in
theorem gX6_growth_X3_grownSee : GoodIn wsX6_growth (wsV RX6 149 RX3 yX3_grownSee wsX3_grownSee) := goodIn_app (goodIn_of _ (by decide +kernel)) ggX6_growth_X3_grownSee
theorem dX6_growth_0 : decode cX6_growth 0 = .ok (.aload_n 0, 1) := by decide +kernel
theorem dX6_growth_1 : decode cX6_growth 1 = .ok (.getfield 10, 3) := by decide +kernel
theorem dX6_growth_4 : decode cX6_growth 4 = .ok (.iload_n 1, 1) := by decide +kernel
theorem dX6_growth_5 : decode cX6_growth 5 = .ok (.iload_n 2, 1) := by decide +kernel
theorem dX6_growth_6 : decode cX6_growth 6 = .ok (.invokevirtual 135, 3) := by decide +kernel
theorem dX6_growth_9 : decode cX6_growth 9 = .ok (.ifCond .eq 12, 3) := by decide +kernel
theorem dX6_growth_12 : decode cX6_growth 12 = .ok (.iload_n 3, 1) := by decide +kernel
theorem dX6_growth_13 : decode cX6_growth 13 = .ok (.iconst 0, 1) := by decide +kernel
theorem dX6_growth_14 : decode cX6_growth 14 = .ok (.iconst 2, 1) := by decide +kernel
theorem dX6_growth_15 : decode cX6_growth 15 = .ok (.invokestatic 54, 3) := by decide +kernel
theorem dX6_growth_18 : decode cX6_growth 18 = .ok (.ifCond .ne 6, 3) := by decide +kernel
theorem dX6_growth_21 : decode cX6_growth 21 = .ok (.bipush (-2), 2) := by decide +kernel
theorem dX6_growth_23 : decode cX6_growth 23 = .ok (.ireturn, 1) := by decide +kernel
theorem dX6_growth_24 : decode cX6_growth 24 = .ok (.iconst (-1), 1) := by decide +kernel
theorem dX6_growth_25 : decode cX6_growth 25 = .ok (.istore 4, 2) := by decide +kernel
theorem dX6_growth_27 : decode cX6_growth 27 = .ok (.iconst (-1), 1) := by decide +kernel
theorem dX6_growth_28 : decode cX6_growth 28 = .ok (.istore 5, 2) := by decide +kernel
theorem dX6_growth_30 : decode cX6_growth 30 = .ok (.sipush 200, 3) := by decide +kernel
theorem dX6_growth_33 : decode cX6_growth 33 = .ok (.aload_n 0, 1) := by decide +kernel
theorem dX6_growth_34 : decode cX6_growth 34 = .ok (.getfield 10, 3) := by decide +kernel
theorem dX6_growth_37 : decode cX6_growth 37 = .ok (.getfield 81, 3) := by decide +kernel
theorem dX6_growth_40 : decode cX6_growth 40 = .ok (.iload_n 2, 1) := by decide +kernel
theorem dX6_growth_41 : decode cX6_growth 41 = .ok (.iaload, 1) := by decide +kernel
theorem dX6_growth_42 : decode cX6_growth 42 = .ok (.isub, 1) := by decide +kernel
theorem dX6_growth_43 : decode cX6_growth 43 = .ok (.istore 6, 2) := by decide +kernel
theorem dX6_growth_45 : decode cX6_growth 45 = .ok (.iconst 0, 1) := by decide +kernel
theorem dX6_growth_46 : decode cX6_growth 46 = .ok (.istore 7, 2) := by decide +kernel
theorem dX6_growth_48 : decode cX6_growth 48 = .ok (.iload 7, 2) := by decide +kernel
theorem dX6_growth_50 : decode cX6_growth 50 = .ok (.sipush 200, 3) := by decide +kernel
theorem dX6_growth_53 : decode cX6_growth 53 = .ok (.aload_n 0, 1) := by decide +kernel
theorem dX6_growth_54 : decode cX6_growth 54 = .ok (.getfield 10, 3) := by decide +kernel
theorem dX6_growth_57 : decode cX6_growth 57 = .ok (.getfield 81, 3) := by decide +kernel
theorem dX6_growth_60 : decode cX6_growth 60 = .ok (.iload_n 1, 1) := by decide +kernel
theorem dX6_growth_61 : decode cX6_growth 61 = .ok (.iaload, 1) := by decide +kernel
theorem dX6_growth_62 : decode cX6_growth 62 = .ok (.isub, 1) := by decide +kernel
theorem dX6_growth_63 : decode cX6_growth 63 = .ok (.if_icmp .gt 63, 3) := by decide +kernel
theorem dX6_growth_66 : decode cX6_growth 66 = .ok (.iload 6, 2) := by decide +kernel
theorem dX6_growth_68 : decode cX6_growth 68 = .ok (.ifCond .lt 52, 3) := by decide +kernel
theorem dX6_growth_71 : decode cX6_growth 71 = .ok (.aload_n 0, 1) := by decide +kernel
theorem dX6_growth_72 : decode cX6_growth 72 = .ok (.getfield 10, 3) := by decide +kernel
theorem dX6_growth_75 : decode cX6_growth 75 = .ok (.iload_n 1, 1) := by decide +kernel
theorem dX6_growth_76 : decode cX6_growth 76 = .ok (.iload 7, 2) := by decide +kernel
theorem dX6_growth_78 : decode cX6_growth 78 = .ok (.iload_n 2, 1) := by decide +kernel
theorem dX6_growth_79 : decode cX6_growth 79 = .ok (.iload 6, 2) := by decide +kernel
theorem dX6_growth_81 : decode cX6_growth 81 = .ok (.invokevirtual 149, 3) := by decide +kernel
theorem dX6_growth_84 : decode cX6_growth 84 = .ok (.ifCond .eq 36, 3) := by decide +kernel
theorem dX6_growth_87 : decode cX6_growth 87 = .ok (.iload 4, 2) := by decide +kernel
theorem dX6_growth_89 : decode cX6_growth 89 = .ok (.iconst (-1), 1) := by decide +kernel
theorem dX6_growth_90 : decode cX6_growth 90 = .ok (.if_icmp .eq 13, 3) := by decide +kernel
theorem dX6_growth_93 : decode cX6_growth 93 = .ok (.iload 7, 2) := by decide +kernel
theorem dX6_growth_95 : decode cX6_growth 95 = .ok (.iload 6, 2) := by decide +kernel
theorem dX6_growth_97 : decode cX6_growth 97 = .ok (.iadd, 1) := by decide +kernel
theorem dX6_growth_98 : decode cX6_growth 98 = .ok (.iload 4, 2) := by decide +kernel
theorem dX6_growth_100 : decode cX6_growth 100 = .ok (.if_icmp .ge 14, 3) := by decide +kernel
theorem dX6_growth_103 : decode cX6_growth 103 = .ok (.iload 7, 2) := by decide +kernel
theorem dX6_growth_105 : decode cX6_growth 105 = .ok (.iload 6, 2) := by decide +kernel
theorem dX6_growth_107 : decode cX6_growth 107 = .ok (.iadd, 1) := by decide +kernel
theorem dX6_growth_108 : decode cX6_growth 108 = .ok (.istore 4, 2) := by decide +kernel
theorem dX6_growth_110 : decode cX6_growth 110 = .ok (.iload 7, 2) := by decide +kernel
theorem dX6_growth_112 : decode cX6_growth 112 = .ok (.istore 5, 2) := by decide +kernel
theorem dX6_growth_114 : decode cX6_growth 114 = .ok (.iinc 6 (-1), 3) := by decide +kernel
theorem dX6_growth_117 : decode cX6_growth 117 = .ok (.goto (-51), 3) := by decide +kernel
theorem dX6_growth_120 : decode cX6_growth 120 = .ok (.iinc 7 1, 3) := by decide +kernel
theorem dX6_growth_123 : decode cX6_growth 123 = .ok (.goto (-75), 3) := by decide +kernel
theorem dX6_growth_126 : decode cX6_growth 126 = .ok (.iload 4, 2) := by decide +kernel
theorem dX6_growth_128 : decode cX6_growth 128 = .ok (.iconst (-1), 1) := by decide +kernel
theorem dX6_growth_129 : decode cX6_growth 129 = .ok (.if_icmp .eq 7, 3) := by decide +kernel
theorem dX6_growth_132 : decode cX6_growth 132 = .ok (.iload_n 3, 1) := by decide +kernel
theorem dX6_growth_133 : decode cX6_growth 133 = .ok (.ifCond .ne 6, 3) := by decide +kernel
theorem dX6_growth_136 : decode cX6_growth 136 = .ok (.iload 4, 2) := by decide +kernel
theorem dX6_growth_138 : decode cX6_growth 138 = .ok (.ireturn, 1) := by decide +kernel
theorem dX6_growth_139 : decode cX6_growth 139 = .ok (.iload_n 3, 1) := by decide +kernel
theorem dX6_growth_140 : decode cX6_growth 140 = .ok (.iconst 1, 1) := by decide +kernel
theorem dX6_growth_141 : decode cX6_growth 141 = .ok (.if_icmp .ne 8, 3) := by decide +kernel
theorem dX6_growth_144 : decode cX6_growth 144 = .ok (.iload 5, 2) := by decide +kernel
theorem dX6_growth_146 : decode cX6_growth 146 = .ok (.goto 8, 3) := by decide +kernel
theorem dX6_growth_149 : decode cX6_growth 149 = .ok (.iload 4, 2) := by decide +kernel
theorem dX6_growth_151 : decode cX6_growth 151 = .ok (.iload 5, 2) := by decide +kernel
theorem dX6_growth_153 : decode cX6_growth 153 = .ok (.isub, 1) := by decide +kernel
theorem dX6_growth_154 : decode cX6_growth 154 = .ok (.ireturn, 1) := by decide +kernel
set_option maxRecDepth 20000 in
theorem ggX6_shadow_X3_has : GoodIn wsX6_shadow wsX3_has := goodIn_r _ [6, 7, 59, 60, 61, 62, 63] (by decide +kernel) (by decide +kernel)
set_option maxRecDepth 20000 in
theorem gX6_shadow_X3_has : GoodIn wsX6_shadow (wsV RX6 69 RX3 yX3_has wsX3_has) := goodIn_app (goodIn_of _ (by decide +kernel)) ggX6_shadow_X3_has
set_option maxRecDepth 20000 in
theorem ggX6_shadow_X6_within : GoodIn wsX6_shadow wsX6_within := goodIn_r _ [11] (by decide +kernel) (by decide +kernel)
set_option maxRecDepth 20000 in
theorem gX6_shadow_X6_within : GoodIn wsX6_shadow (va_wsS RX6 54 yX6_within wsX6_within) := goodIn_app (goodIn_of _ (by decide +kernel)) ggX6_shadow_X6_within
set_option maxRecDepth 20000 in
theorem ggX6_shadow_X3_all : GoodIn wsX6_shadow wsX3_all := goodIn_r _ [15, 7, 59, 60, 61, 62, 63] (by decide +kernel) (by decide +kernel)
set_option maxRecDepth 20000 in
theorem gX6_shadow_X3_all : GoodIn wsX6_shadow (wsV RX6 152 RX3 yX3_all wsX3_all) := goodIn_app (goodIn_of _ (by decide +kernel)) ggX6_shadow_X3_all
set_option maxRecDepth 20000 in
theorem ggX6_shadow_X3_topOf : GoodIn wsX6_shadow wsX3_topOf := goodIn_r _ [19, 20, 21, 22, 3, 4, 5, 6, 7, 59, 60, 61, 62, 63] (by decide +kernel) (by decide +kernel)
set_option maxRecDepth 20000 in
theorem gX6_shadow_X3_topOf : GoodIn wsX6_shadow (wsV RX6 118 RX3 yX3_topOf wsX3_topOf) := goodIn_app (goodIn_of _ (by decide +kernel)) ggX6_shadow_X3_topOf
set_option maxRecDepth 20000 in
theorem ggX6_shadow_X3_groundsSeen : GoodIn wsX6_shadow wsX3_groundsSeen := goodIn_r _ [26, 7, 20, 27, 28, 29, 5, 30, 31, 32, 33, 34, 35, 36, 37, 38, 39, 40, 41, 42, 43, 44, 45, 22, 3, 4, 6, 59, 60, 61, 62, 63] (by decide +kernel) (by decide +kernel)
set_option maxRecDepth 20000 in
theorem gX6_shadow_X3_groundsSeen : GoodIn wsX6_shadow (wsV RX6 125 RX3 yX3_groundsSeen wsX3_groundsSeen) := goodIn_app (goodIn_of _ (by decide +kernel)) ggX6_shadow_X3_groundsSeen
set_option maxRecDepth 20000 in
theorem ggX6_shadow_X6_nthOf : GoodIn wsX6_shadow wsX6_nthOf := goodIn_r _ [48, 49, 50, 10, 51] (by decide +kernel) (by decide +kernel)
set_option maxRecDepth 20000 in
theorem gX6_shadow_X6_nthOf : GoodIn wsX6_shadow (va_wsS RX6 156 yX6_nthOf wsX6_nthOf) := goodIn_app (goodIn_of _ (by decide +kernel)) ggX6_shadow_X6_nthOf
theorem dX6_shadow_0 : decode cX6_shadow 0 = .ok (.aload_n 0, 1) := by decide +kernel
theorem dX6_shadow_1 : decode cX6_shadow 1 = .ok (.getfield 10, 3) := by decide +kernel
theorem dX6_shadow_4 : decode cX6_shadow 4 = .ok (.iload_n 1, 1) := by decide +kernel
theorem dX6_shadow_5 : decode cX6_shadow 5 = .ok (.invokevirtual 69, 3) := by decide +kernel
theorem dX6_shadow_8 : decode cX6_shadow 8 = .ok (.ifCond .eq 16, 3) := by decide +kernel
theorem dX6_shadow_11 : decode cX6_shadow 11 = .ok (.iload_n 2, 1) := by decide +kernel
theorem dX6_shadow_12 : decode cX6_shadow 12 = .ok (.ifCond .lt 12, 3) := by decide +kernel
theorem dX6_shadow_15 : decode cX6_shadow 15 = .ok (.iload_n 3, 1) := by decide +kernel
theorem dX6_shadow_16 : decode cX6_shadow 16 = .ok (.iconst 0, 1) := by decide +kernel
theorem dX6_shadow_17 : decode cX6_shadow 17 = .ok (.iconst 1, 1) := by decide +kernel
theorem dX6_shadow_18 : decode cX6_shadow 18 = .ok (.invokestatic 54, 3) := by decide +kernel
theorem dX6_shadow_21 : decode cX6_shadow 21 = .ok (.ifCond .ne 6, 3) := by decide +kernel
theorem dX6_shadow_24 : decode cX6_shadow 24 = .ok (.bipush (-2), 2) := by decide +kernel
theorem dX6_shadow_26 : decode cX6_shadow 26 = .ok (.ireturn, 1) := by decide +kernel
theorem dX6_shadow_27 : decode cX6_shadow 27 = .ok (.aload_n 0, 1) := by decide +kernel
theorem dX6_shadow_28 : decode cX6_shadow 28 = .ok (.getfield 10, 3) := by decide +kernel
theorem dX6_shadow_31 : decode cX6_shadow 31 = .ok (.invokevirtual 152, 3) := by decide +kernel
theorem dX6_shadow_34 : decode cX6_shadow 34 = .ok (.aload_n 0, 1) := by decide +kernel
theorem dX6_shadow_35 : decode cX6_shadow 35 = .ok (.getfield 10, 3) := by decide +kernel
theorem dX6_shadow_38 : decode cX6_shadow 38 = .ok (.iload_n 1, 1) := by decide +kernel
theorem dX6_shadow_39 : decode cX6_shadow 39 = .ok (.aload_n 0, 1) := by decide +kernel
theorem dX6_shadow_40 : decode cX6_shadow 40 = .ok (.getfield 10, 3) := by decide +kernel
theorem dX6_shadow_43 : decode cX6_shadow 43 = .ok (.iload_n 1, 1) := by decide +kernel
theorem dX6_shadow_44 : decode cX6_shadow 44 = .ok (.invokevirtual 118, 3) := by decide +kernel
theorem dX6_shadow_47 : decode cX6_shadow 47 = .ok (.invokevirtual 125, 3) := by decide +kernel
theorem dX6_shadow_50 : decode cX6_shadow 50 = .ok (.iconst (-1), 1) := by decide +kernel
theorem dX6_shadow_51 : decode cX6_shadow 51 = .ok (.ixor, 1) := by decide +kernel
theorem dX6_shadow_52 : decode cX6_shadow 52 = .ok (.iand, 1) := by decide +kernel
theorem dX6_shadow_53 : decode cX6_shadow 53 = .ok (.istore 4, 2) := by decide +kernel
theorem dX6_shadow_55 : decode cX6_shadow 55 = .ok (.iload_n 3, 1) := by decide +kernel
theorem dX6_shadow_56 : decode cX6_shadow 56 = .ok (.ifCond .ne 15, 3) := by decide +kernel
theorem dX6_shadow_59 : decode cX6_shadow 59 = .ok (.iload 4, 2) := by decide +kernel
theorem dX6_shadow_61 : decode cX6_shadow 61 = .ok (.iload 4, 2) := by decide +kernel
theorem dX6_shadow_63 : decode cX6_shadow 63 = .ok (.iconst 1, 1) := by decide +kernel
theorem dX6_shadow_64 : decode cX6_shadow 64 = .ok (.ishl, 1) := by decide +kernel
theorem dX6_shadow_65 : decode cX6_shadow 65 = .ok (.iconst (-1), 1) := by decide +kernel
theorem dX6_shadow_66 : decode cX6_shadow 66 = .ok (.ixor, 1) := by decide +kernel
theorem dX6_shadow_67 : decode cX6_shadow 67 = .ok (.iand, 1) := by decide +kernel
theorem dX6_shadow_68 : decode cX6_shadow 68 = .ok (.goto 12, 3) := by decide +kernel
theorem dX6_shadow_71 : decode cX6_shadow 71 = .ok (.iload 4, 2) := by decide +kernel
theorem dX6_shadow_73 : decode cX6_shadow 73 = .ok (.iload 4, 2) := by decide +kernel
theorem dX6_shadow_75 : decode cX6_shadow 75 = .ok (.iconst 1, 1) := by decide +kernel
theorem dX6_shadow_76 : decode cX6_shadow 76 = .ok (.ishr, 1) := by decide +kernel
theorem dX6_shadow_77 : decode cX6_shadow 77 = .ok (.iconst (-1), 1) := by decide +kernel
theorem dX6_shadow_78 : decode cX6_shadow 78 = .ok (.ixor, 1) := by decide +kernel
theorem dX6_shadow_79 : decode cX6_shadow 79 = .ok (.iand, 1) := by decide +kernel
theorem dX6_shadow_80 : decode cX6_shadow 80 = .ok (.istore 5, 2) := by decide +kernel
theorem dX6_shadow_82 : decode cX6_shadow 82 = .ok (.iload 5, 2) := by decide +kernel
theorem dX6_shadow_84 : decode cX6_shadow 84 = .ok (.iload_n 2, 1) := by decide +kernel
theorem dX6_shadow_85 : decode cX6_shadow 85 = .ok (.invokestatic 156, 3) := by decide +kernel
theorem dX6_shadow_88 : decode cX6_shadow 88 = .ok (.ireturn, 1) := by decide +kernel
set_option maxRecDepth 20000 in
theorem ggX6_farthest_X3_inContact : GoodIn wsX6_farthest wsX3_inContact := goodIn_r _ [7, 8, 9, 10, 11, 12, 13, 14, 15, 6, 16, 17, 18, 19, 20, 21, 22, 23, 24, 25, 26, 27, 28, 29, 30, 31, 32, 33, 34, 35, 36, 37, 38, 46, 47, 48, 49, 50] (by decide +kernel) (by decide +kernel)
set_option maxRecDepth 20000 in
theorem gX6_farthest_X3_inContact : GoodIn wsX6_farthest (wsV RX6 159 RX3 yX3_inContact wsX3_inContact) := goodIn_app (goodIn_of _ (by decide +kernel)) ggX6_farthest_X3_inContact
theorem dX6_farthest_0 : decode cX6_farthest 0 = .ok (.iconst 0, 1) := by decide +kernel
theorem dX6_farthest_1 : decode cX6_farthest 1 = .ok (.istore_n 1, 1) := by decide +kernel
theorem dX6_farthest_2 : decode cX6_farthest 2 = .ok (.iconst 1, 1) := by decide +kernel
theorem dX6_farthest_3 : decode cX6_farthest 3 = .ok (.istore_n 2, 1) := by decide +kernel
theorem dX6_farthest_4 : decode cX6_farthest 4 = .ok (.iconst 0, 1) := by decide +kernel
theorem dX6_farthest_5 : decode cX6_farthest 5 = .ok (.istore_n 3, 1) := by decide +kernel
theorem dX6_farthest_6 : decode cX6_farthest 6 = .ok (.iload_n 3, 1) := by decide +kernel
theorem dX6_farthest_7 : decode cX6_farthest 7 = .ok (.aload_n 0, 1) := by decide +kernel
theorem dX6_farthest_8 : decode cX6_farthest 8 = .ok (.getfield 10, 3) := by decide +kernel
theorem dX6_farthest_11 : decode cX6_farthest 11 = .ok (.getfield 115, 3) := by decide +kernel
theorem dX6_farthest_14 : decode cX6_farthest 14 = .ok (.if_icmp .ge 60, 3) := by decide +kernel
theorem dX6_farthest_17 : decode cX6_farthest 17 = .ok (.iload_n 3, 1) := by decide +kernel
theorem dX6_farthest_18 : decode cX6_farthest 18 = .ok (.iconst 1, 1) := by decide +kernel
theorem dX6_farthest_19 : decode cX6_farthest 19 = .ok (.iadd, 1) := by decide +kernel
theorem dX6_farthest_20 : decode cX6_farthest 20 = .ok (.istore 4, 2) := by decide +kernel
theorem dX6_farthest_22 : decode cX6_farthest 22 = .ok (.iload 4, 2) := by decide +kernel
theorem dX6_farthest_24 : decode cX6_farthest 24 = .ok (.aload_n 0, 1) := by decide +kernel
theorem dX6_farthest_25 : decode cX6_farthest 25 = .ok (.getfield 10, 3) := by decide +kernel
theorem dX6_farthest_28 : decode cX6_farthest 28 = .ok (.getfield 115, 3) := by decide +kernel
theorem dX6_farthest_31 : decode cX6_farthest 31 = .ok (.if_icmp .ge 37, 3) := by decide +kernel
theorem dX6_farthest_34 : decode cX6_farthest 34 = .ok (.iload 4, 2) := by decide +kernel
theorem dX6_farthest_36 : decode cX6_farthest 36 = .ok (.iload_n 3, 1) := by decide +kernel
theorem dX6_farthest_37 : decode cX6_farthest 37 = .ok (.isub, 1) := by decide +kernel
theorem dX6_farthest_38 : decode cX6_farthest 38 = .ok (.iload_n 2, 1) := by decide +kernel
theorem dX6_farthest_39 : decode cX6_farthest 39 = .ok (.iload_n 1, 1) := by decide +kernel
theorem dX6_farthest_40 : decode cX6_farthest 40 = .ok (.isub, 1) := by decide +kernel
theorem dX6_farthest_41 : decode cX6_farthest 41 = .ok (.if_icmp .le 21, 3) := by decide +kernel
theorem dX6_farthest_44 : decode cX6_farthest 44 = .ok (.aload_n 0, 1) := by decide +kernel
theorem dX6_farthest_45 : decode cX6_farthest 45 = .ok (.getfield 10, 3) := by decide +kernel
theorem dX6_farthest_48 : decode cX6_farthest 48 = .ok (.iload_n 3, 1) := by decide +kernel
theorem dX6_farthest_49 : decode cX6_farthest 49 = .ok (.iload 4, 2) := by decide +kernel
theorem dX6_farthest_51 : decode cX6_farthest 51 = .ok (.invokevirtual 159, 3) := by decide +kernel
theorem dX6_farthest_54 : decode cX6_farthest 54 = .ok (.ifCond .eq 8, 3) := by decide +kernel
theorem dX6_farthest_57 : decode cX6_farthest 57 = .ok (.iload_n 3, 1) := by decide +kernel
theorem dX6_farthest_58 : decode cX6_farthest 58 = .ok (.istore_n 1, 1) := by decide +kernel
theorem dX6_farthest_59 : decode cX6_farthest 59 = .ok (.iload 4, 2) := by decide +kernel
theorem dX6_farthest_61 : decode cX6_farthest 61 = .ok (.istore_n 2, 1) := by decide +kernel
theorem dX6_farthest_62 : decode cX6_farthest 62 = .ok (.iinc 4 1, 3) := by decide +kernel
theorem dX6_farthest_65 : decode cX6_farthest 65 = .ok (.goto (-43), 3) := by decide +kernel
theorem dX6_farthest_68 : decode cX6_farthest 68 = .ok (.iinc 3 1, 3) := by decide +kernel
theorem dX6_farthest_71 : decode cX6_farthest 71 = .ok (.goto (-65), 3) := by decide +kernel
theorem dX6_farthest_74 : decode cX6_farthest 74 = .ok (.bipush 100, 2) := by decide +kernel
theorem dX6_farthest_76 : decode cX6_farthest 76 = .ok (.iload_n 1, 1) := by decide +kernel
theorem dX6_farthest_77 : decode cX6_farthest 77 = .ok (.imul, 1) := by decide +kernel
theorem dX6_farthest_78 : decode cX6_farthest 78 = .ok (.iload_n 2, 1) := by decide +kernel
theorem dX6_farthest_79 : decode cX6_farthest 79 = .ok (.iadd, 1) := by decide +kernel
theorem dX6_farthest_80 : decode cX6_farthest 80 = .ok (.ireturn, 1) := by decide +kernel
set_option maxRecDepth 20000 in
theorem ggX6_chain_X3_has : GoodIn wsX6_chain wsX3_has := goodIn_r _ [9, 10, 97, 98, 99, 100, 101] (by decide +kernel) (by decide +kernel)
set_option maxRecDepth 20000 in
theorem gX6_chain_X3_has : GoodIn wsX6_chain (wsV RX6 69 RX3 yX3_has wsX3_has) := goodIn_app (goodIn_of _ (by decide +kernel)) ggX6_chain_X3_has
set_option maxRecDepth 20000 in
theorem ggX6_chain_X4_survey : GoodIn wsX6_chain wsX4_survey := goodIn_r _ [15, 16, 17, 18, 19, 20, 21, 22, 23, 24, 25, 8, 26, 27, 28, 29, 6, 7, 9, 10, 30, 31, 32, 14, 33, 34, 35, 36, 37, 38, 39, 40, 41, 42, 43, 44, 45, 46, 47, 48, 49, 50, 51, 52, 53, 54, 97, 98, 99, 100, 101, 102, 103, 104, 105, 106, 107] (by decide +kernel) (by decide +kernel)
set_option maxRecDepth 20000 in
theorem gX6_chain_X4_survey : GoodIn wsX6_chain (wsV RX6 162 RX4 yX4_survey wsX4_survey) := goodIn_app (goodIn_of _ (by decide +kernel)) ggX6_chain_X4_survey
set_option maxRecDepth 20000 in
theorem ggX6_chain_X4_findChain : GoodIn wsX6_chain wsX4_findChain := goodIn_r _ [58, 17, 59, 60, 61, 62, 63, 14, 64, 21, 65, 47, 36, 48, 66, 67, 68, 69, 22, 18, 70, 71, 72, 73, 74, 75, 76, 77, 78, 79, 80, 81, 82, 83, 84, 85, 86, 87, 102, 103, 104, 105, 106, 107, 95, 96] (by decide +kernel) (by decide +kernel)
set_option maxRecDepth 20000 in
theorem gX6_chain_X4_findChain : GoodIn wsX6_chain (wsV RX6 166 RX4 yX4_findChain wsX4_findChain) := goodIn_app (goodIn_of _ (by decide +kernel)) ggX6_chain_X4_findChain
theorem dX6_chain_0 : decode cX6_chain 0 = .ok (.aload_n 0, 1) := by decide +kernel
theorem dX6_chain_1 : decode cX6_chain 1 = .ok (.getfield 10, 3) := by decide +kernel
theorem dX6_chain_4 : decode cX6_chain 4 = .ok (.iload_n 1, 1) := by decide +kernel
theorem dX6_chain_5 : decode cX6_chain 5 = .ok (.invokevirtual 69, 3) := by decide +kernel
theorem dX6_chain_8 : decode cX6_chain 8 = .ok (.ifCond .eq 14, 3) := by decide +kernel
theorem dX6_chain_11 : decode cX6_chain 11 = .ok (.aload_n 0, 1) := by decide +kernel
theorem dX6_chain_12 : decode cX6_chain 12 = .ok (.getfield 10, 3) := by decide +kernel
theorem dX6_chain_15 : decode cX6_chain 15 = .ok (.iload_n 2, 1) := by decide +kernel
theorem dX6_chain_16 : decode cX6_chain 16 = .ok (.invokevirtual 69, 3) := by decide +kernel
theorem dX6_chain_19 : decode cX6_chain 19 = .ok (.ifCond .ne 6, 3) := by decide +kernel
theorem dX6_chain_22 : decode cX6_chain 22 = .ok (.bipush (-2), 2) := by decide +kernel
theorem dX6_chain_24 : decode cX6_chain 24 = .ok (.ireturn, 1) := by decide +kernel
theorem dX6_chain_25 : decode cX6_chain 25 = .ok (.aload_n 0, 1) := by decide +kernel
theorem dX6_chain_26 : decode cX6_chain 26 = .ok (.getfield 43, 3) := by decide +kernel
theorem dX6_chain_29 : decode cX6_chain 29 = .ok (.aload_n 0, 1) := by decide +kernel
theorem dX6_chain_30 : decode cX6_chain 30 = .ok (.getfield 10, 3) := by decide +kernel
theorem dX6_chain_33 : decode cX6_chain 33 = .ok (.iconst 0, 1) := by decide +kernel
theorem dX6_chain_34 : decode cX6_chain 34 = .ok (.invokevirtual 162, 3) := by decide +kernel
theorem dX6_chain_37 : decode cX6_chain 37 = .ok (.aload_n 0, 1) := by decide +kernel
theorem dX6_chain_38 : decode cX6_chain 38 = .ok (.getfield 43, 3) := by decide +kernel
theorem dX6_chain_41 : decode cX6_chain 41 = .ok (.iload_n 1, 1) := by decide +kernel
theorem dX6_chain_42 : decode cX6_chain 42 = .ok (.iload_n 2, 1) := by decide +kernel
theorem dX6_chain_43 : decode cX6_chain 43 = .ok (.aload_n 0, 1) := by decide +kernel
theorem dX6_chain_44 : decode cX6_chain 44 = .ok (.getfield 36, 3) := by decide +kernel
theorem dX6_chain_47 : decode cX6_chain 47 = .ok (.invokevirtual 166, 3) := by decide +kernel
theorem dX6_chain_50 : decode cX6_chain 50 = .ok (.ifCond .eq 13, 3) := by decide +kernel
theorem dX6_chain_53 : decode cX6_chain 53 = .ok (.aload_n 0, 1) := by decide +kernel
theorem dX6_chain_54 : decode cX6_chain 54 = .ok (.getfield 36, 3) := by decide +kernel
theorem dX6_chain_57 : decode cX6_chain 57 = .ok (.getfield 170, 3) := by decide +kernel
theorem dX6_chain_60 : decode cX6_chain 60 = .ok (.goto 4, 3) := by decide +kernel
theorem dX6_chain_63 : decode cX6_chain 63 = .ok (.iconst (-1), 1) := by decide +kernel
theorem dX6_chain_64 : decode cX6_chain 64 = .ok (.ireturn, 1) := by decide +kernel
set_option maxRecDepth 20000 in
theorem ggX6_newMasts_X3_has : GoodIn wsX6_newMasts wsX3_has := goodIn_r _ [8, 9, 103, 104, 105, 106, 107] (by decide +kernel) (by decide +kernel)
set_option maxRecDepth 20000 in
theorem gX6_newMasts_X3_has : GoodIn wsX6_newMasts (wsV RX6 69 RX3 yX3_has wsX3_has) := goodIn_app (goodIn_of _ (by decide +kernel)) ggX6_newMasts_X3_has
set_option maxRecDepth 20000 in
theorem ggX6_newMasts_X6_within : GoodIn wsX6_newMasts wsX6_within := goodIn_r _ [13] (by decide +kernel) (by decide +kernel)
set_option maxRecDepth 20000 in
theorem gX6_newMasts_X6_within : GoodIn wsX6_newMasts (va_wsS RX6 54 yX6_within wsX6_within) := goodIn_app (goodIn_of _ (by decide +kernel)) ggX6_newMasts_X6_within
set_option maxRecDepth 20000 in
theorem ggX6_newMasts_X4_survey : GoodIn wsX6_newMasts wsX4_survey := goodIn_r _ [18, 19, 20, 21, 22, 23, 24, 25, 26, 27, 28, 7, 29, 30, 31, 32, 5, 6, 8, 9, 33, 34, 35, 17, 36, 37, 38, 39, 40, 41, 42, 43, 44, 45, 46, 47, 48, 49, 50, 51, 52, 53, 54, 55, 56, 57, 103, 104, 105, 106, 107, 108, 109, 110, 111, 112, 113] (by decide +kernel) (by decide +kernel)
set_option maxRecDepth 20000 in
theorem gX6_newMasts_X4_survey : GoodIn wsX6_newMasts (wsV RX6 162 RX4 yX4_survey wsX4_survey) := goodIn_app (goodIn_of _ (by decide +kernel)) ggX6_newMasts_X4_survey
set_option maxRecDepth 20000 in
theorem ggX6_newMasts_X4_findChain : GoodIn wsX6_newMasts wsX4_findChain := goodIn_r _ [61, 20, 62, 63, 64, 65, 66, 17, 67, 24, 68, 50, 39, 51, 69, 70, 71, 72, 25, 21, 73, 12, 74, 75, 76, 77, 78, 79, 80, 81, 82, 83, 84, 85, 86, 87, 88, 89, 108, 109, 110, 111, 112, 113, 114, 115] (by decide +kernel) (by decide +kernel)
set_option maxRecDepth 20000 in
theorem gX6_newMasts_X4_findChain : GoodIn wsX6_newMasts (wsV RX6 166 RX4 yX4_findChain wsX4_findChain) := goodIn_app (goodIn_of _ (by decide +kernel)) ggX6_newMasts_X4_findChain
set_option maxRecDepth 20000 in
theorem ggX6_newMasts_X3_withoutMast : GoodIn wsX6_newMasts wsX3_withoutMast := goodIn_r _ [93, 94, 95, 31, 32, 5, 6, 7, 8, 9, 114, 115, 103, 104, 105, 106, 107] (by decide +kernel) (by decide +kernel)
set_option maxRecDepth 20000 in
theorem gX6_newMasts_X3_withoutMast : GoodIn wsX6_newMasts (wsV RX6 171 RX3 yX3_withoutMast wsX3_withoutMast) := goodIn_app (goodIn_of _ (by decide +kernel)) ggX6_newMasts_X3_withoutMast
theorem dX6_newMasts_0 : decode cX6_newMasts 0 = .ok (.aload_n 0, 1) := by decide +kernel
theorem dX6_newMasts_1 : decode cX6_newMasts 1 = .ok (.getfield 10, 3) := by decide +kernel
theorem dX6_newMasts_4 : decode cX6_newMasts 4 = .ok (.iload_n 1, 1) := by decide +kernel
theorem dX6_newMasts_5 : decode cX6_newMasts 5 = .ok (.invokevirtual 69, 3) := by decide +kernel
theorem dX6_newMasts_8 : decode cX6_newMasts 8 = .ok (.ifCond .eq 25, 3) := by decide +kernel
theorem dX6_newMasts_11 : decode cX6_newMasts 11 = .ok (.aload_n 0, 1) := by decide +kernel
theorem dX6_newMasts_12 : decode cX6_newMasts 12 = .ok (.getfield 10, 3) := by decide +kernel
theorem dX6_newMasts_15 : decode cX6_newMasts 15 = .ok (.iload_n 2, 1) := by decide +kernel
theorem dX6_newMasts_16 : decode cX6_newMasts 16 = .ok (.invokevirtual 69, 3) := by decide +kernel
theorem dX6_newMasts_19 : decode cX6_newMasts 19 = .ok (.ifCond .eq 14, 3) := by decide +kernel
theorem dX6_newMasts_22 : decode cX6_newMasts 22 = .ok (.iload_n 3, 1) := by decide +kernel
theorem dX6_newMasts_23 : decode cX6_newMasts 23 = .ok (.iconst 1, 1) := by decide +kernel
theorem dX6_newMasts_24 : decode cX6_newMasts 24 = .ok (.sipush 200, 3) := by decide +kernel
theorem dX6_newMasts_27 : decode cX6_newMasts 27 = .ok (.invokestatic 54, 3) := by decide +kernel
theorem dX6_newMasts_30 : decode cX6_newMasts 30 = .ok (.ifCond .ne 6, 3) := by decide +kernel
theorem dX6_newMasts_33 : decode cX6_newMasts 33 = .ok (.bipush (-2), 2) := by decide +kernel
theorem dX6_newMasts_35 : decode cX6_newMasts 35 = .ok (.ireturn, 1) := by decide +kernel
theorem dX6_newMasts_36 : decode cX6_newMasts 36 = .ok (.aload_n 0, 1) := by decide +kernel
theorem dX6_newMasts_37 : decode cX6_newMasts 37 = .ok (.getfield 43, 3) := by decide +kernel
theorem dX6_newMasts_40 : decode cX6_newMasts 40 = .ok (.aload_n 0, 1) := by decide +kernel
theorem dX6_newMasts_41 : decode cX6_newMasts 41 = .ok (.getfield 10, 3) := by decide +kernel
theorem dX6_newMasts_44 : decode cX6_newMasts 44 = .ok (.iload_n 3, 1) := by decide +kernel
theorem dX6_newMasts_45 : decode cX6_newMasts 45 = .ok (.invokevirtual 162, 3) := by decide +kernel
theorem dX6_newMasts_48 : decode cX6_newMasts 48 = .ok (.aload_n 0, 1) := by decide +kernel
theorem dX6_newMasts_49 : decode cX6_newMasts 49 = .ok (.getfield 43, 3) := by decide +kernel
theorem dX6_newMasts_52 : decode cX6_newMasts 52 = .ok (.iload_n 1, 1) := by decide +kernel
theorem dX6_newMasts_53 : decode cX6_newMasts 53 = .ok (.iload_n 2, 1) := by decide +kernel
theorem dX6_newMasts_54 : decode cX6_newMasts 54 = .ok (.aload_n 0, 1) := by decide +kernel
theorem dX6_newMasts_55 : decode cX6_newMasts 55 = .ok (.getfield 36, 3) := by decide +kernel
theorem dX6_newMasts_58 : decode cX6_newMasts 58 = .ok (.invokevirtual 166, 3) := by decide +kernel
theorem dX6_newMasts_61 : decode cX6_newMasts 61 = .ok (.ifCond .eq 17, 3) := by decide +kernel
theorem dX6_newMasts_64 : decode cX6_newMasts 64 = .ok (.aload_n 0, 1) := by decide +kernel
theorem dX6_newMasts_65 : decode cX6_newMasts 65 = .ok (.getfield 10, 3) := by decide +kernel
theorem dX6_newMasts_68 : decode cX6_newMasts 68 = .ok (.aload_n 0, 1) := by decide +kernel
theorem dX6_newMasts_69 : decode cX6_newMasts 69 = .ok (.getfield 36, 3) := by decide +kernel
theorem dX6_newMasts_72 : decode cX6_newMasts 72 = .ok (.invokevirtual 171, 3) := by decide +kernel
theorem dX6_newMasts_75 : decode cX6_newMasts 75 = .ok (.goto 4, 3) := by decide +kernel
theorem dX6_newMasts_78 : decode cX6_newMasts 78 = .ok (.iconst (-1), 1) := by decide +kernel
theorem dX6_newMasts_79 : decode cX6_newMasts 79 = .ok (.ireturn, 1) := by decide +kernel
set_option maxRecDepth 20000 in
theorem ggX6_vital_X3_has : GoodIn wsX6_vital wsX3_has := goodIn_r _ [9, 10, 99, 100, 101, 102, 103] (by decide +kernel) (by decide +kernel)
set_option maxRecDepth 20000 in
theorem gX6_vital_X3_has : GoodIn wsX6_vital (wsV RX6 69 RX3 yX3_has wsX3_has) := goodIn_app (goodIn_of _ (by decide +kernel)) ggX6_vital_X3_has
set_option maxRecDepth 20000 in
theorem ggX6_vital_X4_survey : GoodIn wsX6_vital wsX4_survey := goodIn_r _ [15, 16, 17, 18, 19, 20, 21, 22, 23, 24, 25, 8, 26, 27, 28, 29, 6, 7, 9, 10, 30, 31, 32, 14, 33, 34, 35, 36, 37, 38, 39, 40, 41, 42, 43, 44, 45, 46, 47, 48, 49, 50, 51, 52, 53, 54, 99, 100, 101, 102, 103, 93, 94, 95, 96, 97, 98] (by decide +kernel) (by decide +kernel)
set_option maxRecDepth 20000 in
theorem gX6_vital_X4_survey : GoodIn wsX6_vital (wsV RX6 162 RX4 yX4_survey wsX4_survey) := goodIn_app (goodIn_of _ (by decide +kernel)) ggX6_vital_X4_survey
set_option maxRecDepth 20000 in
theorem ggX6_vital_X4_join : GoodIn wsX6_vital wsX4_join := goodIn_r _ [58, 59, 60, 61, 14, 62, 17, 22, 63, 64, 65, 93, 94, 95, 96, 97, 98] (by decide +kernel) (by decide +kernel)
set_option maxRecDepth 20000 in
theorem gX6_vital_X4_join : GoodIn wsX6_vital (wsV RX6 178 RX4 yX4_join wsX4_join) := goodIn_app (goodIn_of _ (by decide +kernel)) ggX6_vital_X4_join
set_option maxRecDepth 20000 in
theorem ggX6_vital_X4_notToBeMissed : GoodIn wsX6_vital wsX4_notToBeMissed := goodIn_r _ [69, 17, 18, 63, 64, 65, 70, 56, 57, 14, 58, 59, 60, 61, 62, 22, 93, 94, 95, 96, 97, 98] (by decide +kernel) (by decide +kernel)
set_option maxRecDepth 20000 in
theorem gX6_vital_X4_notToBeMissed : GoodIn wsX6_vital (wsV RX6 181 RX4 yX4_notToBeMissed wsX4_notToBeMissed) := goodIn_app (goodIn_of _ (by decide +kernel)) ggX6_vital_X4_notToBeMissed
set_option maxRecDepth 20000 in
theorem ggX6_vital_X1_keepSet : GoodIn wsX6_vital wsX1_keepSet := goodIn_r _ [75, 76, 77, 78, 74, 79, 80, 63, 64, 65, 81, 82, 83, 84, 85, 104, 105] (by decide +kernel) (by decide +kernel)
set_option maxRecDepth 20000 in
theorem gX6_vital_X1_keepSet : GoodIn wsX6_vital (wsV RX6 184 RX1 yX1_keepSet wsX1_keepSet) := goodIn_app (goodIn_of _ (by decide +kernel)) ggX6_vital_X1_keepSet
theorem dX6_vital_0 : decode cX6_vital 0 = .ok (.aload_n 0, 1) := by decide +kernel
theorem dX6_vital_1 : decode cX6_vital 1 = .ok (.getfield 10, 3) := by decide +kernel
theorem dX6_vital_4 : decode cX6_vital 4 = .ok (.iload_n 1, 1) := by decide +kernel
theorem dX6_vital_5 : decode cX6_vital 5 = .ok (.invokevirtual 69, 3) := by decide +kernel
theorem dX6_vital_8 : decode cX6_vital 8 = .ok (.ifCond .eq 14, 3) := by decide +kernel
theorem dX6_vital_11 : decode cX6_vital 11 = .ok (.aload_n 0, 1) := by decide +kernel
theorem dX6_vital_12 : decode cX6_vital 12 = .ok (.getfield 10, 3) := by decide +kernel
theorem dX6_vital_15 : decode cX6_vital 15 = .ok (.iload_n 2, 1) := by decide +kernel
theorem dX6_vital_16 : decode cX6_vital 16 = .ok (.invokevirtual 69, 3) := by decide +kernel
theorem dX6_vital_19 : decode cX6_vital 19 = .ok (.ifCond .ne 6, 3) := by decide +kernel
theorem dX6_vital_22 : decode cX6_vital 22 = .ok (.bipush (-2), 2) := by decide +kernel
theorem dX6_vital_24 : decode cX6_vital 24 = .ok (.ireturn, 1) := by decide +kernel
theorem dX6_vital_25 : decode cX6_vital 25 = .ok (.aload_n 0, 1) := by decide +kernel
theorem dX6_vital_26 : decode cX6_vital 26 = .ok (.getfield 43, 3) := by decide +kernel
theorem dX6_vital_29 : decode cX6_vital 29 = .ok (.aload_n 0, 1) := by decide +kernel
theorem dX6_vital_30 : decode cX6_vital 30 = .ok (.getfield 10, 3) := by decide +kernel
theorem dX6_vital_33 : decode cX6_vital 33 = .ok (.iconst 0, 1) := by decide +kernel
theorem dX6_vital_34 : decode cX6_vital 34 = .ok (.invokevirtual 162, 3) := by decide +kernel
theorem dX6_vital_37 : decode cX6_vital 37 = .ok (.aload_n 0, 1) := by decide +kernel
theorem dX6_vital_38 : decode cX6_vital 38 = .ok (.getfield 43, 3) := by decide +kernel
theorem dX6_vital_41 : decode cX6_vital 41 = .ok (.iload_n 1, 1) := by decide +kernel
theorem dX6_vital_42 : decode cX6_vital 42 = .ok (.iload_n 2, 1) := by decide +kernel
theorem dX6_vital_43 : decode cX6_vital 43 = .ok (.aload_n 0, 1) := by decide +kernel
theorem dX6_vital_44 : decode cX6_vital 44 = .ok (.getfield 43, 3) := by decide +kernel
theorem dX6_vital_47 : decode cX6_vital 47 = .ok (.getfield 175, 3) := by decide +kernel
theorem dX6_vital_50 : decode cX6_vital 50 = .ok (.invokevirtual 178, 3) := by decide +kernel
theorem dX6_vital_53 : decode cX6_vital 53 = .ok (.ifCond .ne 6, 3) := by decide +kernel
theorem dX6_vital_56 : decode cX6_vital 56 = .ok (.bipush (-3), 2) := by decide +kernel
theorem dX6_vital_58 : decode cX6_vital 58 = .ok (.ireturn, 1) := by decide +kernel
theorem dX6_vital_59 : decode cX6_vital 59 = .ok (.aload_n 0, 1) := by decide +kernel
theorem dX6_vital_60 : decode cX6_vital 60 = .ok (.getfield 43, 3) := by decide +kernel
theorem dX6_vital_63 : decode cX6_vital 63 = .ok (.iload_n 1, 1) := by decide +kernel
theorem dX6_vital_64 : decode cX6_vital 64 = .ok (.iload_n 2, 1) := by decide +kernel
theorem dX6_vital_65 : decode cX6_vital 65 = .ok (.invokevirtual 181, 3) := by decide +kernel
theorem dX6_vital_68 : decode cX6_vital 68 = .ok (.istore_n 3, 1) := by decide +kernel
theorem dX6_vital_69 : decode cX6_vital 69 = .ok (.aload_n 0, 1) := by decide +kernel
theorem dX6_vital_70 : decode cX6_vital 70 = .ok (.getfield 36, 3) := by decide +kernel
theorem dX6_vital_73 : decode cX6_vital 73 = .ok (.iload_n 3, 1) := by decide +kernel
theorem dX6_vital_74 : decode cX6_vital 74 = .ok (.invokevirtual 184, 3) := by decide +kernel
theorem dX6_vital_77 : decode cX6_vital 77 = .ok (.iload_n 3, 1) := by decide +kernel
theorem dX6_vital_78 : decode cX6_vital 78 = .ok (.ireturn, 1) := by decide +kernel
theorem dX6_finding_0 : decode cX6_finding 0 = .ok (.iload_n 1, 1) := by decide +kernel
theorem dX6_finding_1 : decode cX6_finding 1 = .ok (.iconst (-1), 1) := by decide +kernel
theorem dX6_finding_2 : decode cX6_finding 2 = .ok (.if_icmp .ge 6, 3) := by decide +kernel
theorem dX6_finding_5 : decode cX6_finding 5 = .ok (.bipush (-2), 2) := by decide +kernel
theorem dX6_finding_7 : decode cX6_finding 7 = .ok (.ireturn, 1) := by decide +kernel
theorem dX6_finding_8 : decode cX6_finding 8 = .ok (.aload_n 0, 1) := by decide +kernel
theorem dX6_finding_9 : decode cX6_finding 9 = .ok (.getfield 36, 3) := by decide +kernel
theorem dX6_finding_12 : decode cX6_finding 12 = .ok (.getfield 170, 3) := by decide +kernel
theorem dX6_finding_15 : decode cX6_finding 15 = .ok (.iconst (-1), 1) := by decide +kernel
theorem dX6_finding_16 : decode cX6_finding 16 = .ok (.if_icmp .ne 6, 3) := by decide +kernel
theorem dX6_finding_19 : decode cX6_finding 19 = .ok (.bipush (-3), 2) := by decide +kernel
theorem dX6_finding_21 : decode cX6_finding 21 = .ok (.ireturn, 1) := by decide +kernel
theorem dX6_finding_22 : decode cX6_finding 22 = .ok (.iload_n 1, 1) := by decide +kernel
theorem dX6_finding_23 : decode cX6_finding 23 = .ok (.iconst (-1), 1) := by decide +kernel
theorem dX6_finding_24 : decode cX6_finding 24 = .ok (.if_icmp .ne 11, 3) := by decide +kernel
theorem dX6_finding_27 : decode cX6_finding 27 = .ok (.aload_n 0, 1) := by decide +kernel
theorem dX6_finding_28 : decode cX6_finding 28 = .ok (.getfield 36, 3) := by decide +kernel
theorem dX6_finding_31 : decode cX6_finding 31 = .ok (.getfield 170, 3) := by decide +kernel
theorem dX6_finding_34 : decode cX6_finding 34 = .ok (.ireturn, 1) := by decide +kernel
theorem dX6_finding_35 : decode cX6_finding 35 = .ok (.iload_n 1, 1) := by decide +kernel
theorem dX6_finding_36 : decode cX6_finding 36 = .ok (.aload_n 0, 1) := by decide +kernel
theorem dX6_finding_37 : decode cX6_finding 37 = .ok (.getfield 36, 3) := by decide +kernel
theorem dX6_finding_40 : decode cX6_finding 40 = .ok (.getfield 170, 3) := by decide +kernel
theorem dX6_finding_43 : decode cX6_finding 43 = .ok (.if_icmp .ge 15, 3) := by decide +kernel
theorem dX6_finding_46 : decode cX6_finding 46 = .ok (.aload_n 0, 1) := by decide +kernel
theorem dX6_finding_47 : decode cX6_finding 47 = .ok (.getfield 36, 3) := by decide +kernel
theorem dX6_finding_50 : decode cX6_finding 50 = .ok (.getfield 188, 3) := by decide +kernel
theorem dX6_finding_53 : decode cX6_finding 53 = .ok (.iload_n 1, 1) := by decide +kernel
theorem dX6_finding_54 : decode cX6_finding 54 = .ok (.iaload, 1) := by decide +kernel
theorem dX6_finding_55 : decode cX6_finding 55 = .ok (.goto 4, 3) := by decide +kernel
theorem dX6_finding_58 : decode cX6_finding 58 = .ok (.iconst (-1), 1) := by decide +kernel
theorem dX6_finding_59 : decode cX6_finding 59 = .ok (.ireturn, 1) := by decide +kernel
set_option maxRecDepth 20000 in
theorem ggX6_groups_X4_survey : GoodIn wsX6_groups wsX4_survey := goodIn_r _ [7, 8, 9, 10, 11, 12, 13, 14, 15, 16, 17, 18, 19, 20, 21, 22, 23, 24, 25, 26, 27, 28, 29, 6, 30, 31, 32, 33, 34, 35, 36, 37, 38, 39, 40, 41, 42, 43, 44, 45, 46, 47, 48, 49, 50, 51, 70, 71, 72, 73, 74, 75, 76, 77, 78, 79, 80] (by decide +kernel) (by decide +kernel)
set_option maxRecDepth 20000 in
theorem gX6_groups_X4_survey : GoodIn wsX6_groups (wsV RX6 162 RX4 yX4_survey wsX4_survey) := goodIn_app (goodIn_of _ (by decide +kernel)) ggX6_groups_X4_survey
set_option maxRecDepth 20000 in
theorem ggX6_groups_X4_countGroups : GoodIn wsX6_groups wsX4_countGroups := goodIn_r _ [55, 9, 56, 57, 58, 59, 60, 61, 6, 62, 14, 75, 76, 77, 78, 79, 80] (by decide +kernel) (by decide +kernel)
set_option maxRecDepth 20000 in
theorem gX6_groups_X4_countGroups : GoodIn wsX6_groups (wsV RX6 190 RX4 yX4_countGroups wsX4_countGroups) := goodIn_app (goodIn_of _ (by decide +kernel)) ggX6_groups_X4_countGroups
theorem dX6_groups_0 : decode cX6_groups 0 = .ok (.aload_n 0, 1) := by decide +kernel
theorem dX6_groups_1 : decode cX6_groups 1 = .ok (.getfield 43, 3) := by decide +kernel
theorem dX6_groups_4 : decode cX6_groups 4 = .ok (.aload_n 0, 1) := by decide +kernel
theorem dX6_groups_5 : decode cX6_groups 5 = .ok (.getfield 10, 3) := by decide +kernel
theorem dX6_groups_8 : decode cX6_groups 8 = .ok (.iconst 0, 1) := by decide +kernel
theorem dX6_groups_9 : decode cX6_groups 9 = .ok (.invokevirtual 162, 3) := by decide +kernel
theorem dX6_groups_12 : decode cX6_groups 12 = .ok (.aload_n 0, 1) := by decide +kernel
theorem dX6_groups_13 : decode cX6_groups 13 = .ok (.getfield 43, 3) := by decide +kernel
theorem dX6_groups_16 : decode cX6_groups 16 = .ok (.invokevirtual 190, 3) := by decide +kernel
theorem dX6_groups_19 : decode cX6_groups 19 = .ok (.ireturn, 1) := by decide +kernel
set_option maxRecDepth 20000 in
theorem ggX6_watch_X6_within : GoodIn wsX6_watch wsX6_within := goodIn_r _ [7] (by decide +kernel) (by decide +kernel)
set_option maxRecDepth 20000 in
theorem gX6_watch_X6_within : GoodIn wsX6_watch (va_wsS RX6 54 yX6_within wsX6_within) := goodIn_app (goodIn_of _ (by decide +kernel)) ggX6_watch_X6_within
set_option maxRecDepth 20000 in
theorem ggX6_watch_X0_find : GoodIn wsX6_watch wsX0_find := goodIn_r _ [12, 13, 14, 15, 16, 17, 18, 19, 20, 21, 22, 23, 24, 25, 26, 27, 28, 29, 30, 31, 32, 33, 34, 35, 36, 37, 38, 39, 40, 41, 42, 43, 44, 45, 46, 47, 48, 49, 50, 51, 52, 11, 53, 78, 79, 80, 81, 82, 83, 84] (by decide +kernel) (by decide +kernel)
set_option maxRecDepth 20000 in
theorem gX6_watch_X0_find : GoodIn wsX6_watch (wsV RX6 193 RX0 yX0_find wsX0_find) := goodIn_app (goodIn_of _ (by decide +kernel)) ggX6_watch_X0_find
set_option maxRecDepth 20000 in
theorem ggX6_watch_X1_keepSet : GoodIn wsX6_watch wsX1_keepSet := goodIn_r _ [58, 59, 60, 61, 57, 62, 63, 64, 6, 65, 66, 67, 68, 69, 70, 85, 86] (by decide +kernel) (by decide +kernel)
set_option maxRecDepth 20000 in
theorem gX6_watch_X1_keepSet : GoodIn wsX6_watch (wsV RX6 184 RX1 yX1_keepSet wsX1_keepSet) := goodIn_app (goodIn_of _ (by decide +kernel)) ggX6_watch_X1_keepSet
theorem dX6_watch_0 : decode cX6_watch 0 = .ok (.iload_n 1, 1) := by decide +kernel
theorem dX6_watch_1 : decode cX6_watch 1 = .ok (.iconst 1, 1) := by decide +kernel
theorem dX6_watch_2 : decode cX6_watch 2 = .ok (.sipush 200, 3) := by decide +kernel
theorem dX6_watch_5 : decode cX6_watch 5 = .ok (.invokestatic 54, 3) := by decide +kernel
theorem dX6_watch_8 : decode cX6_watch 8 = .ok (.ifCond .ne 6, 3) := by decide +kernel
theorem dX6_watch_11 : decode cX6_watch 11 = .ok (.bipush (-2), 2) := by decide +kernel
theorem dX6_watch_13 : decode cX6_watch 13 = .ok (.ireturn, 1) := by decide +kernel
theorem dX6_watch_14 : decode cX6_watch 14 = .ok (.aload_n 0, 1) := by decide +kernel
theorem dX6_watch_15 : decode cX6_watch 15 = .ok (.getfield 50, 3) := by decide +kernel
theorem dX6_watch_18 : decode cX6_watch 18 = .ok (.aload_n 0, 1) := by decide +kernel
theorem dX6_watch_19 : decode cX6_watch 19 = .ok (.getfield 10, 3) := by decide +kernel
theorem dX6_watch_22 : decode cX6_watch 22 = .ok (.iload_n 1, 1) := by decide +kernel
theorem dX6_watch_23 : decode cX6_watch 23 = .ok (.invokevirtual 193, 3) := by decide +kernel
theorem dX6_watch_26 : decode cX6_watch 26 = .ok (.istore_n 2, 1) := by decide +kernel
theorem dX6_watch_27 : decode cX6_watch 27 = .ok (.aload_n 0, 1) := by decide +kernel
theorem dX6_watch_28 : decode cX6_watch 28 = .ok (.getfield 36, 3) := by decide +kernel
theorem dX6_watch_31 : decode cX6_watch 31 = .ok (.iload_n 2, 1) := by decide +kernel
theorem dX6_watch_32 : decode cX6_watch 32 = .ok (.invokevirtual 184, 3) := by decide +kernel
theorem dX6_watch_35 : decode cX6_watch 35 = .ok (.iload_n 2, 1) := by decide +kernel
theorem dX6_watch_36 : decode cX6_watch 36 = .ok (.ireturn, 1) := by decide +kernel
set_option maxRecDepth 20000 in
theorem ggX6_watched_X3_all : GoodIn wsX6_watched wsX3_all := goodIn_r _ [7, 8, 60, 61, 62, 63, 64] (by decide +kernel) (by decide +kernel)
set_option maxRecDepth 20000 in
theorem gX6_watched_X3_all : GoodIn wsX6_watched (wsV RX6 152 RX3 yX3_all wsX3_all) := goodIn_app (goodIn_of _ (by decide +kernel)) ggX6_watched_X3_all
set_option maxRecDepth 20000 in
theorem ggX6_watched_X6_holds : GoodIn wsX6_watched wsX6_holds := goodIn_r _ [12] (by decide +kernel) (by decide +kernel)
set_option maxRecDepth 20000 in
theorem gX6_watched_X6_holds : GoodIn wsX6_watched (va_wsS RX6 197 yX6_holds wsX6_holds) := goodIn_app (goodIn_of _ (by decide +kernel)) ggX6_watched_X6_holds
set_option maxRecDepth 20000 in
theorem ggX6_watched_X3_topOf : GoodIn wsX6_watched wsX3_topOf := goodIn_r _ [16, 17, 18, 19, 20, 21, 6, 22, 8, 60, 61, 62, 63, 64] (by decide +kernel) (by decide +kernel)
set_option maxRecDepth 20000 in
theorem gX6_watched_X3_topOf : GoodIn wsX6_watched (wsV RX6 118 RX3 yX3_topOf wsX3_topOf) := goodIn_app (goodIn_of _ (by decide +kernel)) ggX6_watched_X3_topOf
set_option maxRecDepth 20000 in
theorem ggX6_watched_X3_groundsSeen : GoodIn wsX6_watched wsX3_groundsSeen := goodIn_r _ [26, 8, 17, 27, 28, 29, 6, 30, 31, 32, 33, 34, 35, 36, 37, 38, 39, 40, 41, 42, 43, 44, 45, 19, 20, 21, 22, 60, 61, 62, 63, 64] (by decide +kernel) (by decide +kernel)
set_option maxRecDepth 20000 in
theorem gX6_watched_X3_groundsSeen : GoodIn wsX6_watched (wsV RX6 125 RX3 yX3_groundsSeen wsX3_groundsSeen) := goodIn_app (goodIn_of _ (by decide +kernel)) ggX6_watched_X3_groundsSeen
set_option maxRecDepth 20000 in
theorem ggX6_watched_J6_bitCount_0f7a4 : GoodIn wsX6_watched wsJ6_bitCount_0f7a4 := goodIn_r _ [49, 50, 51, 52] (by decide +kernel) (by decide +kernel)
set_option maxRecDepth 20000 in
theorem gX6_watched_J6_bitCount_0f7a4 : GoodIn wsX6_watched (va_wsS RX6 200 yJ6_bitCount_0f7a4 wsJ6_bitCount_0f7a4) := goodIn_app (goodIn_of _ (by decide +kernel)) ggX6_watched_J6_bitCount_0f7a4
theorem dX6_watched_0 : decode cX6_watched 0 = .ok (.iload_n 1, 1) := by decide +kernel
theorem dX6_watched_1 : decode cX6_watched 1 = .ok (.aload_n 0, 1) := by decide +kernel
theorem dX6_watched_2 : decode cX6_watched 2 = .ok (.getfield 10, 3) := by decide +kernel
theorem dX6_watched_5 : decode cX6_watched 5 = .ok (.invokevirtual 152, 3) := by decide +kernel
theorem dX6_watched_8 : decode cX6_watched 8 = .ok (.iconst (-1), 1) := by decide +kernel
theorem dX6_watched_9 : decode cX6_watched 9 = .ok (.ixor, 1) := by decide +kernel
theorem dX6_watched_10 : decode cX6_watched 10 = .ok (.iand, 1) := by decide +kernel
theorem dX6_watched_11 : decode cX6_watched 11 = .ok (.ifCond .eq 6, 3) := by decide +kernel
theorem dX6_watched_14 : decode cX6_watched 14 = .ok (.bipush (-2), 2) := by decide +kernel
theorem dX6_watched_16 : decode cX6_watched 16 = .ok (.ireturn, 1) := by decide +kernel
theorem dX6_watched_17 : decode cX6_watched 17 = .ok (.iconst 0, 1) := by decide +kernel
theorem dX6_watched_18 : decode cX6_watched 18 = .ok (.istore_n 2, 1) := by decide +kernel
theorem dX6_watched_19 : decode cX6_watched 19 = .ok (.iconst 0, 1) := by decide +kernel
theorem dX6_watched_20 : decode cX6_watched 20 = .ok (.istore_n 3, 1) := by decide +kernel
theorem dX6_watched_21 : decode cX6_watched 21 = .ok (.iload_n 3, 1) := by decide +kernel
theorem dX6_watched_22 : decode cX6_watched 22 = .ok (.aload_n 0, 1) := by decide +kernel
theorem dX6_watched_23 : decode cX6_watched 23 = .ok (.getfield 10, 3) := by decide +kernel
theorem dX6_watched_26 : decode cX6_watched 26 = .ok (.getfield 115, 3) := by decide +kernel
theorem dX6_watched_29 : decode cX6_watched 29 = .ok (.if_icmp .ge 36, 3) := by decide +kernel
theorem dX6_watched_32 : decode cX6_watched 32 = .ok (.iload_n 1, 1) := by decide +kernel
theorem dX6_watched_33 : decode cX6_watched 33 = .ok (.iload_n 3, 1) := by decide +kernel
theorem dX6_watched_34 : decode cX6_watched 34 = .ok (.invokestatic 197, 3) := by decide +kernel
theorem dX6_watched_37 : decode cX6_watched 37 = .ok (.ifCond .eq 22, 3) := by decide +kernel
theorem dX6_watched_40 : decode cX6_watched 40 = .ok (.iload_n 2, 1) := by decide +kernel
theorem dX6_watched_41 : decode cX6_watched 41 = .ok (.aload_n 0, 1) := by decide +kernel
theorem dX6_watched_42 : decode cX6_watched 42 = .ok (.getfield 10, 3) := by decide +kernel
theorem dX6_watched_45 : decode cX6_watched 45 = .ok (.iload_n 3, 1) := by decide +kernel
theorem dX6_watched_46 : decode cX6_watched 46 = .ok (.aload_n 0, 1) := by decide +kernel
theorem dX6_watched_47 : decode cX6_watched 47 = .ok (.getfield 10, 3) := by decide +kernel
theorem dX6_watched_50 : decode cX6_watched 50 = .ok (.iload_n 3, 1) := by decide +kernel
theorem dX6_watched_51 : decode cX6_watched 51 = .ok (.invokevirtual 118, 3) := by decide +kernel
theorem dX6_watched_54 : decode cX6_watched 54 = .ok (.invokevirtual 125, 3) := by decide +kernel
theorem dX6_watched_57 : decode cX6_watched 57 = .ok (.ior, 1) := by decide +kernel
theorem dX6_watched_58 : decode cX6_watched 58 = .ok (.istore_n 2, 1) := by decide +kernel
theorem dX6_watched_59 : decode cX6_watched 59 = .ok (.iinc 3 1, 3) := by decide +kernel
theorem dX6_watched_62 : decode cX6_watched 62 = .ok (.goto (-41), 3) := by decide +kernel
theorem dX6_watched_65 : decode cX6_watched 65 = .ok (.iload_n 2, 1) := by decide +kernel
theorem dX6_watched_66 : decode cX6_watched 66 = .ok (.invokestatic 200, 3) := by decide +kernel
theorem dX6_watched_69 : decode cX6_watched 69 = .ok (.ireturn, 1) := by decide +kernel
set_option maxRecDepth 20000 in
theorem ggX6_count_X3_countMasts : GoodIn wsX6_count wsX3_countMasts := goodIn_r _ [13, 14, 15, 63, 64, 65, 66, 67] (by decide +kernel) (by decide +kernel)
set_option maxRecDepth 20000 in
theorem gX6_count_X3_countMasts : GoodIn wsX6_count (wsV RX6 205 RX3 yX3_countMasts wsX3_countMasts) := goodIn_app (goodIn_of _ (by decide +kernel)) ggX6_count_X3_countMasts
set_option maxRecDepth 20000 in
theorem ggX6_count_X3_pairsWithin : GoodIn wsX6_count wsX3_pairsWithin := goodIn_r _ [19, 14, 20, 21, 22, 12, 23, 24, 25, 26, 27, 28, 15, 29, 30, 31, 32, 33, 34, 35, 36, 37, 38, 39, 40, 41, 42, 43, 44, 45, 46, 47, 48, 49, 50, 51, 63, 64, 65, 66, 67] (by decide +kernel) (by decide +kernel)
set_option maxRecDepth 20000 in
theorem gX6_count_X3_pairsWithin : GoodIn wsX6_count (wsV RX6 208 RX3 yX3_pairsWithin wsX3_pairsWithin) := goodIn_app (goodIn_of _ (by decide +kernel)) ggX6_count_X3_pairsWithin
set_option maxRecDepth 20000 in
theorem ggX6_count_X3_sumOfMasts : GoodIn wsX6_count wsX3_sumOfMasts := goodIn_r _ [55, 14, 15, 63, 64, 65, 66, 67] (by decide +kernel) (by decide +kernel)
set_option maxRecDepth 20000 in
theorem gX6_count_X3_sumOfMasts : GoodIn wsX6_count (wsV RX6 211 RX3 yX3_sumOfMasts wsX3_sumOfMasts) := goodIn_app (goodIn_of _ (by decide +kernel)) ggX6_count_X3_sumOfMasts
theorem dX6_count_0 : decode cX6_count 0 = .ok (.iload_n 1, 1) := by decide +kernel
theorem dX6_count_1 : decode cX6_count 1 = .ok (.tableswitch 132 0 8 #[51, 59, 67, 75, 83, 93, 108, 116, 124], 51) := by decide +kernel
theorem dX6_count_52 : decode cX6_count 52 = .ok (.aload_n 0, 1) := by decide +kernel
theorem dX6_count_53 : decode cX6_count 53 = .ok (.getfield 10, 3) := by decide +kernel
theorem dX6_count_56 : decode cX6_count 56 = .ok (.getfield 115, 3) := by decide +kernel
theorem dX6_count_59 : decode cX6_count 59 = .ok (.ireturn, 1) := by decide +kernel
theorem dX6_count_60 : decode cX6_count 60 = .ok (.aload_n 0, 1) := by decide +kernel
theorem dX6_count_61 : decode cX6_count 61 = .ok (.getfield 10, 3) := by decide +kernel
theorem dX6_count_64 : decode cX6_count 64 = .ok (.invokevirtual 205, 3) := by decide +kernel
theorem dX6_count_67 : decode cX6_count 67 = .ok (.ireturn, 1) := by decide +kernel
theorem dX6_count_68 : decode cX6_count 68 = .ok (.aload_n 0, 1) := by decide +kernel
theorem dX6_count_69 : decode cX6_count 69 = .ok (.getfield 10, 3) := by decide +kernel
theorem dX6_count_72 : decode cX6_count 72 = .ok (.getfield 91, 3) := by decide +kernel
theorem dX6_count_75 : decode cX6_count 75 = .ok (.ireturn, 1) := by decide +kernel
theorem dX6_count_76 : decode cX6_count 76 = .ok (.aload_n 0, 1) := by decide +kernel
theorem dX6_count_77 : decode cX6_count 77 = .ok (.getfield 10, 3) := by decide +kernel
theorem dX6_count_80 : decode cX6_count 80 = .ok (.getfield 95, 3) := by decide +kernel
theorem dX6_count_83 : decode cX6_count 83 = .ok (.ireturn, 1) := by decide +kernel
theorem dX6_count_84 : decode cX6_count 84 = .ok (.aload_n 0, 1) := by decide +kernel
theorem dX6_count_85 : decode cX6_count 85 = .ok (.getfield 10, 3) := by decide +kernel
theorem dX6_count_88 : decode cX6_count 88 = .ok (.bipush 19, 2) := by decide +kernel
theorem dX6_count_90 : decode cX6_count 90 = .ok (.invokevirtual 208, 3) := by decide +kernel
theorem dX6_count_93 : decode cX6_count 93 = .ok (.ireturn, 1) := by decide +kernel
theorem dX6_count_94 : decode cX6_count 94 = .ok (.aload_n 0, 1) := by decide +kernel
theorem dX6_count_95 : decode cX6_count 95 = .ok (.getfield 10, 3) := by decide +kernel
theorem dX6_count_98 : decode cX6_count 98 = .ok (.aload_n 0, 1) := by decide +kernel
theorem dX6_count_99 : decode cX6_count 99 = .ok (.getfield 10, 3) := by decide +kernel
theorem dX6_count_102 : decode cX6_count 102 = .ok (.getfield 91, 3) := by decide +kernel
theorem dX6_count_105 : decode cX6_count 105 = .ok (.invokevirtual 208, 3) := by decide +kernel
theorem dX6_count_108 : decode cX6_count 108 = .ok (.ireturn, 1) := by decide +kernel
theorem dX6_count_109 : decode cX6_count 109 = .ok (.aload_n 0, 1) := by decide +kernel
theorem dX6_count_110 : decode cX6_count 110 = .ok (.getfield 22, 3) := by decide +kernel
theorem dX6_count_113 : decode cX6_count 113 = .ok (.getfield 98, 3) := by decide +kernel
theorem dX6_count_116 : decode cX6_count 116 = .ok (.ireturn, 1) := by decide +kernel
theorem dX6_count_117 : decode cX6_count 117 = .ok (.aload_n 0, 1) := by decide +kernel
theorem dX6_count_118 : decode cX6_count 118 = .ok (.getfield 29, 3) := by decide +kernel
theorem dX6_count_121 : decode cX6_count 121 = .ok (.getfield 106, 3) := by decide +kernel
theorem dX6_count_124 : decode cX6_count 124 = .ok (.ireturn, 1) := by decide +kernel
theorem dX6_count_125 : decode cX6_count 125 = .ok (.aload_n 0, 1) := by decide +kernel
theorem dX6_count_126 : decode cX6_count 126 = .ok (.getfield 10, 3) := by decide +kernel
theorem dX6_count_129 : decode cX6_count 129 = .ok (.invokevirtual 211, 3) := by decide +kernel
theorem dX6_count_132 : decode cX6_count 132 = .ok (.ireturn, 1) := by decide +kernel
theorem dX6_count_133 : decode cX6_count 133 = .ok (.bipush (-2), 2) := by decide +kernel
theorem dX6_count_135 : decode cX6_count 135 = .ok (.ireturn, 1) := by decide +kernel
set_option maxRecDepth 20000 in
theorem ggX6_digest_X6_count : GoodIn wsX6_digest wsX6_count := goodIn_r _ [15, 3, 4, 16, 17, 18, 19, 8, 9, 20, 21, 22, 23, 24, 25, 26, 27, 28, 29, 30, 31, 32, 33, 34, 35, 36, 37, 38, 39, 40, 41, 42, 43, 44, 45, 46, 47, 48, 49, 50, 51, 52, 53, 54, 55, 56, 57, 58, 59, 60, 61, 62, 63, 64, 65, 66, 132, 133, 134, 135, 136, 137, 138, 139, 140, 141, 142, 143, 150, 151, 152, 146, 147, 148, 149] (by decide +kernel) (by decide +kernel)
set_option maxRecDepth 20000 in
theorem gX6_digest_X6_count : GoodIn wsX6_digest (wsV RX6 218 RX6 yX6_count wsX6_count) := goodIn_app (goodIn_of _ (by decide +kernel)) ggX6_digest_X6_count
set_option maxRecDepth 20000 in
theorem ggX6_digest_X6_station : GoodIn wsX6_digest wsX6_station := goodIn_r _ [70, 3, 71, 72, 73, 41, 42, 23, 43, 25, 74, 36, 37, 38, 39, 26, 40, 75, 76, 77, 78, 79, 80, 81, 82, 59, 60, 50, 61, 83, 35, 44, 45, 46, 47, 48, 49, 51, 52, 53, 54, 55, 56, 57, 58, 62, 84, 85, 86, 87, 88, 89, 90, 91, 132, 133, 134, 135, 136, 137, 138, 139, 140, 141, 142, 143] (by decide +kernel) (by decide +kernel)
set_option maxRecDepth 20000 in
theorem gX6_digest_X6_station : GoodIn wsX6_digest (wsV RX6 221 RX6 yX6_station wsX6_station) := goodIn_app (goodIn_of _ (by decide +kernel)) ggX6_digest_X6_station
set_option maxRecDepth 20000 in
theorem ggX6_digest_X6_groups : GoodIn wsX6_digest wsX6_groups := goodIn_r _ [95, 96, 3, 97, 98, 99, 100, 101, 102, 103, 104, 105, 106, 107, 108, 109, 36, 37, 23, 38, 39, 26, 40, 41, 42, 43, 25, 110, 111, 112, 113, 114, 60, 50, 61, 115, 116, 45, 46, 47, 48, 49, 51, 52, 53, 54, 55, 56, 57, 58, 59, 62, 117, 118, 119, 120, 121, 14, 122, 123, 124, 125, 126, 132, 133, 134, 135, 136, 137, 138, 139, 140, 141, 142, 143, 153, 154, 155, 156, 157, 158] (by decide +kernel) (by decide +kernel)
set_option maxRecDepth 20000 in
theorem gX6_digest_X6_groups : GoodIn wsX6_digest (wsV RX6 224 RX6 yX6_groups wsX6_groups) := goodIn_app (goodIn_of _ (by decide +kernel)) ggX6_digest_X6_groups
set_option maxRecDepth 20000 in
theorem ggX6_digest_X6_farthest : GoodIn wsX6_digest wsX6_farthest := goodIn_r _ [130, 3, 4, 131, 80, 81, 23, 82, 59, 60, 50, 61, 83, 35, 36, 37, 38, 39, 26, 40, 41, 42, 43, 25, 44, 45, 46, 47, 48, 49, 51, 52, 53, 54, 55, 56, 57, 58, 62, 132, 133, 134, 135, 136, 137, 138, 139, 140, 141, 142, 143] (by decide +kernel) (by decide +kernel)
set_option maxRecDepth 20000 in
theorem gX6_digest_X6_farthest : GoodIn wsX6_digest (wsV RX6 227 RX6 yX6_farthest wsX6_farthest) := goodIn_app (goodIn_of _ (by decide +kernel)) ggX6_digest_X6_farthest
theorem dX6_digest_0 : decode cX6_digest 0 = .ok (.ldc2_w 214, 3) := by decide +kernel
theorem dX6_digest_3 : decode cX6_digest 3 = .ok (.lstore_n 1, 1) := by decide +kernel
theorem dX6_digest_4 : decode cX6_digest 4 = .ok (.iconst 0, 1) := by decide +kernel
theorem dX6_digest_5 : decode cX6_digest 5 = .ok (.istore_n 3, 1) := by decide +kernel
theorem dX6_digest_6 : decode cX6_digest 6 = .ok (.iload_n 3, 1) := by decide +kernel
theorem dX6_digest_7 : decode cX6_digest 7 = .ok (.bipush 9, 2) := by decide +kernel
theorem dX6_digest_9 : decode cX6_digest 9 = .ok (.if_icmp .ge 22, 3) := by decide +kernel
theorem dX6_digest_12 : decode cX6_digest 12 = .ok (.ldc2_w 216, 3) := by decide +kernel
theorem dX6_digest_15 : decode cX6_digest 15 = .ok (.lload_n 1, 1) := by decide +kernel
theorem dX6_digest_16 : decode cX6_digest 16 = .ok (.lmul, 1) := by decide +kernel
theorem dX6_digest_17 : decode cX6_digest 17 = .ok (.aload_n 0, 1) := by decide +kernel
theorem dX6_digest_18 : decode cX6_digest 18 = .ok (.iload_n 3, 1) := by decide +kernel
theorem dX6_digest_19 : decode cX6_digest 19 = .ok (.invokevirtual 218, 3) := by decide +kernel
theorem dX6_digest_22 : decode cX6_digest 22 = .ok (.i2l, 1) := by decide +kernel
theorem dX6_digest_23 : decode cX6_digest 23 = .ok (.ladd, 1) := by decide +kernel
theorem dX6_digest_24 : decode cX6_digest 24 = .ok (.lstore_n 1, 1) := by decide +kernel
theorem dX6_digest_25 : decode cX6_digest 25 = .ok (.iinc 3 1, 3) := by decide +kernel
theorem dX6_digest_28 : decode cX6_digest 28 = .ok (.goto (-22), 3) := by decide +kernel
theorem dX6_digest_31 : decode cX6_digest 31 = .ok (.iconst 0, 1) := by decide +kernel
theorem dX6_digest_32 : decode cX6_digest 32 = .ok (.istore_n 3, 1) := by decide +kernel
theorem dX6_digest_33 : decode cX6_digest 33 = .ok (.iload_n 3, 1) := by decide +kernel
theorem dX6_digest_34 : decode cX6_digest 34 = .ok (.aload_n 0, 1) := by decide +kernel
theorem dX6_digest_35 : decode cX6_digest 35 = .ok (.getfield 10, 3) := by decide +kernel
theorem dX6_digest_38 : decode cX6_digest 38 = .ok (.getfield 115, 3) := by decide +kernel
theorem dX6_digest_41 : decode cX6_digest 41 = .ok (.if_icmp .ge 40, 3) := by decide +kernel
theorem dX6_digest_44 : decode cX6_digest 44 = .ok (.iconst 0, 1) := by decide +kernel
theorem dX6_digest_45 : decode cX6_digest 45 = .ok (.istore 4, 2) := by decide +kernel
theorem dX6_digest_47 : decode cX6_digest 47 = .ok (.iload 4, 2) := by decide +kernel
theorem dX6_digest_49 : decode cX6_digest 49 = .ok (.bipush 6, 2) := by decide +kernel
theorem dX6_digest_51 : decode cX6_digest 51 = .ok (.if_icmp .ge 24, 3) := by decide +kernel
theorem dX6_digest_54 : decode cX6_digest 54 = .ok (.ldc2_w 216, 3) := by decide +kernel
theorem dX6_digest_57 : decode cX6_digest 57 = .ok (.lload_n 1, 1) := by decide +kernel
theorem dX6_digest_58 : decode cX6_digest 58 = .ok (.lmul, 1) := by decide +kernel
theorem dX6_digest_59 : decode cX6_digest 59 = .ok (.aload_n 0, 1) := by decide +kernel
theorem dX6_digest_60 : decode cX6_digest 60 = .ok (.iload_n 3, 1) := by decide +kernel
theorem dX6_digest_61 : decode cX6_digest 61 = .ok (.iload 4, 2) := by decide +kernel
theorem dX6_digest_63 : decode cX6_digest 63 = .ok (.invokevirtual 221, 3) := by decide +kernel
theorem dX6_digest_66 : decode cX6_digest 66 = .ok (.i2l, 1) := by decide +kernel
theorem dX6_digest_67 : decode cX6_digest 67 = .ok (.ladd, 1) := by decide +kernel
theorem dX6_digest_68 : decode cX6_digest 68 = .ok (.lstore_n 1, 1) := by decide +kernel
theorem dX6_digest_69 : decode cX6_digest 69 = .ok (.iinc 4 1, 3) := by decide +kernel
theorem dX6_digest_72 : decode cX6_digest 72 = .ok (.goto (-25), 3) := by decide +kernel
theorem dX6_digest_75 : decode cX6_digest 75 = .ok (.iinc 3 1, 3) := by decide +kernel
theorem dX6_digest_78 : decode cX6_digest 78 = .ok (.goto (-45), 3) := by decide +kernel
theorem dX6_digest_81 : decode cX6_digest 81 = .ok (.ldc2_w 216, 3) := by decide +kernel
theorem dX6_digest_84 : decode cX6_digest 84 = .ok (.lload_n 1, 1) := by decide +kernel
theorem dX6_digest_85 : decode cX6_digest 85 = .ok (.lmul, 1) := by decide +kernel
theorem dX6_digest_86 : decode cX6_digest 86 = .ok (.aload_n 0, 1) := by decide +kernel
theorem dX6_digest_87 : decode cX6_digest 87 = .ok (.invokevirtual 224, 3) := by decide +kernel
theorem dX6_digest_90 : decode cX6_digest 90 = .ok (.i2l, 1) := by decide +kernel
theorem dX6_digest_91 : decode cX6_digest 91 = .ok (.ladd, 1) := by decide +kernel
theorem dX6_digest_92 : decode cX6_digest 92 = .ok (.lstore_n 1, 1) := by decide +kernel
theorem dX6_digest_93 : decode cX6_digest 93 = .ok (.ldc2_w 216, 3) := by decide +kernel
theorem dX6_digest_96 : decode cX6_digest 96 = .ok (.lload_n 1, 1) := by decide +kernel
theorem dX6_digest_97 : decode cX6_digest 97 = .ok (.lmul, 1) := by decide +kernel
theorem dX6_digest_98 : decode cX6_digest 98 = .ok (.aload_n 0, 1) := by decide +kernel
theorem dX6_digest_99 : decode cX6_digest 99 = .ok (.invokevirtual 227, 3) := by decide +kernel
theorem dX6_digest_102 : decode cX6_digest 102 = .ok (.i2l, 1) := by decide +kernel
theorem dX6_digest_103 : decode cX6_digest 103 = .ok (.ladd, 1) := by decide +kernel
theorem dX6_digest_104 : decode cX6_digest 104 = .ok (.lstore_n 1, 1) := by decide +kernel
theorem dX6_digest_105 : decode cX6_digest 105 = .ok (.iconst 0, 1) := by decide +kernel
theorem dX6_digest_106 : decode cX6_digest 106 = .ok (.istore_n 3, 1) := by decide +kernel
theorem dX6_digest_107 : decode cX6_digest 107 = .ok (.iload_n 3, 1) := by decide +kernel
theorem dX6_digest_108 : decode cX6_digest 108 = .ok (.aload_n 0, 1) := by decide +kernel
theorem dX6_digest_109 : decode cX6_digest 109 = .ok (.getfield 36, 3) := by decide +kernel
theorem dX6_digest_112 : decode cX6_digest 112 = .ok (.getfield 170, 3) := by decide +kernel
theorem dX6_digest_115 : decode cX6_digest 115 = .ok (.if_icmp .ge 26, 3) := by decide +kernel
theorem dX6_digest_118 : decode cX6_digest 118 = .ok (.ldc2_w 216, 3) := by decide +kernel
theorem dX6_digest_121 : decode cX6_digest 121 = .ok (.lload_n 1, 1) := by decide +kernel
theorem dX6_digest_122 : decode cX6_digest 122 = .ok (.lmul, 1) := by decide +kernel
theorem dX6_digest_123 : decode cX6_digest 123 = .ok (.aload_n 0, 1) := by decide +kernel
theorem dX6_digest_124 : decode cX6_digest 124 = .ok (.getfield 36, 3) := by decide +kernel
theorem dX6_digest_127 : decode cX6_digest 127 = .ok (.getfield 188, 3) := by decide +kernel
theorem dX6_digest_130 : decode cX6_digest 130 = .ok (.iload_n 3, 1) := by decide +kernel
theorem dX6_digest_131 : decode cX6_digest 131 = .ok (.iaload, 1) := by decide +kernel
theorem dX6_digest_132 : decode cX6_digest 132 = .ok (.i2l, 1) := by decide +kernel
theorem dX6_digest_133 : decode cX6_digest 133 = .ok (.ladd, 1) := by decide +kernel
theorem dX6_digest_134 : decode cX6_digest 134 = .ok (.lstore_n 1, 1) := by decide +kernel
theorem dX6_digest_135 : decode cX6_digest 135 = .ok (.iinc 3 1, 3) := by decide +kernel
theorem dX6_digest_138 : decode cX6_digest 138 = .ok (.goto (-31), 3) := by decide +kernel
theorem dX6_digest_141 : decode cX6_digest 141 = .ok (.iconst 0, 1) := by decide +kernel
theorem dX6_digest_142 : decode cX6_digest 142 = .ok (.istore_n 3, 1) := by decide +kernel
theorem dX6_digest_143 : decode cX6_digest 143 = .ok (.iload_n 3, 1) := by decide +kernel
theorem dX6_digest_144 : decode cX6_digest 144 = .ok (.aload_n 0, 1) := by decide +kernel
theorem dX6_digest_145 : decode cX6_digest 145 = .ok (.getfield 29, 3) := by decide +kernel
theorem dX6_digest_148 : decode cX6_digest 148 = .ok (.getfield 106, 3) := by decide +kernel
theorem dX6_digest_151 : decode cX6_digest 151 = .ok (.if_icmp .ge 26, 3) := by decide +kernel
theorem dX6_digest_154 : decode cX6_digest 154 = .ok (.ldc2_w 216, 3) := by decide +kernel
theorem dX6_digest_157 : decode cX6_digest 157 = .ok (.lload_n 1, 1) := by decide +kernel
theorem dX6_digest_158 : decode cX6_digest 158 = .ok (.lmul, 1) := by decide +kernel
theorem dX6_digest_159 : decode cX6_digest 159 = .ok (.aload_n 0, 1) := by decide +kernel
theorem dX6_digest_160 : decode cX6_digest 160 = .ok (.getfield 29, 3) := by decide +kernel
theorem dX6_digest_163 : decode cX6_digest 163 = .ok (.getfield 230, 3) := by decide +kernel
theorem dX6_digest_166 : decode cX6_digest 166 = .ok (.iload_n 3, 1) := by decide +kernel
theorem dX6_digest_167 : decode cX6_digest 167 = .ok (.baload, 1) := by decide +kernel
theorem dX6_digest_168 : decode cX6_digest 168 = .ok (.i2l, 1) := by decide +kernel
theorem dX6_digest_169 : decode cX6_digest 169 = .ok (.ladd, 1) := by decide +kernel
theorem dX6_digest_170 : decode cX6_digest 170 = .ok (.lstore_n 1, 1) := by decide +kernel
theorem dX6_digest_171 : decode cX6_digest 171 = .ok (.iinc 3 1, 3) := by decide +kernel
theorem dX6_digest_174 : decode cX6_digest 174 = .ok (.goto (-31), 3) := by decide +kernel
theorem dX6_digest_177 : decode cX6_digest 177 = .ok (.lload_n 1, 1) := by decide +kernel
theorem dX6_digest_178 : decode cX6_digest 178 = .ok (.lreturn, 1) := by decide +kernel
theorem dX6_within_0 : decode cX6_within 0 = .ok (.iload_n 0, 1) := by decide +kernel
theorem dX6_within_1 : decode cX6_within 1 = .ok (.iload_n 1, 1) := by decide +kernel
theorem dX6_within_2 : decode cX6_within 2 = .ok (.if_icmp .lt 12, 3) := by decide +kernel
theorem dX6_within_5 : decode cX6_within 5 = .ok (.iload_n 0, 1) := by decide +kernel
theorem dX6_within_6 : decode cX6_within 6 = .ok (.iload_n 2, 1) := by decide +kernel
theorem dX6_within_7 : decode cX6_within 7 = .ok (.if_icmp .gt 7, 3) := by decide +kernel
theorem dX6_within_10 : decode cX6_within 10 = .ok (.iconst 1, 1) := by decide +kernel
theorem dX6_within_11 : decode cX6_within 11 = .ok (.goto 4, 3) := by decide +kernel
theorem dX6_within_14 : decode cX6_within 14 = .ok (.iconst 0, 1) := by decide +kernel
theorem dX6_within_15 : decode cX6_within 15 = .ok (.ireturn, 1) := by decide +kernel
theorem dX6_holds_0 : decode cX6_holds 0 = .ok (.iload_n 0, 1) := by decide +kernel
theorem dX6_holds_1 : decode cX6_holds 1 = .ok (.iload_n 1, 1) := by decide +kernel
theorem dX6_holds_2 : decode cX6_holds 2 = .ok (.ishr, 1) := by decide +kernel
theorem dX6_holds_3 : decode cX6_holds 3 = .ok (.iconst 1, 1) := by decide +kernel
theorem dX6_holds_4 : decode cX6_holds 4 = .ok (.iand, 1) := by decide +kernel
theorem dX6_holds_5 : decode cX6_holds 5 = .ok (.iconst 1, 1) := by decide +kernel
theorem dX6_holds_6 : decode cX6_holds 6 = .ok (.if_icmp .ne 7, 3) := by decide +kernel
theorem dX6_holds_9 : decode cX6_holds 9 = .ok (.iconst 1, 1) := by decide +kernel
theorem dX6_holds_10 : decode cX6_holds 10 = .ok (.goto 4, 3) := by decide +kernel
theorem dX6_holds_13 : decode cX6_holds 13 = .ok (.iconst 0, 1) := by decide +kernel
theorem dX6_holds_14 : decode cX6_holds 14 = .ok (.ireturn, 1) := by decide +kernel
set_option maxRecDepth 20000 in
theorem ggX6_nthOf_X6_holds : GoodIn wsX6_nthOf wsX6_holds := goodIn_r _ [4] (by decide +kernel) (by decide +kernel)
set_option maxRecDepth 20000 in
theorem gX6_nthOf_X6_holds : GoodIn wsX6_nthOf (va_wsS RX6 197 yX6_holds wsX6_holds) := goodIn_app (goodIn_of _ (by decide +kernel)) ggX6_nthOf_X6_holds
theorem dX6_nthOf_0 : decode cX6_nthOf 0 = .ok (.iconst 0, 1) := by decide +kernel
theorem dX6_nthOf_1 : decode cX6_nthOf 1 = .ok (.istore_n 2, 1) := by decide +kernel
theorem dX6_nthOf_2 : decode cX6_nthOf 2 = .ok (.iconst 0, 1) := by decide +kernel
theorem dX6_nthOf_3 : decode cX6_nthOf 3 = .ok (.istore_n 3, 1) := by decide +kernel
theorem dX6_nthOf_4 : decode cX6_nthOf 4 = .ok (.iload_n 3, 1) := by decide +kernel
theorem dX6_nthOf_5 : decode cX6_nthOf 5 = .ok (.bipush 20, 2) := by decide +kernel
theorem dX6_nthOf_7 : decode cX6_nthOf 7 = .ok (.if_icmp .ge 27, 3) := by decide +kernel
theorem dX6_nthOf_10 : decode cX6_nthOf 10 = .ok (.iload_n 0, 1) := by decide +kernel
theorem dX6_nthOf_11 : decode cX6_nthOf 11 = .ok (.iload_n 3, 1) := by decide +kernel
theorem dX6_nthOf_12 : decode cX6_nthOf 12 = .ok (.invokestatic 197, 3) := by decide +kernel
theorem dX6_nthOf_15 : decode cX6_nthOf 15 = .ok (.ifCond .eq 13, 3) := by decide +kernel
theorem dX6_nthOf_18 : decode cX6_nthOf 18 = .ok (.iload_n 2, 1) := by decide +kernel
theorem dX6_nthOf_19 : decode cX6_nthOf 19 = .ok (.iload_n 1, 1) := by decide +kernel
theorem dX6_nthOf_20 : decode cX6_nthOf 20 = .ok (.if_icmp .ne 5, 3) := by decide +kernel
theorem dX6_nthOf_23 : decode cX6_nthOf 23 = .ok (.iload_n 3, 1) := by decide +kernel
theorem dX6_nthOf_24 : decode cX6_nthOf 24 = .ok (.ireturn, 1) := by decide +kernel
theorem dX6_nthOf_25 : decode cX6_nthOf 25 = .ok (.iinc 2 1, 3) := by decide +kernel
theorem dX6_nthOf_28 : decode cX6_nthOf 28 = .ok (.iinc 3 1, 3) := by decide +kernel
theorem dX6_nthOf_31 : decode cX6_nthOf 31 = .ok (.goto (-27), 3) := by decide +kernel
theorem dX6_nthOf_34 : decode cX6_nthOf 34 = .ok (.iconst (-1), 1) := by decide +kernel
theorem dX6_nthOf_35 : decode cX6_nthOf 35 = .ok (.ireturn, 1) := by decide +kernel
theorem dJ6_bitCount_0f7a4_0 : decode cJ6_bitCount_0f7a4 0 = .ok (.iload_n 0, 1) := by decide +kernel
theorem dJ6_bitCount_0f7a4_1 : decode cJ6_bitCount_0f7a4 1 = .ok (.iload_n 0, 1) := by decide +kernel
theorem dJ6_bitCount_0f7a4_2 : decode cJ6_bitCount_0f7a4 2 = .ok (.iconst 1, 1) := by decide +kernel
theorem dJ6_bitCount_0f7a4_3 : decode cJ6_bitCount_0f7a4 3 = .ok (.iushr, 1) := by decide +kernel
theorem dJ6_bitCount_0f7a4_4 : decode cJ6_bitCount_0f7a4 4 = .ok (.ldc_w 265, 3) := by decide +kernel
theorem dJ6_bitCount_0f7a4_7 : decode cJ6_bitCount_0f7a4 7 = .ok (.iand, 1) := by decide +kernel
theorem dJ6_bitCount_0f7a4_8 : decode cJ6_bitCount_0f7a4 8 = .ok (.isub, 1) := by decide +kernel
theorem dJ6_bitCount_0f7a4_9 : decode cJ6_bitCount_0f7a4 9 = .ok (.istore_n 0, 1) := by decide +kernel
theorem dJ6_bitCount_0f7a4_10 : decode cJ6_bitCount_0f7a4 10 = .ok (.iload_n 0, 1) := by decide +kernel
theorem dJ6_bitCount_0f7a4_11 : decode cJ6_bitCount_0f7a4 11 = .ok (.ldc_w 266, 3) := by decide +kernel
theorem dJ6_bitCount_0f7a4_14 : decode cJ6_bitCount_0f7a4 14 = .ok (.iand, 1) := by decide +kernel
theorem dJ6_bitCount_0f7a4_15 : decode cJ6_bitCount_0f7a4 15 = .ok (.iload_n 0, 1) := by decide +kernel
theorem dJ6_bitCount_0f7a4_16 : decode cJ6_bitCount_0f7a4 16 = .ok (.iconst 2, 1) := by decide +kernel
theorem dJ6_bitCount_0f7a4_17 : decode cJ6_bitCount_0f7a4 17 = .ok (.iushr, 1) := by decide +kernel
theorem dJ6_bitCount_0f7a4_18 : decode cJ6_bitCount_0f7a4 18 = .ok (.ldc_w 266, 3) := by decide +kernel
theorem dJ6_bitCount_0f7a4_21 : decode cJ6_bitCount_0f7a4 21 = .ok (.iand, 1) := by decide +kernel
theorem dJ6_bitCount_0f7a4_22 : decode cJ6_bitCount_0f7a4 22 = .ok (.iadd, 1) := by decide +kernel
theorem dJ6_bitCount_0f7a4_23 : decode cJ6_bitCount_0f7a4 23 = .ok (.istore_n 0, 1) := by decide +kernel
theorem dJ6_bitCount_0f7a4_24 : decode cJ6_bitCount_0f7a4 24 = .ok (.iload_n 0, 1) := by decide +kernel
theorem dJ6_bitCount_0f7a4_25 : decode cJ6_bitCount_0f7a4 25 = .ok (.iload_n 0, 1) := by decide +kernel
theorem dJ6_bitCount_0f7a4_26 : decode cJ6_bitCount_0f7a4 26 = .ok (.iconst 4, 1) := by decide +kernel
theorem dJ6_bitCount_0f7a4_27 : decode cJ6_bitCount_0f7a4 27 = .ok (.iushr, 1) := by decide +kernel
theorem dJ6_bitCount_0f7a4_28 : decode cJ6_bitCount_0f7a4 28 = .ok (.iadd, 1) := by decide +kernel
theorem dJ6_bitCount_0f7a4_29 : decode cJ6_bitCount_0f7a4 29 = .ok (.ldc_w 267, 3) := by decide +kernel
theorem dJ6_bitCount_0f7a4_32 : decode cJ6_bitCount_0f7a4 32 = .ok (.iand, 1) := by decide +kernel
theorem dJ6_bitCount_0f7a4_33 : decode cJ6_bitCount_0f7a4 33 = .ok (.istore_n 0, 1) := by decide +kernel
theorem dJ6_bitCount_0f7a4_34 : decode cJ6_bitCount_0f7a4 34 = .ok (.iload_n 0, 1) := by decide +kernel
theorem dJ6_bitCount_0f7a4_35 : decode cJ6_bitCount_0f7a4 35 = .ok (.iload_n 0, 1) := by decide +kernel
theorem dJ6_bitCount_0f7a4_36 : decode cJ6_bitCount_0f7a4 36 = .ok (.bipush 8, 2) := by decide +kernel
theorem dJ6_bitCount_0f7a4_38 : decode cJ6_bitCount_0f7a4 38 = .ok (.iushr, 1) := by decide +kernel
theorem dJ6_bitCount_0f7a4_39 : decode cJ6_bitCount_0f7a4 39 = .ok (.iadd, 1) := by decide +kernel
theorem dJ6_bitCount_0f7a4_40 : decode cJ6_bitCount_0f7a4 40 = .ok (.istore_n 0, 1) := by decide +kernel
theorem dJ6_bitCount_0f7a4_41 : decode cJ6_bitCount_0f7a4 41 = .ok (.iload_n 0, 1) := by decide +kernel
theorem dJ6_bitCount_0f7a4_42 : decode cJ6_bitCount_0f7a4 42 = .ok (.iload_n 0, 1) := by decide +kernel
theorem dJ6_bitCount_0f7a4_43 : decode cJ6_bitCount_0f7a4 43 = .ok (.bipush 16, 2) := by decide +kernel
theorem dJ6_bitCount_0f7a4_45 : decode cJ6_bitCount_0f7a4 45 = .ok (.iushr, 1) := by decide +kernel
theorem dJ6_bitCount_0f7a4_46 : decode cJ6_bitCount_0f7a4 46 = .ok (.iadd, 1) := by decide +kernel
theorem dJ6_bitCount_0f7a4_47 : decode cJ6_bitCount_0f7a4 47 = .ok (.istore_n 0, 1) := by decide +kernel
theorem dJ6_bitCount_0f7a4_48 : decode cJ6_bitCount_0f7a4 48 = .ok (.iload_n 0, 1) := by decide +kernel
theorem dJ6_bitCount_0f7a4_49 : decode cJ6_bitCount_0f7a4 49 = .ok (.bipush 63, 2) := by decide +kernel
theorem dJ6_bitCount_0f7a4_51 : decode cJ6_bitCount_0f7a4 51 = .ok (.iand, 1) := by decide +kernel
theorem dJ6_bitCount_0f7a4_52 : decode cJ6_bitCount_0f7a4 52 = .ok (.ireturn, 1) := by decide +kernel
theorem dJ9_abs_0f7a4_0 : decode cJ9_abs_0f7a4 0 = .ok (.iload_n 0, 1) := by decide +kernel
theorem dJ9_abs_0f7a4_1 : decode cJ9_abs_0f7a4 1 = .ok (.ifCond .ge 8, 3) := by decide +kernel
theorem dJ9_abs_0f7a4_4 : decode cJ9_abs_0f7a4 4 = .ok (.iload_n 0, 1) := by decide +kernel
theorem dJ9_abs_0f7a4_5 : decode cJ9_abs_0f7a4 5 = .ok (.ineg, 1) := by decide +kernel
theorem dJ9_abs_0f7a4_6 : decode cJ9_abs_0f7a4 6 = .ok (.goto 4, 3) := by decide +kernel
theorem dJ9_abs_0f7a4_9 : decode cJ9_abs_0f7a4 9 = .ok (.iload_n 0, 1) := by decide +kernel
theorem dJ9_abs_0f7a4_10 : decode cJ9_abs_0f7a4 10 = .ok (.ireturn, 1) := by decide +kernel
theorem dJ9_max_7cf53_0 : decode cJ9_max_7cf53 0 = .ok (.iload_n 0, 1) := by decide +kernel
theorem dJ9_max_7cf53_1 : decode cJ9_max_7cf53 1 = .ok (.iload_n 1, 1) := by decide +kernel
theorem dJ9_max_7cf53_2 : decode cJ9_max_7cf53 2 = .ok (.if_icmp .lt 7, 3) := by decide +kernel
theorem dJ9_max_7cf53_5 : decode cJ9_max_7cf53 5 = .ok (.iload_n 0, 1) := by decide +kernel
theorem dJ9_max_7cf53_6 : decode cJ9_max_7cf53 6 = .ok (.goto 4, 3) := by decide +kernel
theorem dJ9_max_7cf53_9 : decode cJ9_max_7cf53 9 = .ok (.iload_n 1, 1) := by decide +kernel
theorem dJ9_max_7cf53_10 : decode cJ9_max_7cf53 10 = .ok (.ireturn, 1) := by decide +kernel
theorem dJ9_min_7cf53_0 : decode cJ9_min_7cf53 0 = .ok (.iload_n 0, 1) := by decide +kernel
theorem dJ9_min_7cf53_1 : decode cJ9_min_7cf53 1 = .ok (.iload_n 1, 1) := by decide +kernel
theorem dJ9_min_7cf53_2 : decode cJ9_min_7cf53 2 = .ok (.if_icmp .gt 7, 3) := by decide +kernel
theorem dJ9_min_7cf53_5 : decode cJ9_min_7cf53 5 = .ok (.iload_n 0, 1) := by decide +kernel
theorem dJ9_min_7cf53_6 : decode cJ9_min_7cf53 6 = .ok (.goto 4, 3) := by decide +kernel
theorem dJ9_min_7cf53_9 : decode cJ9_min_7cf53 9 = .ok (.iload_n 1, 1) := by decide +kernel
theorem dJ9_min_7cf53_10 : decode cJ9_min_7cf53 10 = .ok (.ireturn, 1) := by decide +kernel
