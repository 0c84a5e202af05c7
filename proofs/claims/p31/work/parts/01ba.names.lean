theorem dX0_init_0 : decode cX0_init 0 = .ok (.aload_n 0, 1) := by decide +kernel
theorem dX0_init_1 : decode cX0_init 1 = .ok (.invokespecial 3, 3) := by decide +kernel
theorem dX0_init_4 : decode cX0_init 4 = .ok (.aload_n 0, 1) := by decide +kernel
theorem dX0_init_5 : decode cX0_init 5 = .ok (.bipush 20, 2) := by decide +kernel
theorem dX0_init_7 : decode cX0_init 7 = .ok (.newarray .int, 2) := by decide +kernel
theorem dX0_init_9 : decode cX0_init 9 = .ok (.putfield 9, 3) := by decide +kernel
theorem dX0_init_12 : decode cX0_init 12 = .ok (.aload_n 0, 1) := by decide +kernel
theorem dX0_init_13 : decode cX0_init 13 = .ok (.bipush 21, 2) := by decide +kernel
theorem dX0_init_15 : decode cX0_init 15 = .ok (.newarray .int, 2) := by decide +kernel
theorem dX0_init_17 : decode cX0_init 17 = .ok (.putfield 15, 3) := by decide +kernel
theorem dX0_init_20 : decode cX0_init 20 = .ok (.return_, 1) := by decide +kernel
theorem dX1_init_0 : decode cX1_init 0 = .ok (.aload_n 0, 1) := by decide +kernel
theorem dX1_init_1 : decode cX1_init 1 = .ok (.invokespecial 3, 3) := by decide +kernel
theorem dX1_init_4 : decode cX1_init 4 = .ok (.aload_n 0, 1) := by decide +kernel
theorem dX1_init_5 : decode cX1_init 5 = .ok (.bipush 20, 2) := by decide +kernel
theorem dX1_init_7 : decode cX1_init 7 = .ok (.newarray .int, 2) := by decide +kernel
theorem dX1_init_9 : decode cX1_init 9 = .ok (.putfield 9, 3) := by decide +kernel
theorem dX1_init_12 : decode cX1_init 12 = .ok (.aload_n 0, 1) := by decide +kernel
theorem dX1_init_13 : decode cX1_init 13 = .ok (.iconst (-1), 1) := by decide +kernel
theorem dX1_init_14 : decode cX1_init 14 = .ok (.putfield 15, 3) := by decide +kernel
theorem dX1_init_17 : decode cX1_init 17 = .ok (.return_, 1) := by decide +kernel
set_option maxRecDepth 20000 in
theorem ggX2_init_X3_init : GoodIn wsX2_init wsX3_init := goodIn_r _ [11, 12, 2, 3, 13, 14, 15, 16, 17, 18, 22, 23, 24, 25, 26] (by decide +kernel) (by decide +kernel)
set_option maxRecDepth 20000 in
theorem gX2_init_X3_init_n24 : GoodIn wsX2_init (wsX3_init) := ggX2_init_X3_init
theorem dX2_init_0 : decode cX2_init 0 = .ok (.aload_n 0, 1) := by decide +kernel
theorem dX2_init_1 : decode cX2_init 1 = .ok (.invokespecial 3, 3) := by decide +kernel
theorem dX2_init_4 : decode cX2_init 4 = .ok (.aload_n 0, 1) := by decide +kernel
theorem dX2_init_5 : decode cX2_init 5 = .ok (.bipush 10, 2) := by decide +kernel
theorem dX2_init_7 : decode cX2_init 7 = .ok (.anewarray 9, 3) := by decide +kernel
theorem dX2_init_10 : decode cX2_init 10 = .ok (.putfield 11, 3) := by decide +kernel
theorem dX2_init_13 : decode cX2_init 13 = .ok (.aload_n 0, 1) := by decide +kernel
theorem dX2_init_14 : decode cX2_init 14 = .ok (.iconst 0, 1) := by decide +kernel
theorem dX2_init_15 : decode cX2_init 15 = .ok (.putfield 17, 3) := by decide +kernel
theorem dX2_init_18 : decode cX2_init 18 = .ok (.aload_n 0, 1) := by decide +kernel
theorem dX2_init_19 : decode cX2_init 19 = .ok (.iconst 0, 1) := by decide +kernel
theorem dX2_init_20 : decode cX2_init 20 = .ok (.putfield 21, 3) := by decide +kernel
theorem dX2_init_23 : decode cX2_init 23 = .ok (.iconst 0, 1) := by decide +kernel
theorem dX2_init_24 : decode cX2_init 24 = .ok (.istore_n 1, 1) := by decide +kernel
theorem dX2_init_25 : decode cX2_init 25 = .ok (.iload_n 1, 1) := by decide +kernel
theorem dX2_init_26 : decode cX2_init 26 = .ok (.bipush 10, 2) := by decide +kernel
theorem dX2_init_28 : decode cX2_init 28 = .ok (.if_icmp .ge 22, 3) := by decide +kernel
theorem dX2_init_31 : decode cX2_init 31 = .ok (.aload_n 0, 1) := by decide +kernel
theorem dX2_init_32 : decode cX2_init 32 = .ok (.getfield 11, 3) := by decide +kernel
theorem dX2_init_35 : decode cX2_init 35 = .ok (.iload_n 1, 1) := by decide +kernel
theorem dX2_init_36 : decode cX2_init 36 = .ok (.new 9, 3) := by decide +kernel
theorem dX2_init_39 : decode cX2_init 39 = .ok (.dup, 1) := by decide +kernel
theorem dX2_init_40 : decode cX2_init 40 = .ok (.invokespecial 24, 3) := by decide +kernel
theorem dX2_init_43 : decode cX2_init 43 = .ok (.aastore, 1) := by decide +kernel
theorem dX2_init_44 : decode cX2_init 44 = .ok (.iinc 1 1, 3) := by decide +kernel
theorem dX2_init_47 : decode cX2_init 47 = .ok (.goto (-22), 3) := by decide +kernel
theorem dX2_init_50 : decode cX2_init 50 = .ok (.return_, 1) := by decide +kernel
set_option maxRecDepth 20000 in
theorem ggX2_keep_X3_copyFrom : GoodIn wsX2_keep wsX3_copyFrom := goodIn_r _ [12, 13, 14, 15, 16, 17, 11, 18, 19, 20, 21, 25, 26, 27, 28, 29] (by decide +kernel) (by decide +kernel)
set_option maxRecDepth 20000 in
theorem gX2_keep_X3_copyFrom : GoodIn wsX2_keep (wsV RX2 25 RX3 yX3_copyFrom wsX3_copyFrom) := goodIn_app (goodIn_of _ (by decide +kernel)) ggX2_keep_X3_copyFrom
theorem dX2_keep_0 : decode cX2_keep 0 = .ok (.aload_n 0, 1) := by decide +kernel
theorem dX2_keep_1 : decode cX2_keep 1 = .ok (.getfield 11, 3) := by decide +kernel
theorem dX2_keep_4 : decode cX2_keep 4 = .ok (.aload_n 0, 1) := by decide +kernel
theorem dX2_keep_5 : decode cX2_keep 5 = .ok (.getfield 21, 3) := by decide +kernel
theorem dX2_keep_8 : decode cX2_keep 8 = .ok (.aaload, 1) := by decide +kernel
theorem dX2_keep_9 : decode cX2_keep 9 = .ok (.aload_n 1, 1) := by decide +kernel
theorem dX2_keep_10 : decode cX2_keep 10 = .ok (.invokevirtual 25, 3) := by decide +kernel
theorem dX2_keep_13 : decode cX2_keep 13 = .ok (.aload_n 0, 1) := by decide +kernel
theorem dX2_keep_14 : decode cX2_keep 14 = .ok (.aload_n 0, 1) := by decide +kernel
theorem dX2_keep_15 : decode cX2_keep 15 = .ok (.getfield 21, 3) := by decide +kernel
theorem dX2_keep_18 : decode cX2_keep 18 = .ok (.bipush 9, 2) := by decide +kernel
theorem dX2_keep_20 : decode cX2_keep 20 = .ok (.if_icmp .ge 12, 3) := by decide +kernel
theorem dX2_keep_23 : decode cX2_keep 23 = .ok (.aload_n 0, 1) := by decide +kernel
theorem dX2_keep_24 : decode cX2_keep 24 = .ok (.getfield 21, 3) := by decide +kernel
theorem dX2_keep_27 : decode cX2_keep 27 = .ok (.iconst 1, 1) := by decide +kernel
theorem dX2_keep_28 : decode cX2_keep 28 = .ok (.iadd, 1) := by decide +kernel
theorem dX2_keep_29 : decode cX2_keep 29 = .ok (.goto 4, 3) := by decide +kernel
theorem dX2_keep_32 : decode cX2_keep 32 = .ok (.iconst 0, 1) := by decide +kernel
theorem dX2_keep_33 : decode cX2_keep 33 = .ok (.putfield 21, 3) := by decide +kernel
theorem dX2_keep_36 : decode cX2_keep 36 = .ok (.aload_n 0, 1) := by decide +kernel
theorem dX2_keep_37 : decode cX2_keep 37 = .ok (.aload_n 0, 1) := by decide +kernel
theorem dX2_keep_38 : decode cX2_keep 38 = .ok (.getfield 17, 3) := by decide +kernel
theorem dX2_keep_41 : decode cX2_keep 41 = .ok (.iconst 1, 1) := by decide +kernel
theorem dX2_keep_42 : decode cX2_keep 42 = .ok (.iadd, 1) := by decide +kernel
theorem dX2_keep_43 : decode cX2_keep 43 = .ok (.bipush 10, 2) := by decide +kernel
theorem dX2_keep_45 : decode cX2_keep 45 = .ok (.invokestatic 29, 3) := by decide +kernel
theorem dX2_keep_48 : decode cX2_keep 48 = .ok (.putfield 17, 3) := by decide +kernel
theorem dX2_keep_51 : decode cX2_keep 51 = .ok (.return_, 1) := by decide +kernel
theorem dX3_init_0 : decode cX3_init 0 = .ok (.aload_n 0, 1) := by decide +kernel
theorem dX3_init_1 : decode cX3_init 1 = .ok (.invokespecial 3, 3) := by decide +kernel
theorem dX3_init_4 : decode cX3_init 4 = .ok (.aload_n 0, 1) := by decide +kernel
theorem dX3_init_5 : decode cX3_init 5 = .ok (.bipush 20, 2) := by decide +kernel
theorem dX3_init_7 : decode cX3_init 7 = .ok (.newarray .int, 2) := by decide +kernel
theorem dX3_init_9 : decode cX3_init 9 = .ok (.putfield 9, 3) := by decide +kernel
theorem dX3_init_12 : decode cX3_init 12 = .ok (.aload_n 0, 1) := by decide +kernel
theorem dX3_init_13 : decode cX3_init 13 = .ok (.bipush 20, 2) := by decide +kernel
theorem dX3_init_15 : decode cX3_init 15 = .ok (.newarray .int, 2) := by decide +kernel
theorem dX3_init_17 : decode cX3_init 17 = .ok (.putfield 15, 3) := by decide +kernel
theorem dX3_init_20 : decode cX3_init 20 = .ok (.aload_n 0, 1) := by decide +kernel
theorem dX3_init_21 : decode cX3_init 21 = .ok (.iconst 2, 1) := by decide +kernel
theorem dX3_init_22 : decode cX3_init 22 = .ok (.putfield 18, 3) := by decide +kernel
theorem dX3_init_25 : decode cX3_init 25 = .ok (.aload_n 0, 1) := by decide +kernel
theorem dX3_init_26 : decode cX3_init 26 = .ok (.bipush 19, 2) := by decide +kernel
theorem dX3_init_28 : decode cX3_init 28 = .ok (.putfield 22, 3) := by decide +kernel
theorem dX3_init_31 : decode cX3_init 31 = .ok (.aload_n 0, 1) := by decide +kernel
theorem dX3_init_32 : decode cX3_init 32 = .ok (.iconst 0, 1) := by decide +kernel
theorem dX3_init_33 : decode cX3_init 33 = .ok (.putfield 25, 3) := by decide +kernel
theorem dX3_init_36 : decode cX3_init 36 = .ok (.return_, 1) := by decide +kernel
theorem dX3_has_0 : decode cX3_has 0 = .ok (.iload_n 1, 1) := by decide +kernel
theorem dX3_has_1 : decode cX3_has 1 = .ok (.ifCond .lt 15, 3) := by decide +kernel
theorem dX3_has_4 : decode cX3_has 4 = .ok (.iload_n 1, 1) := by decide +kernel
theorem dX3_has_5 : decode cX3_has 5 = .ok (.aload_n 0, 1) := by decide +kernel
theorem dX3_has_6 : decode cX3_has 6 = .ok (.getfield 18, 3) := by decide +kernel
theorem dX3_has_9 : decode cX3_has 9 = .ok (.if_icmp .ge 7, 3) := by decide +kernel
theorem dX3_has_12 : decode cX3_has 12 = .ok (.iconst 1, 1) := by decide +kernel
theorem dX3_has_13 : decode cX3_has 13 = .ok (.goto 4, 3) := by decide +kernel
theorem dX3_has_16 : decode cX3_has 16 = .ok (.iconst 0, 1) := by decide +kernel
theorem dX3_has_17 : decode cX3_has 17 = .ok (.ireturn, 1) := by decide +kernel
set_option maxRecDepth 20000 in
theorem ggX3_hasPair_X3_has : GoodIn wsX3_hasPair wsX3_has := goodIn_r _ [5, 6, 7, 8, 9, 10, 11] (by decide +kernel) (by decide +kernel)
set_option maxRecDepth 20000 in
theorem gX3_hasPair_X3_has : GoodIn wsX3_hasPair (wsV RX3 28 RX3 yX3_has wsX3_has) := goodIn_app (goodIn_of _ (by decide +kernel)) ggX3_hasPair_X3_has
theorem dX3_hasPair_0 : decode cX3_hasPair 0 = .ok (.aload_n 0, 1) := by decide +kernel
theorem dX3_hasPair_1 : decode cX3_hasPair 1 = .ok (.iload_n 1, 1) := by decide +kernel
theorem dX3_hasPair_2 : decode cX3_hasPair 2 = .ok (.invokevirtual 28, 3) := by decide +kernel
theorem dX3_hasPair_5 : decode cX3_hasPair 5 = .ok (.ifCond .eq 20, 3) := by decide +kernel
theorem dX3_hasPair_8 : decode cX3_hasPair 8 = .ok (.aload_n 0, 1) := by decide +kernel
theorem dX3_hasPair_9 : decode cX3_hasPair 9 = .ok (.iload_n 2, 1) := by decide +kernel
theorem dX3_hasPair_10 : decode cX3_hasPair 10 = .ok (.invokevirtual 28, 3) := by decide +kernel
theorem dX3_hasPair_13 : decode cX3_hasPair 13 = .ok (.ifCond .eq 12, 3) := by decide +kernel
theorem dX3_hasPair_16 : decode cX3_hasPair 16 = .ok (.iload_n 1, 1) := by decide +kernel
theorem dX3_hasPair_17 : decode cX3_hasPair 17 = .ok (.iload_n 2, 1) := by decide +kernel
theorem dX3_hasPair_18 : decode cX3_hasPair 18 = .ok (.if_icmp .eq 7, 3) := by decide +kernel
theorem dX3_hasPair_21 : decode cX3_hasPair 21 = .ok (.iconst 1, 1) := by decide +kernel
theorem dX3_hasPair_22 : decode cX3_hasPair 22 = .ok (.goto 4, 3) := by decide +kernel
theorem dX3_hasPair_25 : decode cX3_hasPair 25 = .ok (.iconst 0, 1) := by decide +kernel
theorem dX3_hasPair_26 : decode cX3_hasPair 26 = .ok (.ireturn, 1) := by decide +kernel
theorem dX3_all_0 : decode cX3_all 0 = .ok (.iconst 1, 1) := by decide +kernel
theorem dX3_all_1 : decode cX3_all 1 = .ok (.aload_n 0, 1) := by decide +kernel
theorem dX3_all_2 : decode cX3_all 2 = .ok (.getfield 18, 3) := by decide +kernel
theorem dX3_all_5 : decode cX3_all 5 = .ok (.ishl, 1) := by decide +kernel
theorem dX3_all_6 : decode cX3_all 6 = .ok (.iconst 1, 1) := by decide +kernel
theorem dX3_all_7 : decode cX3_all 7 = .ok (.isub, 1) := by decide +kernel
theorem dX3_all_8 : decode cX3_all 8 = .ok (.ireturn, 1) := by decide +kernel
set_option maxRecDepth 20000 in
theorem ggX3_topOf_X3_has : GoodIn wsX3_topOf wsX3_has := goodIn_r _ [7, 8, 9, 10, 11, 12, 13] (by decide +kernel) (by decide +kernel)
set_option maxRecDepth 20000 in
theorem gX3_topOf_X3_has : GoodIn wsX3_topOf (wsV RX3 28 RX3 yX3_has wsX3_has) := goodIn_app (goodIn_of _ (by decide +kernel)) ggX3_topOf_X3_has
theorem dX3_topOf_0 : decode cX3_topOf 0 = .ok (.aload_n 0, 1) := by decide +kernel
theorem dX3_topOf_1 : decode cX3_topOf 1 = .ok (.iload_n 1, 1) := by decide +kernel
theorem dX3_topOf_2 : decode cX3_topOf 2 = .ok (.invokevirtual 28, 3) := by decide +kernel
theorem dX3_topOf_5 : decode cX3_topOf 5 = .ok (.ifCond .eq 19, 3) := by decide +kernel
theorem dX3_topOf_8 : decode cX3_topOf 8 = .ok (.aload_n 0, 1) := by decide +kernel
theorem dX3_topOf_9 : decode cX3_topOf 9 = .ok (.getfield 9, 3) := by decide +kernel
theorem dX3_topOf_12 : decode cX3_topOf 12 = .ok (.iload_n 1, 1) := by decide +kernel
theorem dX3_topOf_13 : decode cX3_topOf 13 = .ok (.iaload, 1) := by decide +kernel
theorem dX3_topOf_14 : decode cX3_topOf 14 = .ok (.aload_n 0, 1) := by decide +kernel
theorem dX3_topOf_15 : decode cX3_topOf 15 = .ok (.getfield 15, 3) := by decide +kernel
theorem dX3_topOf_18 : decode cX3_topOf 18 = .ok (.iload_n 1, 1) := by decide +kernel
theorem dX3_topOf_19 : decode cX3_topOf 19 = .ok (.iaload, 1) := by decide +kernel
theorem dX3_topOf_20 : decode cX3_topOf 20 = .ok (.iadd, 1) := by decide +kernel
theorem dX3_topOf_21 : decode cX3_topOf 21 = .ok (.goto 4, 3) := by decide +kernel
theorem dX3_topOf_24 : decode cX3_topOf 24 = .ok (.iconst 0, 1) := by decide +kernel
theorem dX3_topOf_25 : decode cX3_topOf 25 = .ok (.ireturn, 1) := by decide +kernel
theorem dX3_clear_0 : decode cX3_clear 0 = .ok (.aload_n 0, 1) := by decide +kernel
theorem dX3_clear_1 : decode cX3_clear 1 = .ok (.iconst 0, 1) := by decide +kernel
theorem dX3_clear_2 : decode cX3_clear 2 = .ok (.putfield 18, 3) := by decide +kernel
theorem dX3_clear_5 : decode cX3_clear 5 = .ok (.return_, 1) := by decide +kernel
theorem dX3_append_0 : decode cX3_append 0 = .ok (.iconst 0, 1) := by decide +kernel
theorem dX3_append_1 : decode cX3_append 1 = .ok (.istore 4, 2) := by decide +kernel
theorem dX3_append_3 : decode cX3_append 3 = .ok (.iload 4, 2) := by decide +kernel
theorem dX3_append_5 : decode cX3_append 5 = .ok (.iload_n 1, 1) := by decide +kernel
theorem dX3_append_6 : decode cX3_append 6 = .ok (.if_icmp .ge 48, 3) := by decide +kernel
theorem dX3_append_9 : decode cX3_append 9 = .ok (.aload_n 0, 1) := by decide +kernel
theorem dX3_append_10 : decode cX3_append 10 = .ok (.getfield 18, 3) := by decide +kernel
theorem dX3_append_13 : decode cX3_append 13 = .ok (.bipush 20, 2) := by decide +kernel
theorem dX3_append_15 : decode cX3_append 15 = .ok (.if_icmp .ge 39, 3) := by decide +kernel
theorem dX3_append_18 : decode cX3_append 18 = .ok (.aload_n 0, 1) := by decide +kernel
theorem dX3_append_19 : decode cX3_append 19 = .ok (.getfield 9, 3) := by decide +kernel
theorem dX3_append_22 : decode cX3_append 22 = .ok (.aload_n 0, 1) := by decide +kernel
theorem dX3_append_23 : decode cX3_append 23 = .ok (.getfield 18, 3) := by decide +kernel
theorem dX3_append_26 : decode cX3_append 26 = .ok (.iload_n 2, 1) := by decide +kernel
theorem dX3_append_27 : decode cX3_append 27 = .ok (.iastore, 1) := by decide +kernel
theorem dX3_append_28 : decode cX3_append 28 = .ok (.aload_n 0, 1) := by decide +kernel
theorem dX3_append_29 : decode cX3_append 29 = .ok (.getfield 15, 3) := by decide +kernel
theorem dX3_append_32 : decode cX3_append 32 = .ok (.aload_n 0, 1) := by decide +kernel
theorem dX3_append_33 : decode cX3_append 33 = .ok (.getfield 18, 3) := by decide +kernel
theorem dX3_append_36 : decode cX3_append 36 = .ok (.iload_n 3, 1) := by decide +kernel
theorem dX3_append_37 : decode cX3_append 37 = .ok (.iastore, 1) := by decide +kernel
theorem dX3_append_38 : decode cX3_append 38 = .ok (.aload_n 0, 1) := by decide +kernel
theorem dX3_append_39 : decode cX3_append 39 = .ok (.dup, 1) := by decide +kernel
theorem dX3_append_40 : decode cX3_append 40 = .ok (.getfield 18, 3) := by decide +kernel
theorem dX3_append_43 : decode cX3_append 43 = .ok (.iconst 1, 1) := by decide +kernel
theorem dX3_append_44 : decode cX3_append 44 = .ok (.iadd, 1) := by decide +kernel
theorem dX3_append_45 : decode cX3_append 45 = .ok (.putfield 18, 3) := by decide +kernel
theorem dX3_append_48 : decode cX3_append 48 = .ok (.iinc 4 1, 3) := by decide +kernel
theorem dX3_append_51 : decode cX3_append 51 = .ok (.goto (-48), 3) := by decide +kernel
theorem dX3_append_54 : decode cX3_append 54 = .ok (.return_, 1) := by decide +kernel
set_option maxRecDepth 20000 in
theorem ggX3_copyFrom_X3_takeStations : GoodIn wsX3_copyFrom wsX3_takeStations := goodIn_r _ [7, 8, 9, 10, 11, 12, 13, 14, 15] (by decide +kernel) (by decide +kernel)
set_option maxRecDepth 20000 in
theorem gX3_copyFrom_X3_takeStations : GoodIn wsX3_copyFrom (wsV RX3 32 RX3 yX3_takeStations wsX3_takeStations) := goodIn_app (goodIn_of _ (by decide +kernel)) ggX3_copyFrom_X3_takeStations
theorem dX3_copyFrom_0 : decode cX3_copyFrom 0 = .ok (.aload_n 0, 1) := by decide +kernel
theorem dX3_copyFrom_1 : decode cX3_copyFrom 1 = .ok (.aload_n 1, 1) := by decide +kernel
theorem dX3_copyFrom_2 : decode cX3_copyFrom 2 = .ok (.invokevirtual 32, 3) := by decide +kernel
theorem dX3_copyFrom_5 : decode cX3_copyFrom 5 = .ok (.aload_n 0, 1) := by decide +kernel
theorem dX3_copyFrom_6 : decode cX3_copyFrom 6 = .ok (.aload_n 1, 1) := by decide +kernel
theorem dX3_copyFrom_7 : decode cX3_copyFrom 7 = .ok (.getfield 22, 3) := by decide +kernel
theorem dX3_copyFrom_10 : decode cX3_copyFrom 10 = .ok (.putfield 22, 3) := by decide +kernel
theorem dX3_copyFrom_13 : decode cX3_copyFrom 13 = .ok (.aload_n 0, 1) := by decide +kernel
theorem dX3_copyFrom_14 : decode cX3_copyFrom 14 = .ok (.aload_n 1, 1) := by decide +kernel
theorem dX3_copyFrom_15 : decode cX3_copyFrom 15 = .ok (.getfield 25, 3) := by decide +kernel
theorem dX3_copyFrom_18 : decode cX3_copyFrom 18 = .ok (.putfield 25, 3) := by decide +kernel
theorem dX3_copyFrom_21 : decode cX3_copyFrom 21 = .ok (.return_, 1) := by decide +kernel
theorem dX3_takeStations_0 : decode cX3_takeStations 0 = .ok (.aload_n 0, 1) := by decide +kernel
theorem dX3_takeStations_1 : decode cX3_takeStations 1 = .ok (.aload_n 1, 1) := by decide +kernel
theorem dX3_takeStations_2 : decode cX3_takeStations 2 = .ok (.getfield 18, 3) := by decide +kernel
theorem dX3_takeStations_5 : decode cX3_takeStations 5 = .ok (.putfield 18, 3) := by decide +kernel
theorem dX3_takeStations_8 : decode cX3_takeStations 8 = .ok (.iconst 0, 1) := by decide +kernel
theorem dX3_takeStations_9 : decode cX3_takeStations 9 = .ok (.istore_n 2, 1) := by decide +kernel
theorem dX3_takeStations_10 : decode cX3_takeStations 10 = .ok (.iload_n 2, 1) := by decide +kernel
theorem dX3_takeStations_11 : decode cX3_takeStations 11 = .ok (.aload_n 0, 1) := by decide +kernel
theorem dX3_takeStations_12 : decode cX3_takeStations 12 = .ok (.getfield 18, 3) := by decide +kernel
theorem dX3_takeStations_15 : decode cX3_takeStations 15 = .ok (.if_icmp .ge 33, 3) := by decide +kernel
theorem dX3_takeStations_18 : decode cX3_takeStations 18 = .ok (.aload_n 0, 1) := by decide +kernel
theorem dX3_takeStations_19 : decode cX3_takeStations 19 = .ok (.getfield 9, 3) := by decide +kernel
theorem dX3_takeStations_22 : decode cX3_takeStations 22 = .ok (.iload_n 2, 1) := by decide +kernel
theorem dX3_takeStations_23 : decode cX3_takeStations 23 = .ok (.aload_n 1, 1) := by decide +kernel
theorem dX3_takeStations_24 : decode cX3_takeStations 24 = .ok (.getfield 9, 3) := by decide +kernel
theorem dX3_takeStations_27 : decode cX3_takeStations 27 = .ok (.iload_n 2, 1) := by decide +kernel
theorem dX3_takeStations_28 : decode cX3_takeStations 28 = .ok (.iaload, 1) := by decide +kernel
theorem dX3_takeStations_29 : decode cX3_takeStations 29 = .ok (.iastore, 1) := by decide +kernel
theorem dX3_takeStations_30 : decode cX3_takeStations 30 = .ok (.aload_n 0, 1) := by decide +kernel
theorem dX3_takeStations_31 : decode cX3_takeStations 31 = .ok (.getfield 15, 3) := by decide +kernel
theorem dX3_takeStations_34 : decode cX3_takeStations 34 = .ok (.iload_n 2, 1) := by decide +kernel
theorem dX3_takeStations_35 : decode cX3_takeStations 35 = .ok (.aload_n 1, 1) := by decide +kernel
theorem dX3_takeStations_36 : decode cX3_takeStations 36 = .ok (.getfield 15, 3) := by decide +kernel
theorem dX3_takeStations_39 : decode cX3_takeStations 39 = .ok (.iload_n 2, 1) := by decide +kernel
theorem dX3_takeStations_40 : decode cX3_takeStations 40 = .ok (.iaload, 1) := by decide +kernel
theorem dX3_takeStations_41 : decode cX3_takeStations 41 = .ok (.iastore, 1) := by decide +kernel
theorem dX3_takeStations_42 : decode cX3_takeStations 42 = .ok (.iinc 2 1, 3) := by decide +kernel
theorem dX3_takeStations_45 : decode cX3_takeStations 45 = .ok (.goto (-35), 3) := by decide +kernel
theorem dX3_takeStations_48 : decode cX3_takeStations 48 = .ok (.return_, 1) := by decide +kernel
theorem dX3_takeReversed_0 : decode cX3_takeReversed 0 = .ok (.iconst 0, 1) := by decide +kernel
theorem dX3_takeReversed_1 : decode cX3_takeReversed 1 = .ok (.istore_n 2, 1) := by decide +kernel
theorem dX3_takeReversed_2 : decode cX3_takeReversed 2 = .ok (.iconst 0, 1) := by decide +kernel
theorem dX3_takeReversed_3 : decode cX3_takeReversed 3 = .ok (.istore_n 3, 1) := by decide +kernel
theorem dX3_takeReversed_4 : decode cX3_takeReversed 4 = .ok (.iload_n 3, 1) := by decide +kernel
theorem dX3_takeReversed_5 : decode cX3_takeReversed 5 = .ok (.aload_n 0, 1) := by decide +kernel
theorem dX3_takeReversed_6 : decode cX3_takeReversed 6 = .ok (.getfield 18, 3) := by decide +kernel
theorem dX3_takeReversed_9 : decode cX3_takeReversed 9 = .ok (.if_icmp .ge 80, 3) := by decide +kernel
theorem dX3_takeReversed_12 : decode cX3_takeReversed 12 = .ok (.aload_n 0, 1) := by decide +kernel
theorem dX3_takeReversed_13 : decode cX3_takeReversed 13 = .ok (.getfield 18, 3) := by decide +kernel
theorem dX3_takeReversed_16 : decode cX3_takeReversed 16 = .ok (.iconst 1, 1) := by decide +kernel
theorem dX3_takeReversed_17 : decode cX3_takeReversed 17 = .ok (.isub, 1) := by decide +kernel
theorem dX3_takeReversed_18 : decode cX3_takeReversed 18 = .ok (.iload_n 3, 1) := by decide +kernel
theorem dX3_takeReversed_19 : decode cX3_takeReversed 19 = .ok (.isub, 1) := by decide +kernel
theorem dX3_takeReversed_20 : decode cX3_takeReversed 20 = .ok (.istore 4, 2) := by decide +kernel
theorem dX3_takeReversed_22 : decode cX3_takeReversed 22 = .ok (.aload_n 0, 1) := by decide +kernel
theorem dX3_takeReversed_23 : decode cX3_takeReversed 23 = .ok (.getfield 9, 3) := by decide +kernel
theorem dX3_takeReversed_26 : decode cX3_takeReversed 26 = .ok (.iload_n 3, 1) := by decide +kernel
theorem dX3_takeReversed_27 : decode cX3_takeReversed 27 = .ok (.iaload, 1) := by decide +kernel
theorem dX3_takeReversed_28 : decode cX3_takeReversed 28 = .ok (.aload_n 1, 1) := by decide +kernel
theorem dX3_takeReversed_29 : decode cX3_takeReversed 29 = .ok (.getfield 9, 3) := by decide +kernel
theorem dX3_takeReversed_32 : decode cX3_takeReversed 32 = .ok (.iload 4, 2) := by decide +kernel
theorem dX3_takeReversed_34 : decode cX3_takeReversed 34 = .ok (.iaload, 1) := by decide +kernel
theorem dX3_takeReversed_35 : decode cX3_takeReversed 35 = .ok (.if_icmp .ne 19, 3) := by decide +kernel
theorem dX3_takeReversed_38 : decode cX3_takeReversed 38 = .ok (.aload_n 0, 1) := by decide +kernel
theorem dX3_takeReversed_39 : decode cX3_takeReversed 39 = .ok (.getfield 15, 3) := by decide +kernel
theorem dX3_takeReversed_42 : decode cX3_takeReversed 42 = .ok (.iload_n 3, 1) := by decide +kernel
theorem dX3_takeReversed_43 : decode cX3_takeReversed 43 = .ok (.iaload, 1) := by decide +kernel
theorem dX3_takeReversed_44 : decode cX3_takeReversed 44 = .ok (.aload_n 1, 1) := by decide +kernel
theorem dX3_takeReversed_45 : decode cX3_takeReversed 45 = .ok (.getfield 15, 3) := by decide +kernel
theorem dX3_takeReversed_48 : decode cX3_takeReversed 48 = .ok (.iload 4, 2) := by decide +kernel
theorem dX3_takeReversed_50 : decode cX3_takeReversed 50 = .ok (.iaload, 1) := by decide +kernel
theorem dX3_takeReversed_51 : decode cX3_takeReversed 51 = .ok (.if_icmp .eq 6, 3) := by decide +kernel
theorem dX3_takeReversed_54 : decode cX3_takeReversed 54 = .ok (.iinc 2 1, 3) := by decide +kernel
theorem dX3_takeReversed_57 : decode cX3_takeReversed 57 = .ok (.aload_n 0, 1) := by decide +kernel
theorem dX3_takeReversed_58 : decode cX3_takeReversed 58 = .ok (.getfield 9, 3) := by decide +kernel
theorem dX3_takeReversed_61 : decode cX3_takeReversed 61 = .ok (.iload_n 3, 1) := by decide +kernel
theorem dX3_takeReversed_62 : decode cX3_takeReversed 62 = .ok (.aload_n 1, 1) := by decide +kernel
theorem dX3_takeReversed_63 : decode cX3_takeReversed 63 = .ok (.getfield 9, 3) := by decide +kernel
theorem dX3_takeReversed_66 : decode cX3_takeReversed 66 = .ok (.iload 4, 2) := by decide +kernel
theorem dX3_takeReversed_68 : decode cX3_takeReversed 68 = .ok (.iaload, 1) := by decide +kernel
theorem dX3_takeReversed_69 : decode cX3_takeReversed 69 = .ok (.iastore, 1) := by decide +kernel
theorem dX3_takeReversed_70 : decode cX3_takeReversed 70 = .ok (.aload_n 0, 1) := by decide +kernel
theorem dX3_takeReversed_71 : decode cX3_takeReversed 71 = .ok (.getfield 15, 3) := by decide +kernel
theorem dX3_takeReversed_74 : decode cX3_takeReversed 74 = .ok (.iload_n 3, 1) := by decide +kernel
theorem dX3_takeReversed_75 : decode cX3_takeReversed 75 = .ok (.aload_n 1, 1) := by decide +kernel
theorem dX3_takeReversed_76 : decode cX3_takeReversed 76 = .ok (.getfield 15, 3) := by decide +kernel
theorem dX3_takeReversed_79 : decode cX3_takeReversed 79 = .ok (.iload 4, 2) := by decide +kernel
theorem dX3_takeReversed_81 : decode cX3_takeReversed 81 = .ok (.iaload, 1) := by decide +kernel
theorem dX3_takeReversed_82 : decode cX3_takeReversed 82 = .ok (.iastore, 1) := by decide +kernel
theorem dX3_takeReversed_83 : decode cX3_takeReversed 83 = .ok (.iinc 3 1, 3) := by decide +kernel
theorem dX3_takeReversed_86 : decode cX3_takeReversed 86 = .ok (.goto (-82), 3) := by decide +kernel
theorem dX3_takeReversed_89 : decode cX3_takeReversed 89 = .ok (.iload_n 2, 1) := by decide +kernel
theorem dX3_takeReversed_90 : decode cX3_takeReversed 90 = .ok (.ireturn, 1) := by decide +kernel
set_option maxRecDepth 20000 in
theorem ggX3_even_X3_has : GoodIn wsX3_even wsX3_has := goodIn_r _ [6, 7, 8, 9, 10, 11, 12] (by decide +kernel) (by decide +kernel)
set_option maxRecDepth 20000 in
theorem gX3_even_X3_has : GoodIn wsX3_even (wsV RX3 28 RX3 yX3_has wsX3_has) := goodIn_app (goodIn_of _ (by decide +kernel)) ggX3_even_X3_has
theorem dX3_even_0 : decode cX3_even 0 = .ok (.aload_n 0, 1) := by decide +kernel
theorem dX3_even_1 : decode cX3_even 1 = .ok (.iload_n 1, 1) := by decide +kernel
theorem dX3_even_2 : decode cX3_even 2 = .ok (.invokevirtual 28, 3) := by decide +kernel
theorem dX3_even_5 : decode cX3_even 5 = .ok (.ifCond .eq 16, 3) := by decide +kernel
theorem dX3_even_8 : decode cX3_even 8 = .ok (.aload_n 0, 1) := by decide +kernel
theorem dX3_even_9 : decode cX3_even 9 = .ok (.iload_n 2, 1) := by decide +kernel
theorem dX3_even_10 : decode cX3_even 10 = .ok (.invokevirtual 28, 3) := by decide +kernel
theorem dX3_even_13 : decode cX3_even 13 = .ok (.ifCond .eq 8, 3) := by decide +kernel
theorem dX3_even_16 : decode cX3_even 16 = .ok (.iload_n 1, 1) := by decide +kernel
theorem dX3_even_17 : decode cX3_even 17 = .ok (.iload_n 2, 1) := by decide +kernel
theorem dX3_even_18 : decode cX3_even 18 = .ok (.if_icmp .lt 5, 3) := by decide +kernel
theorem dX3_even_21 : decode cX3_even 21 = .ok (.iconst 0, 1) := by decide +kernel
theorem dX3_even_22 : decode cX3_even 22 = .ok (.ireturn, 1) := by decide +kernel
theorem dX3_even_23 : decode cX3_even 23 = .ok (.iconst 0, 1) := by decide +kernel
theorem dX3_even_24 : decode cX3_even 24 = .ok (.istore_n 3, 1) := by decide +kernel
theorem dX3_even_25 : decode cX3_even 25 = .ok (.aload_n 0, 1) := by decide +kernel
theorem dX3_even_26 : decode cX3_even 26 = .ok (.getfield 9, 3) := by decide +kernel
theorem dX3_even_29 : decode cX3_even 29 = .ok (.iload_n 2, 1) := by decide +kernel
theorem dX3_even_30 : decode cX3_even 30 = .ok (.iaload, 1) := by decide +kernel
theorem dX3_even_31 : decode cX3_even 31 = .ok (.aload_n 0, 1) := by decide +kernel
theorem dX3_even_32 : decode cX3_even 32 = .ok (.getfield 9, 3) := by decide +kernel
theorem dX3_even_35 : decode cX3_even 35 = .ok (.iload_n 1, 1) := by decide +kernel
theorem dX3_even_36 : decode cX3_even 36 = .ok (.iaload, 1) := by decide +kernel
theorem dX3_even_37 : decode cX3_even 37 = .ok (.isub, 1) := by decide +kernel
theorem dX3_even_38 : decode cX3_even 38 = .ok (.istore 4, 2) := by decide +kernel
theorem dX3_even_40 : decode cX3_even 40 = .ok (.iload_n 1, 1) := by decide +kernel
theorem dX3_even_41 : decode cX3_even 41 = .ok (.iconst 1, 1) := by decide +kernel
theorem dX3_even_42 : decode cX3_even 42 = .ok (.iadd, 1) := by decide +kernel
theorem dX3_even_43 : decode cX3_even 43 = .ok (.istore 5, 2) := by decide +kernel
theorem dX3_even_45 : decode cX3_even 45 = .ok (.iload 5, 2) := by decide +kernel
theorem dX3_even_47 : decode cX3_even 47 = .ok (.iload_n 2, 1) := by decide +kernel
theorem dX3_even_48 : decode cX3_even 48 = .ok (.if_icmp .ge 53, 3) := by decide +kernel
theorem dX3_even_51 : decode cX3_even 51 = .ok (.aload_n 0, 1) := by decide +kernel
theorem dX3_even_52 : decode cX3_even 52 = .ok (.getfield 9, 3) := by decide +kernel
theorem dX3_even_55 : decode cX3_even 55 = .ok (.iload_n 1, 1) := by decide +kernel
theorem dX3_even_56 : decode cX3_even 56 = .ok (.iaload, 1) := by decide +kernel
theorem dX3_even_57 : decode cX3_even 57 = .ok (.iload 4, 2) := by decide +kernel
theorem dX3_even_59 : decode cX3_even 59 = .ok (.iload 5, 2) := by decide +kernel
theorem dX3_even_61 : decode cX3_even 61 = .ok (.iload_n 1, 1) := by decide +kernel
theorem dX3_even_62 : decode cX3_even 62 = .ok (.isub, 1) := by decide +kernel
theorem dX3_even_63 : decode cX3_even 63 = .ok (.imul, 1) := by decide +kernel
theorem dX3_even_64 : decode cX3_even 64 = .ok (.iload_n 2, 1) := by decide +kernel
theorem dX3_even_65 : decode cX3_even 65 = .ok (.iload_n 1, 1) := by decide +kernel
theorem dX3_even_66 : decode cX3_even 66 = .ok (.isub, 1) := by decide +kernel
theorem dX3_even_67 : decode cX3_even 67 = .ok (.idiv, 1) := by decide +kernel
theorem dX3_even_68 : decode cX3_even 68 = .ok (.iadd, 1) := by decide +kernel
theorem dX3_even_69 : decode cX3_even 69 = .ok (.istore 6, 2) := by decide +kernel
theorem dX3_even_71 : decode cX3_even 71 = .ok (.aload_n 0, 1) := by decide +kernel
theorem dX3_even_72 : decode cX3_even 72 = .ok (.getfield 9, 3) := by decide +kernel
theorem dX3_even_75 : decode cX3_even 75 = .ok (.iload 5, 2) := by decide +kernel
theorem dX3_even_77 : decode cX3_even 77 = .ok (.iaload, 1) := by decide +kernel
theorem dX3_even_78 : decode cX3_even 78 = .ok (.iload 6, 2) := by decide +kernel
theorem dX3_even_80 : decode cX3_even 80 = .ok (.if_icmp .eq 6, 3) := by decide +kernel
theorem dX3_even_83 : decode cX3_even 83 = .ok (.iinc 3 1, 3) := by decide +kernel
theorem dX3_even_86 : decode cX3_even 86 = .ok (.aload_n 0, 1) := by decide +kernel
theorem dX3_even_87 : decode cX3_even 87 = .ok (.getfield 9, 3) := by decide +kernel
theorem dX3_even_90 : decode cX3_even 90 = .ok (.iload 5, 2) := by decide +kernel
theorem dX3_even_92 : decode cX3_even 92 = .ok (.iload 6, 2) := by decide +kernel
theorem dX3_even_94 : decode cX3_even 94 = .ok (.iastore, 1) := by decide +kernel
theorem dX3_even_95 : decode cX3_even 95 = .ok (.iinc 5 1, 3) := by decide +kernel
theorem dX3_even_98 : decode cX3_even 98 = .ok (.goto (-53), 3) := by decide +kernel
theorem dX3_even_101 : decode cX3_even 101 = .ok (.iload_n 3, 1) := by decide +kernel
theorem dX3_even_102 : decode cX3_even 102 = .ok (.ireturn, 1) := by decide +kernel
set_option maxRecDepth 20000 in
theorem ggX3_clearance_X3_has : GoodIn wsX3_clearance wsX3_has := goodIn_r _ [11, 12, 13, 14, 15, 16, 17] (by decide +kernel) (by decide +kernel)
set_option maxRecDepth 20000 in
theorem gX3_clearance_X3_has : GoodIn wsX3_clearance (wsV RX3 28 RX3 yX3_has wsX3_has) := goodIn_app (goodIn_of _ (by decide +kernel)) ggX3_clearance_X3_has
theorem dX3_clearance_0 : decode cX3_clearance 0 = .ok (.aload_n 0, 1) := by decide +kernel
theorem dX3_clearance_1 : decode cX3_clearance 1 = .ok (.iload 5, 2) := by decide +kernel
theorem dX3_clearance_3 : decode cX3_clearance 3 = .ok (.invokevirtual 28, 3) := by decide +kernel
theorem dX3_clearance_6 : decode cX3_clearance 6 = .ok (.ifCond .ne 5, 3) := by decide +kernel
theorem dX3_clearance_9 : decode cX3_clearance 9 = .ok (.iconst 0, 1) := by decide +kernel
theorem dX3_clearance_10 : decode cX3_clearance 10 = .ok (.ireturn, 1) := by decide +kernel
theorem dX3_clearance_11 : decode cX3_clearance 11 = .ok (.iload 5, 2) := by decide +kernel
theorem dX3_clearance_13 : decode cX3_clearance 13 = .ok (.iload_n 1, 1) := by decide +kernel
theorem dX3_clearance_14 : decode cX3_clearance 14 = .ok (.isub, 1) := by decide +kernel
theorem dX3_clearance_15 : decode cX3_clearance 15 = .ok (.invokestatic 36, 3) := by decide +kernel
theorem dX3_clearance_18 : decode cX3_clearance 18 = .ok (.istore 6, 2) := by decide +kernel
theorem dX3_clearance_20 : decode cX3_clearance 20 = .ok (.iload_n 3, 1) := by decide +kernel
theorem dX3_clearance_21 : decode cX3_clearance 21 = .ok (.iload 5, 2) := by decide +kernel
theorem dX3_clearance_23 : decode cX3_clearance 23 = .ok (.isub, 1) := by decide +kernel
theorem dX3_clearance_24 : decode cX3_clearance 24 = .ok (.invokestatic 36, 3) := by decide +kernel
theorem dX3_clearance_27 : decode cX3_clearance 27 = .ok (.istore 7, 2) := by decide +kernel
theorem dX3_clearance_29 : decode cX3_clearance 29 = .ok (.iload_n 2, 1) := by decide +kernel
theorem dX3_clearance_30 : decode cX3_clearance 30 = .ok (.iload 7, 2) := by decide +kernel
theorem dX3_clearance_32 : decode cX3_clearance 32 = .ok (.imul, 1) := by decide +kernel
theorem dX3_clearance_33 : decode cX3_clearance 33 = .ok (.iload 4, 2) := by decide +kernel
theorem dX3_clearance_35 : decode cX3_clearance 35 = .ok (.iload 6, 2) := by decide +kernel
theorem dX3_clearance_37 : decode cX3_clearance 37 = .ok (.imul, 1) := by decide +kernel
theorem dX3_clearance_38 : decode cX3_clearance 38 = .ok (.iadd, 1) := by decide +kernel
theorem dX3_clearance_39 : decode cX3_clearance 39 = .ok (.iload 6, 2) := by decide +kernel
theorem dX3_clearance_41 : decode cX3_clearance 41 = .ok (.iload 7, 2) := by decide +kernel
theorem dX3_clearance_43 : decode cX3_clearance 43 = .ok (.iadd, 1) := by decide +kernel
theorem dX3_clearance_44 : decode cX3_clearance 44 = .ok (.aload_n 0, 1) := by decide +kernel
theorem dX3_clearance_45 : decode cX3_clearance 45 = .ok (.getfield 9, 3) := by decide +kernel
theorem dX3_clearance_48 : decode cX3_clearance 48 = .ok (.iload 5, 2) := by decide +kernel
theorem dX3_clearance_50 : decode cX3_clearance 50 = .ok (.iaload, 1) := by decide +kernel
theorem dX3_clearance_51 : decode cX3_clearance 51 = .ok (.aload_n 0, 1) := by decide +kernel
theorem dX3_clearance_52 : decode cX3_clearance 52 = .ok (.getfield 25, 3) := by decide +kernel
theorem dX3_clearance_55 : decode cX3_clearance 55 = .ok (.iload 6, 2) := by decide +kernel
theorem dX3_clearance_57 : decode cX3_clearance 57 = .ok (.imul, 1) := by decide +kernel
theorem dX3_clearance_58 : decode cX3_clearance 58 = .ok (.iload 7, 2) := by decide +kernel
theorem dX3_clearance_60 : decode cX3_clearance 60 = .ok (.imul, 1) := by decide +kernel
theorem dX3_clearance_61 : decode cX3_clearance 61 = .ok (.iadd, 1) := by decide +kernel
theorem dX3_clearance_62 : decode cX3_clearance 62 = .ok (.imul, 1) := by decide +kernel
theorem dX3_clearance_63 : decode cX3_clearance 63 = .ok (.isub, 1) := by decide +kernel
theorem dX3_clearance_64 : decode cX3_clearance 64 = .ok (.ireturn, 1) := by decide +kernel
set_option maxRecDepth 20000 in
theorem ggX3_pointsSee_X3_clearance : GoodIn wsX3_pointsSee wsX3_clearance := goodIn_r _ [12, 13, 14, 3, 15, 16, 17, 18, 19, 20, 11, 21, 22, 23, 24, 25, 26, 27] (by decide +kernel) (by decide +kernel)
set_option maxRecDepth 20000 in
theorem gX3_pointsSee_X3_clearance : GoodIn wsX3_pointsSee (wsV RX3 49 RX3 yX3_clearance wsX3_clearance) := goodIn_app (goodIn_of _ (by decide +kernel)) ggX3_pointsSee_X3_clearance
theorem dX3_pointsSee_0 : decode cX3_pointsSee 0 = .ok (.iload_n 1, 1) := by decide +kernel
theorem dX3_pointsSee_1 : decode cX3_pointsSee 1 = .ok (.iload_n 3, 1) := by decide +kernel
theorem dX3_pointsSee_2 : decode cX3_pointsSee 2 = .ok (.invokestatic 42, 3) := by decide +kernel
theorem dX3_pointsSee_5 : decode cX3_pointsSee 5 = .ok (.istore 5, 2) := by decide +kernel
theorem dX3_pointsSee_7 : decode cX3_pointsSee 7 = .ok (.iload_n 1, 1) := by decide +kernel
theorem dX3_pointsSee_8 : decode cX3_pointsSee 8 = .ok (.iload_n 3, 1) := by decide +kernel
theorem dX3_pointsSee_9 : decode cX3_pointsSee 9 = .ok (.invokestatic 46, 3) := by decide +kernel
theorem dX3_pointsSee_12 : decode cX3_pointsSee 12 = .ok (.iconst 1, 1) := by decide +kernel
theorem dX3_pointsSee_13 : decode cX3_pointsSee 13 = .ok (.iadd, 1) := by decide +kernel
theorem dX3_pointsSee_14 : decode cX3_pointsSee 14 = .ok (.istore 6, 2) := by decide +kernel
theorem dX3_pointsSee_16 : decode cX3_pointsSee 16 = .ok (.iload 6, 2) := by decide +kernel
theorem dX3_pointsSee_18 : decode cX3_pointsSee 18 = .ok (.iload 5, 2) := by decide +kernel
theorem dX3_pointsSee_20 : decode cX3_pointsSee 20 = .ok (.if_icmp .ge 25, 3) := by decide +kernel
theorem dX3_pointsSee_23 : decode cX3_pointsSee 23 = .ok (.aload_n 0, 1) := by decide +kernel
theorem dX3_pointsSee_24 : decode cX3_pointsSee 24 = .ok (.iload_n 1, 1) := by decide +kernel
theorem dX3_pointsSee_25 : decode cX3_pointsSee 25 = .ok (.iload_n 2, 1) := by decide +kernel
theorem dX3_pointsSee_26 : decode cX3_pointsSee 26 = .ok (.iload_n 3, 1) := by decide +kernel
theorem dX3_pointsSee_27 : decode cX3_pointsSee 27 = .ok (.iload 4, 2) := by decide +kernel
theorem dX3_pointsSee_29 : decode cX3_pointsSee 29 = .ok (.iload 6, 2) := by decide +kernel
theorem dX3_pointsSee_31 : decode cX3_pointsSee 31 = .ok (.invokevirtual 49, 3) := by decide +kernel
theorem dX3_pointsSee_34 : decode cX3_pointsSee 34 = .ok (.ifCond .ge 5, 3) := by decide +kernel
theorem dX3_pointsSee_37 : decode cX3_pointsSee 37 = .ok (.iconst 0, 1) := by decide +kernel
theorem dX3_pointsSee_38 : decode cX3_pointsSee 38 = .ok (.ireturn, 1) := by decide +kernel
theorem dX3_pointsSee_39 : decode cX3_pointsSee 39 = .ok (.iinc 6 1, 3) := by decide +kernel
theorem dX3_pointsSee_42 : decode cX3_pointsSee 42 = .ok (.goto (-26), 3) := by decide +kernel
theorem dX3_pointsSee_45 : decode cX3_pointsSee 45 = .ok (.iconst 1, 1) := by decide +kernel
theorem dX3_pointsSee_46 : decode cX3_pointsSee 46 = .ok (.ireturn, 1) := by decide +kernel
set_option maxRecDepth 20000 in
theorem ggX3_topsSee_X3_topOf : GoodIn wsX3_topsSee wsX3_topOf := goodIn_r _ [5, 6, 7, 8, 9, 10, 4, 11, 12, 32, 33, 34, 35, 36] (by decide +kernel) (by decide +kernel)
set_option maxRecDepth 20000 in
theorem gX3_topsSee_X3_topOf : GoodIn wsX3_topsSee (wsV RX3 53 RX3 yX3_topOf wsX3_topOf) := goodIn_app (goodIn_of _ (by decide +kernel)) ggX3_topsSee_X3_topOf
set_option maxRecDepth 20000 in
theorem ggX3_topsSee_X3_pointsSee : GoodIn wsX3_topsSee wsX3_pointsSee := goodIn_r _ [16, 17, 18, 19, 20, 21, 22, 23, 24, 25, 26, 4, 27, 28, 29, 30, 6, 31, 8, 9, 10, 11, 12, 32, 33, 34, 35, 36] (by decide +kernel) (by decide +kernel)
set_option maxRecDepth 20000 in
theorem gX3_topsSee_X3_pointsSee : GoodIn wsX3_topsSee (wsV RX3 56 RX3 yX3_pointsSee wsX3_pointsSee) := goodIn_app (goodIn_of _ (by decide +kernel)) ggX3_topsSee_X3_pointsSee
theorem dX3_topsSee_0 : decode cX3_topsSee 0 = .ok (.aload_n 0, 1) := by decide +kernel
theorem dX3_topsSee_1 : decode cX3_topsSee 1 = .ok (.iload_n 1, 1) := by decide +kernel
theorem dX3_topsSee_2 : decode cX3_topsSee 2 = .ok (.aload_n 0, 1) := by decide +kernel
theorem dX3_topsSee_3 : decode cX3_topsSee 3 = .ok (.iload_n 1, 1) := by decide +kernel
theorem dX3_topsSee_4 : decode cX3_topsSee 4 = .ok (.invokevirtual 53, 3) := by decide +kernel
theorem dX3_topsSee_7 : decode cX3_topsSee 7 = .ok (.iload_n 2, 1) := by decide +kernel
theorem dX3_topsSee_8 : decode cX3_topsSee 8 = .ok (.aload_n 0, 1) := by decide +kernel
theorem dX3_topsSee_9 : decode cX3_topsSee 9 = .ok (.iload_n 2, 1) := by decide +kernel
theorem dX3_topsSee_10 : decode cX3_topsSee 10 = .ok (.invokevirtual 53, 3) := by decide +kernel
theorem dX3_topsSee_13 : decode cX3_topsSee 13 = .ok (.invokevirtual 56, 3) := by decide +kernel
theorem dX3_topsSee_16 : decode cX3_topsSee 16 = .ok (.ireturn, 1) := by decide +kernel
set_option maxRecDepth 20000 in
theorem ggX3_inContact_X3_topOf : GoodIn wsX3_inContact wsX3_topOf := goodIn_r _ [10, 11, 12, 13, 14, 15, 9, 16, 17, 33, 34, 35, 36, 37] (by decide +kernel) (by decide +kernel)
set_option maxRecDepth 20000 in
theorem gX3_inContact_X3_topOf : GoodIn wsX3_inContact (wsV RX3 53 RX3 yX3_topOf wsX3_topOf) := goodIn_app (goodIn_of _ (by decide +kernel)) ggX3_inContact_X3_topOf
set_option maxRecDepth 20000 in
theorem ggX3_inContact_X3_pointsSee : GoodIn wsX3_inContact wsX3_pointsSee := goodIn_r _ [21, 22, 23, 3, 24, 25, 26, 27, 28, 29, 30, 9, 31, 1, 2, 4, 11, 32, 13, 14, 15, 16, 17, 33, 34, 35, 36, 37] (by decide +kernel) (by decide +kernel)
set_option maxRecDepth 20000 in
theorem gX3_inContact_X3_pointsSee : GoodIn wsX3_inContact (wsV RX3 56 RX3 yX3_pointsSee wsX3_pointsSee) := goodIn_app (goodIn_of _ (by decide +kernel)) ggX3_inContact_X3_pointsSee
theorem dX3_inContact_0 : decode cX3_inContact 0 = .ok (.iload_n 1, 1) := by decide +kernel
theorem dX3_inContact_1 : decode cX3_inContact 1 = .ok (.iload_n 2, 1) := by decide +kernel
theorem dX3_inContact_2 : decode cX3_inContact 2 = .ok (.if_icmp .eq 39, 3) := by decide +kernel
theorem dX3_inContact_5 : decode cX3_inContact 5 = .ok (.iload_n 1, 1) := by decide +kernel
theorem dX3_inContact_6 : decode cX3_inContact 6 = .ok (.iload_n 2, 1) := by decide +kernel
theorem dX3_inContact_7 : decode cX3_inContact 7 = .ok (.isub, 1) := by decide +kernel
theorem dX3_inContact_8 : decode cX3_inContact 8 = .ok (.invokestatic 36, 3) := by decide +kernel
theorem dX3_inContact_11 : decode cX3_inContact 11 = .ok (.aload_n 0, 1) := by decide +kernel
theorem dX3_inContact_12 : decode cX3_inContact 12 = .ok (.getfield 22, 3) := by decide +kernel
theorem dX3_inContact_15 : decode cX3_inContact 15 = .ok (.if_icmp .gt 26, 3) := by decide +kernel
theorem dX3_inContact_18 : decode cX3_inContact 18 = .ok (.aload_n 0, 1) := by decide +kernel
theorem dX3_inContact_19 : decode cX3_inContact 19 = .ok (.iload_n 1, 1) := by decide +kernel
theorem dX3_inContact_20 : decode cX3_inContact 20 = .ok (.aload_n 0, 1) := by decide +kernel
theorem dX3_inContact_21 : decode cX3_inContact 21 = .ok (.iload_n 1, 1) := by decide +kernel
theorem dX3_inContact_22 : decode cX3_inContact 22 = .ok (.invokevirtual 53, 3) := by decide +kernel
theorem dX3_inContact_25 : decode cX3_inContact 25 = .ok (.iload_n 2, 1) := by decide +kernel
theorem dX3_inContact_26 : decode cX3_inContact 26 = .ok (.aload_n 0, 1) := by decide +kernel
theorem dX3_inContact_27 : decode cX3_inContact 27 = .ok (.iload_n 2, 1) := by decide +kernel
theorem dX3_inContact_28 : decode cX3_inContact 28 = .ok (.invokevirtual 53, 3) := by decide +kernel
theorem dX3_inContact_31 : decode cX3_inContact 31 = .ok (.invokevirtual 56, 3) := by decide +kernel
theorem dX3_inContact_34 : decode cX3_inContact 34 = .ok (.ifCond .eq 7, 3) := by decide +kernel
theorem dX3_inContact_37 : decode cX3_inContact 37 = .ok (.iconst 1, 1) := by decide +kernel
theorem dX3_inContact_38 : decode cX3_inContact 38 = .ok (.goto 4, 3) := by decide +kernel
theorem dX3_inContact_41 : decode cX3_inContact 41 = .ok (.iconst 0, 1) := by decide +kernel
theorem dX3_inContact_42 : decode cX3_inContact 42 = .ok (.ireturn, 1) := by decide +kernel
set_option maxRecDepth 20000 in
theorem ggX3_contacts_X3_inContact : GoodIn wsX3_contacts wsX3_inContact := goodIn_r _ [6, 7, 8, 9, 10, 11, 12, 13, 14, 5, 15, 16, 17, 18, 19, 20, 21, 1, 22, 23, 24, 25, 26, 27, 28, 29, 30, 31, 32, 33, 34, 35, 36, 37, 38, 39, 40, 41] (by decide +kernel) (by decide +kernel)
set_option maxRecDepth 20000 in
theorem gX3_contacts_X3_inContact : GoodIn wsX3_contacts (wsV RX3 60 RX3 yX3_inContact wsX3_inContact) := goodIn_app (goodIn_of _ (by decide +kernel)) ggX3_contacts_X3_inContact
theorem dX3_contacts_0 : decode cX3_contacts 0 = .ok (.iconst 0, 1) := by decide +kernel
theorem dX3_contacts_1 : decode cX3_contacts 1 = .ok (.istore_n 2, 1) := by decide +kernel
theorem dX3_contacts_2 : decode cX3_contacts 2 = .ok (.iconst 0, 1) := by decide +kernel
theorem dX3_contacts_3 : decode cX3_contacts 3 = .ok (.istore_n 3, 1) := by decide +kernel
theorem dX3_contacts_4 : decode cX3_contacts 4 = .ok (.iload_n 3, 1) := by decide +kernel
theorem dX3_contacts_5 : decode cX3_contacts 5 = .ok (.aload_n 0, 1) := by decide +kernel
theorem dX3_contacts_6 : decode cX3_contacts 6 = .ok (.getfield 18, 3) := by decide +kernel
theorem dX3_contacts_9 : decode cX3_contacts 9 = .ok (.if_icmp .ge 24, 3) := by decide +kernel
theorem dX3_contacts_12 : decode cX3_contacts 12 = .ok (.aload_n 0, 1) := by decide +kernel
theorem dX3_contacts_13 : decode cX3_contacts 13 = .ok (.iload_n 1, 1) := by decide +kernel
theorem dX3_contacts_14 : decode cX3_contacts 14 = .ok (.iload_n 3, 1) := by decide +kernel
theorem dX3_contacts_15 : decode cX3_contacts 15 = .ok (.invokevirtual 60, 3) := by decide +kernel
theorem dX3_contacts_18 : decode cX3_contacts 18 = .ok (.ifCond .eq 9, 3) := by decide +kernel
theorem dX3_contacts_21 : decode cX3_contacts 21 = .ok (.iload_n 2, 1) := by decide +kernel
theorem dX3_contacts_22 : decode cX3_contacts 22 = .ok (.iconst 1, 1) := by decide +kernel
theorem dX3_contacts_23 : decode cX3_contacts 23 = .ok (.iload_n 3, 1) := by decide +kernel
theorem dX3_contacts_24 : decode cX3_contacts 24 = .ok (.ishl, 1) := by decide +kernel
theorem dX3_contacts_25 : decode cX3_contacts 25 = .ok (.ior, 1) := by decide +kernel
theorem dX3_contacts_26 : decode cX3_contacts 26 = .ok (.istore_n 2, 1) := by decide +kernel
theorem dX3_contacts_27 : decode cX3_contacts 27 = .ok (.iinc 3 1, 3) := by decide +kernel
theorem dX3_contacts_30 : decode cX3_contacts 30 = .ok (.goto (-26), 3) := by decide +kernel
theorem dX3_contacts_33 : decode cX3_contacts 33 = .ok (.iload_n 2, 1) := by decide +kernel
theorem dX3_contacts_34 : decode cX3_contacts 34 = .ok (.ireturn, 1) := by decide +kernel
set_option maxRecDepth 20000 in
theorem ggX3_groundsSeen_X3_pointsSee : GoodIn wsX3_groundsSeen wsX3_pointsSee := goodIn_r _ [7, 8, 9, 10, 11, 12, 13, 14, 15, 16, 17, 6, 18, 19, 20, 21, 2, 22, 23, 24, 25, 26, 1, 27, 28, 29, 30, 31] (by decide +kernel) (by decide +kernel)
set_option maxRecDepth 20000 in
theorem gX3_groundsSeen_X3_pointsSee : GoodIn wsX3_groundsSeen (wsV RX3 56 RX3 yX3_pointsSee wsX3_pointsSee) := goodIn_app (goodIn_of _ (by decide +kernel)) ggX3_groundsSeen_X3_pointsSee
theorem dX3_groundsSeen_0 : decode cX3_groundsSeen 0 = .ok (.iconst 0, 1) := by decide +kernel
theorem dX3_groundsSeen_1 : decode cX3_groundsSeen 1 = .ok (.istore_n 3, 1) := by decide +kernel
theorem dX3_groundsSeen_2 : decode cX3_groundsSeen 2 = .ok (.iconst 0, 1) := by decide +kernel
theorem dX3_groundsSeen_3 : decode cX3_groundsSeen 3 = .ok (.istore 4, 2) := by decide +kernel
theorem dX3_groundsSeen_5 : decode cX3_groundsSeen 5 = .ok (.iload 4, 2) := by decide +kernel
theorem dX3_groundsSeen_7 : decode cX3_groundsSeen 7 = .ok (.aload_n 0, 1) := by decide +kernel
theorem dX3_groundsSeen_8 : decode cX3_groundsSeen 8 = .ok (.getfield 18, 3) := by decide +kernel
theorem dX3_groundsSeen_11 : decode cX3_groundsSeen 11 = .ok (.if_icmp .ge 34, 3) := by decide +kernel
theorem dX3_groundsSeen_14 : decode cX3_groundsSeen 14 = .ok (.aload_n 0, 1) := by decide +kernel
theorem dX3_groundsSeen_15 : decode cX3_groundsSeen 15 = .ok (.iload_n 1, 1) := by decide +kernel
theorem dX3_groundsSeen_16 : decode cX3_groundsSeen 16 = .ok (.iload_n 2, 1) := by decide +kernel
theorem dX3_groundsSeen_17 : decode cX3_groundsSeen 17 = .ok (.iload 4, 2) := by decide +kernel
theorem dX3_groundsSeen_19 : decode cX3_groundsSeen 19 = .ok (.aload_n 0, 1) := by decide +kernel
theorem dX3_groundsSeen_20 : decode cX3_groundsSeen 20 = .ok (.getfield 9, 3) := by decide +kernel
theorem dX3_groundsSeen_23 : decode cX3_groundsSeen 23 = .ok (.iload 4, 2) := by decide +kernel
theorem dX3_groundsSeen_25 : decode cX3_groundsSeen 25 = .ok (.iaload, 1) := by decide +kernel
theorem dX3_groundsSeen_26 : decode cX3_groundsSeen 26 = .ok (.invokevirtual 56, 3) := by decide +kernel
theorem dX3_groundsSeen_29 : decode cX3_groundsSeen 29 = .ok (.ifCond .eq 10, 3) := by decide +kernel
theorem dX3_groundsSeen_32 : decode cX3_groundsSeen 32 = .ok (.iload_n 3, 1) := by decide +kernel
theorem dX3_groundsSeen_33 : decode cX3_groundsSeen 33 = .ok (.iconst 1, 1) := by decide +kernel
theorem dX3_groundsSeen_34 : decode cX3_groundsSeen 34 = .ok (.iload 4, 2) := by decide +kernel
theorem dX3_groundsSeen_36 : decode cX3_groundsSeen 36 = .ok (.ishl, 1) := by decide +kernel
theorem dX3_groundsSeen_37 : decode cX3_groundsSeen 37 = .ok (.ior, 1) := by decide +kernel
theorem dX3_groundsSeen_38 : decode cX3_groundsSeen 38 = .ok (.istore_n 3, 1) := by decide +kernel
theorem dX3_groundsSeen_39 : decode cX3_groundsSeen 39 = .ok (.iinc 4 1, 3) := by decide +kernel
theorem dX3_groundsSeen_42 : decode cX3_groundsSeen 42 = .ok (.goto (-37), 3) := by decide +kernel
theorem dX3_groundsSeen_45 : decode cX3_groundsSeen 45 = .ok (.iload_n 3, 1) := by decide +kernel
theorem dX3_groundsSeen_46 : decode cX3_groundsSeen 46 = .ok (.ireturn, 1) := by decide +kernel
set_option maxRecDepth 20000 in
theorem ggX3_higherNeighbors_X3_has : GoodIn wsX3_higherNeighbors wsX3_has := goodIn_r _ [5, 6, 13, 14, 15, 16, 17] (by decide +kernel) (by decide +kernel)
set_option maxRecDepth 20000 in
theorem gX3_higherNeighbors_X3_has : GoodIn wsX3_higherNeighbors (wsV RX3 28 RX3 yX3_has wsX3_has) := goodIn_app (goodIn_of _ (by decide +kernel)) ggX3_higherNeighbors_X3_has
