theorem dX7_init_0 : decode cX7_init 0 = .ok (.aload_n 0, 1) := by decide +kernel
theorem dX7_init_1 : decode cX7_init 1 = .ok (.invokespecial 1, 3) := by decide +kernel
theorem dX7_init_4 : decode cX7_init 4 = .ok (.aload_n 0, 1) := by decide +kernel
theorem dX7_init_5 : decode cX7_init 5 = .ok (.bipush 43, 2) := by decide +kernel
theorem dX7_init_7 : decode cX7_init 7 = .ok (.newarray .int, 2) := by decide +kernel
theorem dX7_init_9 : decode cX7_init 9 = .ok (.putfield 7, 3) := by decide +kernel
theorem dX7_init_12 : decode cX7_init 12 = .ok (.aload_n 0, 1) := by decide +kernel
theorem dX7_init_13 : decode cX7_init 13 = .ok (.sipush 430, 3) := by decide +kernel
theorem dX7_init_16 : decode cX7_init 16 = .ok (.newarray .int, 2) := by decide +kernel
theorem dX7_init_18 : decode cX7_init 18 = .ok (.putfield 13, 3) := by decide +kernel
theorem dX7_init_21 : decode cX7_init 21 = .ok (.aload_n 0, 1) := by decide +kernel
theorem dX7_init_22 : decode cX7_init 22 = .ok (.bipush 20, 2) := by decide +kernel
theorem dX7_init_24 : decode cX7_init 24 = .ok (.newarray .int, 2) := by decide +kernel
theorem dX7_init_26 : decode cX7_init 26 = .ok (.putfield 16, 3) := by decide +kernel
theorem dX7_init_29 : decode cX7_init 29 = .ok (.aload_n 0, 1) := by decide +kernel
theorem dX7_init_30 : decode cX7_init 30 = .ok (.iconst (-1), 1) := by decide +kernel
theorem dX7_init_31 : decode cX7_init 31 = .ok (.putfield 19, 3) := by decide +kernel
theorem dX7_init_34 : decode cX7_init 34 = .ok (.aload_n 0, 1) := by decide +kernel
theorem dX7_init_35 : decode cX7_init 35 = .ok (.bipush 120, 2) := by decide +kernel
theorem dX7_init_37 : decode cX7_init 37 = .ok (.newarray .int, 2) := by decide +kernel
theorem dX7_init_39 : decode cX7_init 39 = .ok (.putfield 23, 3) := by decide +kernel
theorem dX7_init_42 : decode cX7_init 42 = .ok (.aload_n 0, 1) := by decide +kernel
theorem dX7_init_43 : decode cX7_init 43 = .ok (.bipush 20, 2) := by decide +kernel
theorem dX7_init_45 : decode cX7_init 45 = .ok (.newarray .int, 2) := by decide +kernel
theorem dX7_init_47 : decode cX7_init 47 = .ok (.putfield 26, 3) := by decide +kernel
theorem dX7_init_50 : decode cX7_init 50 = .ok (.aload_n 0, 1) := by decide +kernel
theorem dX7_init_51 : decode cX7_init 51 = .ok (.bipush 20, 2) := by decide +kernel
theorem dX7_init_53 : decode cX7_init 53 = .ok (.newarray .int, 2) := by decide +kernel
theorem dX7_init_55 : decode cX7_init 55 = .ok (.putfield 29, 3) := by decide +kernel
theorem dX7_init_58 : decode cX7_init 58 = .ok (.aload_n 0, 1) := by decide +kernel
theorem dX7_init_59 : decode cX7_init 59 = .ok (.bipush 20, 2) := by decide +kernel
theorem dX7_init_61 : decode cX7_init 61 = .ok (.newarray .int, 2) := by decide +kernel
theorem dX7_init_63 : decode cX7_init 63 = .ok (.putfield 32, 3) := by decide +kernel
theorem dX7_init_66 : decode cX7_init 66 = .ok (.aload_n 0, 1) := by decide +kernel
theorem dX7_init_67 : decode cX7_init 67 = .ok (.bipush 20, 2) := by decide +kernel
theorem dX7_init_69 : decode cX7_init 69 = .ok (.newarray .int, 2) := by decide +kernel
theorem dX7_init_71 : decode cX7_init 71 = .ok (.putfield 35, 3) := by decide +kernel
theorem dX7_init_74 : decode cX7_init 74 = .ok (.aload_n 0, 1) := by decide +kernel
theorem dX7_init_75 : decode cX7_init 75 = .ok (.getfield 7, 3) := by decide +kernel
theorem dX7_init_78 : decode cX7_init 78 = .ok (.iconst 0, 1) := by decide +kernel
theorem dX7_init_79 : decode cX7_init 79 = .ok (.iconst 2, 1) := by decide +kernel
theorem dX7_init_80 : decode cX7_init 80 = .ok (.iastore, 1) := by decide +kernel
theorem dX7_init_81 : decode cX7_init 81 = .ok (.aload_n 0, 1) := by decide +kernel
theorem dX7_init_82 : decode cX7_init 82 = .ok (.getfield 7, 3) := by decide +kernel
theorem dX7_init_85 : decode cX7_init 85 = .ok (.iconst 1, 1) := by decide +kernel
theorem dX7_init_86 : decode cX7_init 86 = .ok (.bipush 19, 2) := by decide +kernel
theorem dX7_init_88 : decode cX7_init 88 = .ok (.iastore, 1) := by decide +kernel
theorem dX7_init_89 : decode cX7_init 89 = .ok (.return_, 1) := by decide +kernel
theorem dX7_in_0 : decode cX7_in 0 = .ok (.iload_n 0, 1) := by decide +kernel
theorem dX7_in_1 : decode cX7_in 1 = .ok (.iload_n 1, 1) := by decide +kernel
theorem dX7_in_2 : decode cX7_in 2 = .ok (.if_icmp .lt 12, 3) := by decide +kernel
theorem dX7_in_5 : decode cX7_in 5 = .ok (.iload_n 0, 1) := by decide +kernel
theorem dX7_in_6 : decode cX7_in 6 = .ok (.iload_n 2, 1) := by decide +kernel
theorem dX7_in_7 : decode cX7_in 7 = .ok (.if_icmp .gt 7, 3) := by decide +kernel
theorem dX7_in_10 : decode cX7_in 10 = .ok (.iconst 1, 1) := by decide +kernel
theorem dX7_in_11 : decode cX7_in 11 = .ok (.goto 4, 3) := by decide +kernel
theorem dX7_in_14 : decode cX7_in 14 = .ok (.iconst 0, 1) := by decide +kernel
theorem dX7_in_15 : decode cX7_in 15 = .ok (.ireturn, 1) := by decide +kernel
set_option maxRecDepth 20000 in
theorem ggX7_isStation_X7_in : GoodIn wsX7_isStation wsX7_in := goodIn_r _ [5] (by decide +kernel) (by decide +kernel)
set_option maxRecDepth 20000 in
theorem gX7_isStation_X7_in : GoodIn wsX7_isStation (va_wsS RX7 38 yX7_in wsX7_in) := goodIn_app (goodIn_of _ (by decide +kernel)) ggX7_isStation_X7_in
theorem dX7_isStation_0 : decode cX7_isStation 0 = .ok (.iload_n 1, 1) := by decide +kernel
theorem dX7_isStation_1 : decode cX7_isStation 1 = .ok (.iconst 0, 1) := by decide +kernel
theorem dX7_isStation_2 : decode cX7_isStation 2 = .ok (.aload_n 0, 1) := by decide +kernel
theorem dX7_isStation_3 : decode cX7_isStation 3 = .ok (.getfield 7, 3) := by decide +kernel
theorem dX7_isStation_6 : decode cX7_isStation 6 = .ok (.iconst 0, 1) := by decide +kernel
theorem dX7_isStation_7 : decode cX7_isStation 7 = .ok (.iaload, 1) := by decide +kernel
theorem dX7_isStation_8 : decode cX7_isStation 8 = .ok (.iconst 1, 1) := by decide +kernel
theorem dX7_isStation_9 : decode cX7_isStation 9 = .ok (.isub, 1) := by decide +kernel
theorem dX7_isStation_10 : decode cX7_isStation 10 = .ok (.invokestatic 38, 3) := by decide +kernel
theorem dX7_isStation_13 : decode cX7_isStation 13 = .ok (.ireturn, 1) := by decide +kernel
theorem dX7_keeps_0 : decode cX7_keeps 0 = .ok (.aload_n 0, 1) := by decide +kernel
theorem dX7_keeps_1 : decode cX7_keeps 1 = .ok (.getfield 42, 3) := by decide +kernel
theorem dX7_keeps_4 : decode cX7_keeps 4 = .ok (.bipush 10, 2) := by decide +kernel
theorem dX7_keeps_6 : decode cX7_keeps 6 = .ok (.if_icmp .ne 43, 3) := by decide +kernel
theorem dX7_keeps_9 : decode cX7_keeps 9 = .ok (.iconst 0, 1) := by decide +kernel
theorem dX7_keeps_10 : decode cX7_keeps 10 = .ok (.istore_n 1, 1) := by decide +kernel
theorem dX7_keeps_11 : decode cX7_keeps 11 = .ok (.iload_n 1, 1) := by decide +kernel
theorem dX7_keeps_12 : decode cX7_keeps 12 = .ok (.sipush 387, 3) := by decide +kernel
theorem dX7_keeps_15 : decode cX7_keeps 15 = .ok (.if_icmp .ge 24, 3) := by decide +kernel
theorem dX7_keeps_18 : decode cX7_keeps 18 = .ok (.aload_n 0, 1) := by decide +kernel
theorem dX7_keeps_19 : decode cX7_keeps 19 = .ok (.getfield 13, 3) := by decide +kernel
theorem dX7_keeps_22 : decode cX7_keeps 22 = .ok (.iload_n 1, 1) := by decide +kernel
theorem dX7_keeps_23 : decode cX7_keeps 23 = .ok (.aload_n 0, 1) := by decide +kernel
theorem dX7_keeps_24 : decode cX7_keeps 24 = .ok (.getfield 13, 3) := by decide +kernel
theorem dX7_keeps_27 : decode cX7_keeps 27 = .ok (.iload_n 1, 1) := by decide +kernel
theorem dX7_keeps_28 : decode cX7_keeps 28 = .ok (.bipush 43, 2) := by decide +kernel
theorem dX7_keeps_30 : decode cX7_keeps 30 = .ok (.iadd, 1) := by decide +kernel
theorem dX7_keeps_31 : decode cX7_keeps 31 = .ok (.iaload, 1) := by decide +kernel
theorem dX7_keeps_32 : decode cX7_keeps 32 = .ok (.iastore, 1) := by decide +kernel
theorem dX7_keeps_33 : decode cX7_keeps 33 = .ok (.iinc 1 1, 3) := by decide +kernel
theorem dX7_keeps_36 : decode cX7_keeps 36 = .ok (.goto (-25), 3) := by decide +kernel
theorem dX7_keeps_39 : decode cX7_keeps 39 = .ok (.aload_n 0, 1) := by decide +kernel
theorem dX7_keeps_40 : decode cX7_keeps 40 = .ok (.dup, 1) := by decide +kernel
theorem dX7_keeps_41 : decode cX7_keeps 41 = .ok (.getfield 42, 3) := by decide +kernel
theorem dX7_keeps_44 : decode cX7_keeps 44 = .ok (.iconst 1, 1) := by decide +kernel
theorem dX7_keeps_45 : decode cX7_keeps 45 = .ok (.isub, 1) := by decide +kernel
theorem dX7_keeps_46 : decode cX7_keeps 46 = .ok (.putfield 42, 3) := by decide +kernel
theorem dX7_keeps_49 : decode cX7_keeps 49 = .ok (.iconst 0, 1) := by decide +kernel
theorem dX7_keeps_50 : decode cX7_keeps 50 = .ok (.istore_n 1, 1) := by decide +kernel
theorem dX7_keeps_51 : decode cX7_keeps 51 = .ok (.iload_n 1, 1) := by decide +kernel
theorem dX7_keeps_52 : decode cX7_keeps 52 = .ok (.bipush 43, 2) := by decide +kernel
theorem dX7_keeps_54 : decode cX7_keeps 54 = .ok (.if_icmp .ge 29, 3) := by decide +kernel
theorem dX7_keeps_57 : decode cX7_keeps 57 = .ok (.aload_n 0, 1) := by decide +kernel
theorem dX7_keeps_58 : decode cX7_keeps 58 = .ok (.getfield 13, 3) := by decide +kernel
theorem dX7_keeps_61 : decode cX7_keeps 61 = .ok (.bipush 43, 2) := by decide +kernel
theorem dX7_keeps_63 : decode cX7_keeps 63 = .ok (.aload_n 0, 1) := by decide +kernel
theorem dX7_keeps_64 : decode cX7_keeps 64 = .ok (.getfield 42, 3) := by decide +kernel
theorem dX7_keeps_67 : decode cX7_keeps 67 = .ok (.imul, 1) := by decide +kernel
theorem dX7_keeps_68 : decode cX7_keeps 68 = .ok (.iload_n 1, 1) := by decide +kernel
theorem dX7_keeps_69 : decode cX7_keeps 69 = .ok (.iadd, 1) := by decide +kernel
theorem dX7_keeps_70 : decode cX7_keeps 70 = .ok (.aload_n 0, 1) := by decide +kernel
theorem dX7_keeps_71 : decode cX7_keeps 71 = .ok (.getfield 7, 3) := by decide +kernel
theorem dX7_keeps_74 : decode cX7_keeps 74 = .ok (.iload_n 1, 1) := by decide +kernel
theorem dX7_keeps_75 : decode cX7_keeps 75 = .ok (.iaload, 1) := by decide +kernel
theorem dX7_keeps_76 : decode cX7_keeps 76 = .ok (.iastore, 1) := by decide +kernel
theorem dX7_keeps_77 : decode cX7_keeps 77 = .ok (.iinc 1 1, 3) := by decide +kernel
theorem dX7_keeps_80 : decode cX7_keeps 80 = .ok (.goto (-29), 3) := by decide +kernel
theorem dX7_keeps_83 : decode cX7_keeps 83 = .ok (.aload_n 0, 1) := by decide +kernel
theorem dX7_keeps_84 : decode cX7_keeps 84 = .ok (.dup, 1) := by decide +kernel
theorem dX7_keeps_85 : decode cX7_keeps 85 = .ok (.getfield 42, 3) := by decide +kernel
theorem dX7_keeps_88 : decode cX7_keeps 88 = .ok (.iconst 1, 1) := by decide +kernel
theorem dX7_keeps_89 : decode cX7_keeps 89 = .ok (.iadd, 1) := by decide +kernel
theorem dX7_keeps_90 : decode cX7_keeps 90 = .ok (.putfield 42, 3) := by decide +kernel
theorem dX7_keeps_93 : decode cX7_keeps 93 = .ok (.return_, 1) := by decide +kernel
theorem dX7_undo_0 : decode cX7_undo 0 = .ok (.aload_n 0, 1) := by decide +kernel
theorem dX7_undo_1 : decode cX7_undo 1 = .ok (.getfield 42, 3) := by decide +kernel
theorem dX7_undo_4 : decode cX7_undo 4 = .ok (.ifCond .ne 6, 3) := by decide +kernel
theorem dX7_undo_7 : decode cX7_undo 7 = .ok (.bipush (-3), 2) := by decide +kernel
theorem dX7_undo_9 : decode cX7_undo 9 = .ok (.ireturn, 1) := by decide +kernel
theorem dX7_undo_10 : decode cX7_undo 10 = .ok (.aload_n 0, 1) := by decide +kernel
theorem dX7_undo_11 : decode cX7_undo 11 = .ok (.dup, 1) := by decide +kernel
theorem dX7_undo_12 : decode cX7_undo 12 = .ok (.getfield 42, 3) := by decide +kernel
theorem dX7_undo_15 : decode cX7_undo 15 = .ok (.iconst 1, 1) := by decide +kernel
theorem dX7_undo_16 : decode cX7_undo 16 = .ok (.isub, 1) := by decide +kernel
theorem dX7_undo_17 : decode cX7_undo 17 = .ok (.putfield 42, 3) := by decide +kernel
theorem dX7_undo_20 : decode cX7_undo 20 = .ok (.iconst 0, 1) := by decide +kernel
theorem dX7_undo_21 : decode cX7_undo 21 = .ok (.istore_n 1, 1) := by decide +kernel
theorem dX7_undo_22 : decode cX7_undo 22 = .ok (.iload_n 1, 1) := by decide +kernel
theorem dX7_undo_23 : decode cX7_undo 23 = .ok (.bipush 43, 2) := by decide +kernel
theorem dX7_undo_25 : decode cX7_undo 25 = .ok (.if_icmp .ge 29, 3) := by decide +kernel
theorem dX7_undo_28 : decode cX7_undo 28 = .ok (.aload_n 0, 1) := by decide +kernel
theorem dX7_undo_29 : decode cX7_undo 29 = .ok (.getfield 7, 3) := by decide +kernel
theorem dX7_undo_32 : decode cX7_undo 32 = .ok (.iload_n 1, 1) := by decide +kernel
theorem dX7_undo_33 : decode cX7_undo 33 = .ok (.aload_n 0, 1) := by decide +kernel
theorem dX7_undo_34 : decode cX7_undo 34 = .ok (.getfield 13, 3) := by decide +kernel
theorem dX7_undo_37 : decode cX7_undo 37 = .ok (.bipush 43, 2) := by decide +kernel
theorem dX7_undo_39 : decode cX7_undo 39 = .ok (.aload_n 0, 1) := by decide +kernel
theorem dX7_undo_40 : decode cX7_undo 40 = .ok (.getfield 42, 3) := by decide +kernel
theorem dX7_undo_43 : decode cX7_undo 43 = .ok (.imul, 1) := by decide +kernel
theorem dX7_undo_44 : decode cX7_undo 44 = .ok (.iload_n 1, 1) := by decide +kernel
theorem dX7_undo_45 : decode cX7_undo 45 = .ok (.iadd, 1) := by decide +kernel
theorem dX7_undo_46 : decode cX7_undo 46 = .ok (.iaload, 1) := by decide +kernel
theorem dX7_undo_47 : decode cX7_undo 47 = .ok (.iastore, 1) := by decide +kernel
theorem dX7_undo_48 : decode cX7_undo 48 = .ok (.iinc 1 1, 3) := by decide +kernel
theorem dX7_undo_51 : decode cX7_undo 51 = .ok (.goto (-29), 3) := by decide +kernel
theorem dX7_undo_54 : decode cX7_undo 54 = .ok (.aload_n 0, 1) := by decide +kernel
theorem dX7_undo_55 : decode cX7_undo 55 = .ok (.getfield 42, 3) := by decide +kernel
theorem dX7_undo_58 : decode cX7_undo 58 = .ok (.ireturn, 1) := by decide +kernel
set_option maxRecDepth 20000 in
theorem ggX7_reset_X7_in : GoodIn wsX7_reset wsX7_in := goodIn_r _ [5] (by decide +kernel) (by decide +kernel)
set_option maxRecDepth 20000 in
theorem gX7_reset_X7_in : GoodIn wsX7_reset (va_wsS RX7 38 yX7_in wsX7_in) := goodIn_app (goodIn_of _ (by decide +kernel)) ggX7_reset_X7_in
set_option maxRecDepth 20000 in
theorem ggX7_reset_X7_keeps : GoodIn wsX7_reset wsX7_keeps := goodIn_r _ [9, 10, 11, 1, 12, 13, 14, 15, 16, 17, 18, 19, 20, 21, 22, 23, 24, 25, 26] (by decide +kernel) (by decide +kernel)
set_option maxRecDepth 20000 in
theorem gX7_reset_X7_keeps : GoodIn wsX7_reset (wsV RX7 45 RX7 yX7_keeps wsX7_keeps) := goodIn_app (goodIn_of _ (by decide +kernel)) ggX7_reset_X7_keeps
theorem dX7_reset_0 : decode cX7_reset 0 = .ok (.iload_n 1, 1) := by decide +kernel
theorem dX7_reset_1 : decode cX7_reset 1 = .ok (.iconst 2, 1) := by decide +kernel
theorem dX7_reset_2 : decode cX7_reset 2 = .ok (.bipush 20, 2) := by decide +kernel
theorem dX7_reset_4 : decode cX7_reset 4 = .ok (.invokestatic 38, 3) := by decide +kernel
theorem dX7_reset_7 : decode cX7_reset 7 = .ok (.ifCond .eq 14, 3) := by decide +kernel
theorem dX7_reset_10 : decode cX7_reset 10 = .ok (.iload_n 2, 1) := by decide +kernel
theorem dX7_reset_11 : decode cX7_reset 11 = .ok (.iconst 0, 1) := by decide +kernel
theorem dX7_reset_12 : decode cX7_reset 12 = .ok (.sipush 999, 3) := by decide +kernel
theorem dX7_reset_15 : decode cX7_reset 15 = .ok (.invokestatic 38, 3) := by decide +kernel
theorem dX7_reset_18 : decode cX7_reset 18 = .ok (.ifCond .ne 6, 3) := by decide +kernel
theorem dX7_reset_21 : decode cX7_reset 21 = .ok (.bipush (-2), 2) := by decide +kernel
theorem dX7_reset_23 : decode cX7_reset 23 = .ok (.ireturn, 1) := by decide +kernel
theorem dX7_reset_24 : decode cX7_reset 24 = .ok (.aload_n 0, 1) := by decide +kernel
theorem dX7_reset_25 : decode cX7_reset 25 = .ok (.invokevirtual 45, 3) := by decide +kernel
theorem dX7_reset_28 : decode cX7_reset 28 = .ok (.aload_n 0, 1) := by decide +kernel
theorem dX7_reset_29 : decode cX7_reset 29 = .ok (.getfield 7, 3) := by decide +kernel
theorem dX7_reset_32 : decode cX7_reset 32 = .ok (.iconst 0, 1) := by decide +kernel
theorem dX7_reset_33 : decode cX7_reset 33 = .ok (.iload_n 1, 1) := by decide +kernel
theorem dX7_reset_34 : decode cX7_reset 34 = .ok (.iastore, 1) := by decide +kernel
theorem dX7_reset_35 : decode cX7_reset 35 = .ok (.iconst 0, 1) := by decide +kernel
theorem dX7_reset_36 : decode cX7_reset 36 = .ok (.istore_n 3, 1) := by decide +kernel
theorem dX7_reset_37 : decode cX7_reset 37 = .ok (.iload_n 3, 1) := by decide +kernel
theorem dX7_reset_38 : decode cX7_reset 38 = .ok (.bipush 20, 2) := by decide +kernel
theorem dX7_reset_40 : decode cX7_reset 40 = .ok (.if_icmp .ge 28, 3) := by decide +kernel
theorem dX7_reset_43 : decode cX7_reset 43 = .ok (.aload_n 0, 1) := by decide +kernel
theorem dX7_reset_44 : decode cX7_reset 44 = .ok (.getfield 7, 3) := by decide +kernel
theorem dX7_reset_47 : decode cX7_reset 47 = .ok (.iconst 3, 1) := by decide +kernel
theorem dX7_reset_48 : decode cX7_reset 48 = .ok (.iload_n 3, 1) := by decide +kernel
theorem dX7_reset_49 : decode cX7_reset 49 = .ok (.iadd, 1) := by decide +kernel
theorem dX7_reset_50 : decode cX7_reset 50 = .ok (.iload_n 2, 1) := by decide +kernel
theorem dX7_reset_51 : decode cX7_reset 51 = .ok (.iastore, 1) := by decide +kernel
theorem dX7_reset_52 : decode cX7_reset 52 = .ok (.aload_n 0, 1) := by decide +kernel
theorem dX7_reset_53 : decode cX7_reset 53 = .ok (.getfield 7, 3) := by decide +kernel
theorem dX7_reset_56 : decode cX7_reset 56 = .ok (.bipush 23, 2) := by decide +kernel
theorem dX7_reset_58 : decode cX7_reset 58 = .ok (.iload_n 3, 1) := by decide +kernel
theorem dX7_reset_59 : decode cX7_reset 59 = .ok (.iadd, 1) := by decide +kernel
theorem dX7_reset_60 : decode cX7_reset 60 = .ok (.iconst 0, 1) := by decide +kernel
theorem dX7_reset_61 : decode cX7_reset 61 = .ok (.iastore, 1) := by decide +kernel
theorem dX7_reset_62 : decode cX7_reset 62 = .ok (.iinc 3 1, 3) := by decide +kernel
theorem dX7_reset_65 : decode cX7_reset 65 = .ok (.goto (-28), 3) := by decide +kernel
theorem dX7_reset_68 : decode cX7_reset 68 = .ok (.iload_n 1, 1) := by decide +kernel
theorem dX7_reset_69 : decode cX7_reset 69 = .ok (.ireturn, 1) := by decide +kernel
set_option maxRecDepth 20000 in
theorem ggX7_setGround_X7_isStation : GoodIn wsX7_setGround wsX7_isStation := goodIn_r _ [6, 1, 7, 8, 5, 9, 16, 17, 18, 19, 20, 21, 22, 23, 24, 25, 26, 27, 28, 29, 30] (by decide +kernel) (by decide +kernel)
set_option maxRecDepth 20000 in
theorem gX7_setGround_X7_isStation : GoodIn wsX7_setGround (wsV RX7 48 RX7 yX7_isStation wsX7_isStation) := goodIn_app (goodIn_of _ (by decide +kernel)) ggX7_setGround_X7_isStation
set_option maxRecDepth 20000 in
theorem ggX7_setGround_X7_in : GoodIn wsX7_setGround wsX7_in := goodIn_r _ [9] (by decide +kernel) (by decide +kernel)
set_option maxRecDepth 20000 in
theorem gX7_setGround_X7_in : GoodIn wsX7_setGround (va_wsS RX7 38 yX7_in wsX7_in) := goodIn_app (goodIn_of _ (by decide +kernel)) ggX7_setGround_X7_in
set_option maxRecDepth 20000 in
theorem ggX7_setGround_X7_keeps : GoodIn wsX7_setGround wsX7_keeps := goodIn_r _ [13, 14, 15, 1, 16, 17, 18, 19, 20, 21, 22, 23, 24, 25, 26, 27, 28, 29, 30] (by decide +kernel) (by decide +kernel)
set_option maxRecDepth 20000 in
theorem gX7_setGround_X7_keeps : GoodIn wsX7_setGround (wsV RX7 45 RX7 yX7_keeps wsX7_keeps) := goodIn_app (goodIn_of _ (by decide +kernel)) ggX7_setGround_X7_keeps
theorem dX7_setGround_0 : decode cX7_setGround 0 = .ok (.aload_n 0, 1) := by decide +kernel
theorem dX7_setGround_1 : decode cX7_setGround 1 = .ok (.iload_n 1, 1) := by decide +kernel
theorem dX7_setGround_2 : decode cX7_setGround 2 = .ok (.invokevirtual 48, 3) := by decide +kernel
theorem dX7_setGround_5 : decode cX7_setGround 5 = .ok (.ifCond .eq 14, 3) := by decide +kernel
theorem dX7_setGround_8 : decode cX7_setGround 8 = .ok (.iload_n 2, 1) := by decide +kernel
theorem dX7_setGround_9 : decode cX7_setGround 9 = .ok (.iconst 0, 1) := by decide +kernel
theorem dX7_setGround_10 : decode cX7_setGround 10 = .ok (.sipush 999, 3) := by decide +kernel
theorem dX7_setGround_13 : decode cX7_setGround 13 = .ok (.invokestatic 38, 3) := by decide +kernel
theorem dX7_setGround_16 : decode cX7_setGround 16 = .ok (.ifCond .ne 6, 3) := by decide +kernel
theorem dX7_setGround_19 : decode cX7_setGround 19 = .ok (.bipush (-2), 2) := by decide +kernel
theorem dX7_setGround_21 : decode cX7_setGround 21 = .ok (.ireturn, 1) := by decide +kernel
theorem dX7_setGround_22 : decode cX7_setGround 22 = .ok (.aload_n 0, 1) := by decide +kernel
theorem dX7_setGround_23 : decode cX7_setGround 23 = .ok (.invokevirtual 45, 3) := by decide +kernel
theorem dX7_setGround_26 : decode cX7_setGround 26 = .ok (.aload_n 0, 1) := by decide +kernel
theorem dX7_setGround_27 : decode cX7_setGround 27 = .ok (.getfield 7, 3) := by decide +kernel
theorem dX7_setGround_30 : decode cX7_setGround 30 = .ok (.iconst 3, 1) := by decide +kernel
theorem dX7_setGround_31 : decode cX7_setGround 31 = .ok (.iload_n 1, 1) := by decide +kernel
theorem dX7_setGround_32 : decode cX7_setGround 32 = .ok (.iadd, 1) := by decide +kernel
theorem dX7_setGround_33 : decode cX7_setGround 33 = .ok (.iaload, 1) := by decide +kernel
theorem dX7_setGround_34 : decode cX7_setGround 34 = .ok (.istore_n 3, 1) := by decide +kernel
theorem dX7_setGround_35 : decode cX7_setGround 35 = .ok (.aload_n 0, 1) := by decide +kernel
theorem dX7_setGround_36 : decode cX7_setGround 36 = .ok (.getfield 7, 3) := by decide +kernel
theorem dX7_setGround_39 : decode cX7_setGround 39 = .ok (.iconst 3, 1) := by decide +kernel
theorem dX7_setGround_40 : decode cX7_setGround 40 = .ok (.iload_n 1, 1) := by decide +kernel
theorem dX7_setGround_41 : decode cX7_setGround 41 = .ok (.iadd, 1) := by decide +kernel
theorem dX7_setGround_42 : decode cX7_setGround 42 = .ok (.iload_n 2, 1) := by decide +kernel
theorem dX7_setGround_43 : decode cX7_setGround 43 = .ok (.iastore, 1) := by decide +kernel
theorem dX7_setGround_44 : decode cX7_setGround 44 = .ok (.iload_n 3, 1) := by decide +kernel
theorem dX7_setGround_45 : decode cX7_setGround 45 = .ok (.ireturn, 1) := by decide +kernel
set_option maxRecDepth 20000 in
theorem ggX7_slope_X7_isStation : GoodIn wsX7_slope wsX7_isStation := goodIn_r _ [6, 1, 7, 8, 5, 9, 16, 17, 18, 19, 20, 21, 22, 23, 24, 25, 26, 27, 28, 29, 30] (by decide +kernel) (by decide +kernel)
set_option maxRecDepth 20000 in
theorem gX7_slope_X7_isStation : GoodIn wsX7_slope (wsV RX7 48 RX7 yX7_isStation wsX7_isStation) := goodIn_app (goodIn_of _ (by decide +kernel)) ggX7_slope_X7_isStation
set_option maxRecDepth 20000 in
theorem ggX7_slope_X7_keeps : GoodIn wsX7_slope wsX7_keeps := goodIn_r _ [13, 14, 15, 1, 16, 17, 18, 19, 20, 21, 22, 23, 24, 25, 26, 27, 28, 29, 30] (by decide +kernel) (by decide +kernel)
set_option maxRecDepth 20000 in
theorem gX7_slope_X7_keeps : GoodIn wsX7_slope (wsV RX7 45 RX7 yX7_keeps wsX7_keeps) := goodIn_app (goodIn_of _ (by decide +kernel)) ggX7_slope_X7_keeps
theorem dX7_slope_0 : decode cX7_slope 0 = .ok (.aload_n 0, 1) := by decide +kernel
theorem dX7_slope_1 : decode cX7_slope 1 = .ok (.iload_n 1, 1) := by decide +kernel
theorem dX7_slope_2 : decode cX7_slope 2 = .ok (.invokevirtual 48, 3) := by decide +kernel
theorem dX7_slope_5 : decode cX7_slope 5 = .ok (.ifCond .eq 16, 3) := by decide +kernel
theorem dX7_slope_8 : decode cX7_slope 8 = .ok (.aload_n 0, 1) := by decide +kernel
theorem dX7_slope_9 : decode cX7_slope 9 = .ok (.iload_n 2, 1) := by decide +kernel
theorem dX7_slope_10 : decode cX7_slope 10 = .ok (.invokevirtual 48, 3) := by decide +kernel
theorem dX7_slope_13 : decode cX7_slope 13 = .ok (.ifCond .eq 8, 3) := by decide +kernel
theorem dX7_slope_16 : decode cX7_slope 16 = .ok (.iload_n 2, 1) := by decide +kernel
theorem dX7_slope_17 : decode cX7_slope 17 = .ok (.iload_n 1, 1) := by decide +kernel
theorem dX7_slope_18 : decode cX7_slope 18 = .ok (.if_icmp .gt 6, 3) := by decide +kernel
theorem dX7_slope_21 : decode cX7_slope 21 = .ok (.bipush (-2), 2) := by decide +kernel
theorem dX7_slope_23 : decode cX7_slope 23 = .ok (.ireturn, 1) := by decide +kernel
theorem dX7_slope_24 : decode cX7_slope 24 = .ok (.aload_n 0, 1) := by decide +kernel
theorem dX7_slope_25 : decode cX7_slope 25 = .ok (.invokevirtual 45, 3) := by decide +kernel
theorem dX7_slope_28 : decode cX7_slope 28 = .ok (.iconst 0, 1) := by decide +kernel
theorem dX7_slope_29 : decode cX7_slope 29 = .ok (.istore_n 3, 1) := by decide +kernel
theorem dX7_slope_30 : decode cX7_slope 30 = .ok (.iload_n 1, 1) := by decide +kernel
theorem dX7_slope_31 : decode cX7_slope 31 = .ok (.iconst 1, 1) := by decide +kernel
theorem dX7_slope_32 : decode cX7_slope 32 = .ok (.iadd, 1) := by decide +kernel
theorem dX7_slope_33 : decode cX7_slope 33 = .ok (.istore 4, 2) := by decide +kernel
theorem dX7_slope_35 : decode cX7_slope 35 = .ok (.iload 4, 2) := by decide +kernel
theorem dX7_slope_37 : decode cX7_slope 37 = .ok (.iload_n 2, 1) := by decide +kernel
theorem dX7_slope_38 : decode cX7_slope 38 = .ok (.if_icmp .ge 79, 3) := by decide +kernel
theorem dX7_slope_41 : decode cX7_slope 41 = .ok (.aload_n 0, 1) := by decide +kernel
theorem dX7_slope_42 : decode cX7_slope 42 = .ok (.getfield 7, 3) := by decide +kernel
theorem dX7_slope_45 : decode cX7_slope 45 = .ok (.iconst 3, 1) := by decide +kernel
theorem dX7_slope_46 : decode cX7_slope 46 = .ok (.iload_n 1, 1) := by decide +kernel
theorem dX7_slope_47 : decode cX7_slope 47 = .ok (.iadd, 1) := by decide +kernel
theorem dX7_slope_48 : decode cX7_slope 48 = .ok (.iaload, 1) := by decide +kernel
theorem dX7_slope_49 : decode cX7_slope 49 = .ok (.aload_n 0, 1) := by decide +kernel
theorem dX7_slope_50 : decode cX7_slope 50 = .ok (.getfield 7, 3) := by decide +kernel
theorem dX7_slope_53 : decode cX7_slope 53 = .ok (.iconst 3, 1) := by decide +kernel
theorem dX7_slope_54 : decode cX7_slope 54 = .ok (.iload_n 2, 1) := by decide +kernel
theorem dX7_slope_55 : decode cX7_slope 55 = .ok (.iadd, 1) := by decide +kernel
theorem dX7_slope_56 : decode cX7_slope 56 = .ok (.iaload, 1) := by decide +kernel
theorem dX7_slope_57 : decode cX7_slope 57 = .ok (.aload_n 0, 1) := by decide +kernel
theorem dX7_slope_58 : decode cX7_slope 58 = .ok (.getfield 7, 3) := by decide +kernel
theorem dX7_slope_61 : decode cX7_slope 61 = .ok (.iconst 3, 1) := by decide +kernel
theorem dX7_slope_62 : decode cX7_slope 62 = .ok (.iload_n 1, 1) := by decide +kernel
theorem dX7_slope_63 : decode cX7_slope 63 = .ok (.iadd, 1) := by decide +kernel
theorem dX7_slope_64 : decode cX7_slope 64 = .ok (.iaload, 1) := by decide +kernel
theorem dX7_slope_65 : decode cX7_slope 65 = .ok (.isub, 1) := by decide +kernel
theorem dX7_slope_66 : decode cX7_slope 66 = .ok (.iload 4, 2) := by decide +kernel
theorem dX7_slope_68 : decode cX7_slope 68 = .ok (.iload_n 1, 1) := by decide +kernel
theorem dX7_slope_69 : decode cX7_slope 69 = .ok (.isub, 1) := by decide +kernel
theorem dX7_slope_70 : decode cX7_slope 70 = .ok (.imul, 1) := by decide +kernel
theorem dX7_slope_71 : decode cX7_slope 71 = .ok (.iload_n 2, 1) := by decide +kernel
theorem dX7_slope_72 : decode cX7_slope 72 = .ok (.iload_n 1, 1) := by decide +kernel
theorem dX7_slope_73 : decode cX7_slope 73 = .ok (.isub, 1) := by decide +kernel
theorem dX7_slope_74 : decode cX7_slope 74 = .ok (.idiv, 1) := by decide +kernel
theorem dX7_slope_75 : decode cX7_slope 75 = .ok (.iadd, 1) := by decide +kernel
theorem dX7_slope_76 : decode cX7_slope 76 = .ok (.istore 5, 2) := by decide +kernel
theorem dX7_slope_78 : decode cX7_slope 78 = .ok (.iload_n 3, 1) := by decide +kernel
theorem dX7_slope_79 : decode cX7_slope 79 = .ok (.iload 5, 2) := by decide +kernel
theorem dX7_slope_81 : decode cX7_slope 81 = .ok (.aload_n 0, 1) := by decide +kernel
theorem dX7_slope_82 : decode cX7_slope 82 = .ok (.getfield 7, 3) := by decide +kernel
theorem dX7_slope_85 : decode cX7_slope 85 = .ok (.iconst 3, 1) := by decide +kernel
theorem dX7_slope_86 : decode cX7_slope 86 = .ok (.iload 4, 2) := by decide +kernel
theorem dX7_slope_88 : decode cX7_slope 88 = .ok (.iadd, 1) := by decide +kernel
theorem dX7_slope_89 : decode cX7_slope 89 = .ok (.iaload, 1) := by decide +kernel
theorem dX7_slope_90 : decode cX7_slope 90 = .ok (.if_icmp .ne 7, 3) := by decide +kernel
theorem dX7_slope_93 : decode cX7_slope 93 = .ok (.iconst 0, 1) := by decide +kernel
theorem dX7_slope_94 : decode cX7_slope 94 = .ok (.goto 4, 3) := by decide +kernel
theorem dX7_slope_97 : decode cX7_slope 97 = .ok (.iconst 1, 1) := by decide +kernel
theorem dX7_slope_98 : decode cX7_slope 98 = .ok (.iadd, 1) := by decide +kernel
theorem dX7_slope_99 : decode cX7_slope 99 = .ok (.istore_n 3, 1) := by decide +kernel
theorem dX7_slope_100 : decode cX7_slope 100 = .ok (.aload_n 0, 1) := by decide +kernel
theorem dX7_slope_101 : decode cX7_slope 101 = .ok (.getfield 7, 3) := by decide +kernel
theorem dX7_slope_104 : decode cX7_slope 104 = .ok (.iconst 3, 1) := by decide +kernel
theorem dX7_slope_105 : decode cX7_slope 105 = .ok (.iload 4, 2) := by decide +kernel
theorem dX7_slope_107 : decode cX7_slope 107 = .ok (.iadd, 1) := by decide +kernel
theorem dX7_slope_108 : decode cX7_slope 108 = .ok (.iload 5, 2) := by decide +kernel
theorem dX7_slope_110 : decode cX7_slope 110 = .ok (.iastore, 1) := by decide +kernel
theorem dX7_slope_111 : decode cX7_slope 111 = .ok (.iinc 4 1, 3) := by decide +kernel
theorem dX7_slope_114 : decode cX7_slope 114 = .ok (.goto (-79), 3) := by decide +kernel
theorem dX7_slope_117 : decode cX7_slope 117 = .ok (.iload_n 3, 1) := by decide +kernel
theorem dX7_slope_118 : decode cX7_slope 118 = .ok (.ireturn, 1) := by decide +kernel
set_option maxRecDepth 20000 in
theorem ggX7_mast_X7_isStation : GoodIn wsX7_mast wsX7_isStation := goodIn_r _ [6, 1, 7, 8, 5, 9, 16, 17, 18, 19, 20, 21, 22, 23, 24, 25, 26, 27, 28, 29, 30] (by decide +kernel) (by decide +kernel)
set_option maxRecDepth 20000 in
theorem gX7_mast_X7_isStation : GoodIn wsX7_mast (wsV RX7 48 RX7 yX7_isStation wsX7_isStation) := goodIn_app (goodIn_of _ (by decide +kernel)) ggX7_mast_X7_isStation
set_option maxRecDepth 20000 in
theorem ggX7_mast_X7_in : GoodIn wsX7_mast wsX7_in := goodIn_r _ [9] (by decide +kernel) (by decide +kernel)
set_option maxRecDepth 20000 in
theorem gX7_mast_X7_in : GoodIn wsX7_mast (va_wsS RX7 38 yX7_in wsX7_in) := goodIn_app (goodIn_of _ (by decide +kernel)) ggX7_mast_X7_in
set_option maxRecDepth 20000 in
theorem ggX7_mast_X7_keeps : GoodIn wsX7_mast wsX7_keeps := goodIn_r _ [13, 14, 15, 1, 16, 17, 18, 19, 20, 21, 22, 23, 24, 25, 26, 27, 28, 29, 30] (by decide +kernel) (by decide +kernel)
set_option maxRecDepth 20000 in
theorem gX7_mast_X7_keeps : GoodIn wsX7_mast (wsV RX7 45 RX7 yX7_keeps wsX7_keeps) := goodIn_app (goodIn_of _ (by decide +kernel)) ggX7_mast_X7_keeps
theorem dX7_mast_0 : decode cX7_mast 0 = .ok (.aload_n 0, 1) := by decide +kernel
theorem dX7_mast_1 : decode cX7_mast 1 = .ok (.iload_n 1, 1) := by decide +kernel
theorem dX7_mast_2 : decode cX7_mast 2 = .ok (.invokevirtual 48, 3) := by decide +kernel
theorem dX7_mast_5 : decode cX7_mast 5 = .ok (.ifCond .eq 14, 3) := by decide +kernel
theorem dX7_mast_8 : decode cX7_mast 8 = .ok (.iload_n 2, 1) := by decide +kernel
theorem dX7_mast_9 : decode cX7_mast 9 = .ok (.iconst 0, 1) := by decide +kernel
theorem dX7_mast_10 : decode cX7_mast 10 = .ok (.sipush 200, 3) := by decide +kernel
theorem dX7_mast_13 : decode cX7_mast 13 = .ok (.invokestatic 38, 3) := by decide +kernel
theorem dX7_mast_16 : decode cX7_mast 16 = .ok (.ifCond .ne 6, 3) := by decide +kernel
theorem dX7_mast_19 : decode cX7_mast 19 = .ok (.bipush (-2), 2) := by decide +kernel
theorem dX7_mast_21 : decode cX7_mast 21 = .ok (.ireturn, 1) := by decide +kernel
theorem dX7_mast_22 : decode cX7_mast 22 = .ok (.aload_n 0, 1) := by decide +kernel
theorem dX7_mast_23 : decode cX7_mast 23 = .ok (.invokevirtual 45, 3) := by decide +kernel
theorem dX7_mast_26 : decode cX7_mast 26 = .ok (.aload_n 0, 1) := by decide +kernel
theorem dX7_mast_27 : decode cX7_mast 27 = .ok (.getfield 7, 3) := by decide +kernel
theorem dX7_mast_30 : decode cX7_mast 30 = .ok (.bipush 23, 2) := by decide +kernel
theorem dX7_mast_32 : decode cX7_mast 32 = .ok (.iload_n 1, 1) := by decide +kernel
theorem dX7_mast_33 : decode cX7_mast 33 = .ok (.iadd, 1) := by decide +kernel
theorem dX7_mast_34 : decode cX7_mast 34 = .ok (.iaload, 1) := by decide +kernel
theorem dX7_mast_35 : decode cX7_mast 35 = .ok (.istore_n 3, 1) := by decide +kernel
theorem dX7_mast_36 : decode cX7_mast 36 = .ok (.aload_n 0, 1) := by decide +kernel
theorem dX7_mast_37 : decode cX7_mast 37 = .ok (.getfield 7, 3) := by decide +kernel
theorem dX7_mast_40 : decode cX7_mast 40 = .ok (.bipush 23, 2) := by decide +kernel
theorem dX7_mast_42 : decode cX7_mast 42 = .ok (.iload_n 1, 1) := by decide +kernel
theorem dX7_mast_43 : decode cX7_mast 43 = .ok (.iadd, 1) := by decide +kernel
theorem dX7_mast_44 : decode cX7_mast 44 = .ok (.iload_n 2, 1) := by decide +kernel
theorem dX7_mast_45 : decode cX7_mast 45 = .ok (.iastore, 1) := by decide +kernel
theorem dX7_mast_46 : decode cX7_mast 46 = .ok (.iload_n 3, 1) := by decide +kernel
theorem dX7_mast_47 : decode cX7_mast 47 = .ok (.ireturn, 1) := by decide +kernel
set_option maxRecDepth 20000 in
theorem ggX7_reverse_X7_keeps : GoodIn wsX7_reverse wsX7_keeps := goodIn_r _ [6, 7, 8, 1, 9, 10, 11, 12, 13, 14, 15, 16, 17, 18, 19, 20, 21, 22, 23] (by decide +kernel) (by decide +kernel)
set_option maxRecDepth 20000 in
theorem gX7_reverse_X7_keeps : GoodIn wsX7_reverse (wsV RX7 45 RX7 yX7_keeps wsX7_keeps) := goodIn_app (goodIn_of _ (by decide +kernel)) ggX7_reverse_X7_keeps
theorem dX7_reverse_0 : decode cX7_reverse 0 = .ok (.aload_n 0, 1) := by decide +kernel
theorem dX7_reverse_1 : decode cX7_reverse 1 = .ok (.invokevirtual 45, 3) := by decide +kernel
theorem dX7_reverse_4 : decode cX7_reverse 4 = .ok (.iconst 0, 1) := by decide +kernel
theorem dX7_reverse_5 : decode cX7_reverse 5 = .ok (.istore_n 1, 1) := by decide +kernel
theorem dX7_reverse_6 : decode cX7_reverse 6 = .ok (.iconst 0, 1) := by decide +kernel
theorem dX7_reverse_7 : decode cX7_reverse 7 = .ok (.istore_n 2, 1) := by decide +kernel
theorem dX7_reverse_8 : decode cX7_reverse 8 = .ok (.iload_n 2, 1) := by decide +kernel
theorem dX7_reverse_9 : decode cX7_reverse 9 = .ok (.aload_n 0, 1) := by decide +kernel
theorem dX7_reverse_10 : decode cX7_reverse 10 = .ok (.getfield 7, 3) := by decide +kernel
theorem dX7_reverse_13 : decode cX7_reverse 13 = .ok (.iconst 0, 1) := by decide +kernel
theorem dX7_reverse_14 : decode cX7_reverse 14 = .ok (.iaload, 1) := by decide +kernel
theorem dX7_reverse_15 : decode cX7_reverse 15 = .ok (.if_icmp .ge 68, 3) := by decide +kernel
theorem dX7_reverse_18 : decode cX7_reverse 18 = .ok (.aload_n 0, 1) := by decide +kernel
theorem dX7_reverse_19 : decode cX7_reverse 19 = .ok (.getfield 7, 3) := by decide +kernel
theorem dX7_reverse_22 : decode cX7_reverse 22 = .ok (.iconst 0, 1) := by decide +kernel
theorem dX7_reverse_23 : decode cX7_reverse 23 = .ok (.iaload, 1) := by decide +kernel
theorem dX7_reverse_24 : decode cX7_reverse 24 = .ok (.iconst 1, 1) := by decide +kernel
theorem dX7_reverse_25 : decode cX7_reverse 25 = .ok (.isub, 1) := by decide +kernel
theorem dX7_reverse_26 : decode cX7_reverse 26 = .ok (.iload_n 2, 1) := by decide +kernel
theorem dX7_reverse_27 : decode cX7_reverse 27 = .ok (.isub, 1) := by decide +kernel
theorem dX7_reverse_28 : decode cX7_reverse 28 = .ok (.istore_n 3, 1) := by decide +kernel
theorem dX7_reverse_29 : decode cX7_reverse 29 = .ok (.iload_n 1, 1) := by decide +kernel
theorem dX7_reverse_30 : decode cX7_reverse 30 = .ok (.aload_n 0, 1) := by decide +kernel
theorem dX7_reverse_31 : decode cX7_reverse 31 = .ok (.getfield 7, 3) := by decide +kernel
theorem dX7_reverse_34 : decode cX7_reverse 34 = .ok (.iconst 3, 1) := by decide +kernel
theorem dX7_reverse_35 : decode cX7_reverse 35 = .ok (.iload_n 2, 1) := by decide +kernel
theorem dX7_reverse_36 : decode cX7_reverse 36 = .ok (.iadd, 1) := by decide +kernel
theorem dX7_reverse_37 : decode cX7_reverse 37 = .ok (.iaload, 1) := by decide +kernel
theorem dX7_reverse_38 : decode cX7_reverse 38 = .ok (.aload_n 0, 1) := by decide +kernel
theorem dX7_reverse_39 : decode cX7_reverse 39 = .ok (.getfield 7, 3) := by decide +kernel
theorem dX7_reverse_42 : decode cX7_reverse 42 = .ok (.iconst 3, 1) := by decide +kernel
theorem dX7_reverse_43 : decode cX7_reverse 43 = .ok (.iload_n 3, 1) := by decide +kernel
theorem dX7_reverse_44 : decode cX7_reverse 44 = .ok (.iadd, 1) := by decide +kernel
theorem dX7_reverse_45 : decode cX7_reverse 45 = .ok (.iaload, 1) := by decide +kernel
theorem dX7_reverse_46 : decode cX7_reverse 46 = .ok (.if_icmp .ne 28, 3) := by decide +kernel
theorem dX7_reverse_49 : decode cX7_reverse 49 = .ok (.aload_n 0, 1) := by decide +kernel
theorem dX7_reverse_50 : decode cX7_reverse 50 = .ok (.getfield 7, 3) := by decide +kernel
theorem dX7_reverse_53 : decode cX7_reverse 53 = .ok (.bipush 23, 2) := by decide +kernel
theorem dX7_reverse_55 : decode cX7_reverse 55 = .ok (.iload_n 2, 1) := by decide +kernel
theorem dX7_reverse_56 : decode cX7_reverse 56 = .ok (.iadd, 1) := by decide +kernel
theorem dX7_reverse_57 : decode cX7_reverse 57 = .ok (.iaload, 1) := by decide +kernel
theorem dX7_reverse_58 : decode cX7_reverse 58 = .ok (.aload_n 0, 1) := by decide +kernel
theorem dX7_reverse_59 : decode cX7_reverse 59 = .ok (.getfield 7, 3) := by decide +kernel
theorem dX7_reverse_62 : decode cX7_reverse 62 = .ok (.bipush 23, 2) := by decide +kernel
theorem dX7_reverse_64 : decode cX7_reverse 64 = .ok (.iload_n 3, 1) := by decide +kernel
theorem dX7_reverse_65 : decode cX7_reverse 65 = .ok (.iadd, 1) := by decide +kernel
theorem dX7_reverse_66 : decode cX7_reverse 66 = .ok (.iaload, 1) := by decide +kernel
theorem dX7_reverse_67 : decode cX7_reverse 67 = .ok (.if_icmp .ne 7, 3) := by decide +kernel
theorem dX7_reverse_70 : decode cX7_reverse 70 = .ok (.iconst 0, 1) := by decide +kernel
theorem dX7_reverse_71 : decode cX7_reverse 71 = .ok (.goto 4, 3) := by decide +kernel
theorem dX7_reverse_74 : decode cX7_reverse 74 = .ok (.iconst 1, 1) := by decide +kernel
theorem dX7_reverse_75 : decode cX7_reverse 75 = .ok (.iadd, 1) := by decide +kernel
theorem dX7_reverse_76 : decode cX7_reverse 76 = .ok (.istore_n 1, 1) := by decide +kernel
theorem dX7_reverse_77 : decode cX7_reverse 77 = .ok (.iinc 2 1, 3) := by decide +kernel
theorem dX7_reverse_80 : decode cX7_reverse 80 = .ok (.goto (-72), 3) := by decide +kernel
theorem dX7_reverse_83 : decode cX7_reverse 83 = .ok (.iconst 0, 1) := by decide +kernel
theorem dX7_reverse_84 : decode cX7_reverse 84 = .ok (.istore_n 2, 1) := by decide +kernel
theorem dX7_reverse_85 : decode cX7_reverse 85 = .ok (.iload_n 2, 1) := by decide +kernel
theorem dX7_reverse_86 : decode cX7_reverse 86 = .ok (.aload_n 0, 1) := by decide +kernel
theorem dX7_reverse_87 : decode cX7_reverse 87 = .ok (.getfield 7, 3) := by decide +kernel
theorem dX7_reverse_90 : decode cX7_reverse 90 = .ok (.iconst 0, 1) := by decide +kernel
theorem dX7_reverse_91 : decode cX7_reverse 91 = .ok (.iaload, 1) := by decide +kernel
theorem dX7_reverse_92 : decode cX7_reverse 92 = .ok (.iconst 2, 1) := by decide +kernel
theorem dX7_reverse_93 : decode cX7_reverse 93 = .ok (.idiv, 1) := by decide +kernel
theorem dX7_reverse_94 : decode cX7_reverse 94 = .ok (.if_icmp .ge 96, 3) := by decide +kernel
theorem dX7_reverse_97 : decode cX7_reverse 97 = .ok (.aload_n 0, 1) := by decide +kernel
theorem dX7_reverse_98 : decode cX7_reverse 98 = .ok (.getfield 7, 3) := by decide +kernel
theorem dX7_reverse_101 : decode cX7_reverse 101 = .ok (.iconst 0, 1) := by decide +kernel
theorem dX7_reverse_102 : decode cX7_reverse 102 = .ok (.iaload, 1) := by decide +kernel
theorem dX7_reverse_103 : decode cX7_reverse 103 = .ok (.iconst 1, 1) := by decide +kernel
theorem dX7_reverse_104 : decode cX7_reverse 104 = .ok (.isub, 1) := by decide +kernel
theorem dX7_reverse_105 : decode cX7_reverse 105 = .ok (.iload_n 2, 1) := by decide +kernel
theorem dX7_reverse_106 : decode cX7_reverse 106 = .ok (.isub, 1) := by decide +kernel
theorem dX7_reverse_107 : decode cX7_reverse 107 = .ok (.istore_n 3, 1) := by decide +kernel
theorem dX7_reverse_108 : decode cX7_reverse 108 = .ok (.aload_n 0, 1) := by decide +kernel
theorem dX7_reverse_109 : decode cX7_reverse 109 = .ok (.getfield 7, 3) := by decide +kernel
theorem dX7_reverse_112 : decode cX7_reverse 112 = .ok (.iconst 3, 1) := by decide +kernel
theorem dX7_reverse_113 : decode cX7_reverse 113 = .ok (.iload_n 2, 1) := by decide +kernel
theorem dX7_reverse_114 : decode cX7_reverse 114 = .ok (.iadd, 1) := by decide +kernel
theorem dX7_reverse_115 : decode cX7_reverse 115 = .ok (.iaload, 1) := by decide +kernel
theorem dX7_reverse_116 : decode cX7_reverse 116 = .ok (.istore 4, 2) := by decide +kernel
theorem dX7_reverse_118 : decode cX7_reverse 118 = .ok (.aload_n 0, 1) := by decide +kernel
theorem dX7_reverse_119 : decode cX7_reverse 119 = .ok (.getfield 7, 3) := by decide +kernel
theorem dX7_reverse_122 : decode cX7_reverse 122 = .ok (.bipush 23, 2) := by decide +kernel
theorem dX7_reverse_124 : decode cX7_reverse 124 = .ok (.iload_n 2, 1) := by decide +kernel
theorem dX7_reverse_125 : decode cX7_reverse 125 = .ok (.iadd, 1) := by decide +kernel
theorem dX7_reverse_126 : decode cX7_reverse 126 = .ok (.iaload, 1) := by decide +kernel
theorem dX7_reverse_127 : decode cX7_reverse 127 = .ok (.istore 5, 2) := by decide +kernel
theorem dX7_reverse_129 : decode cX7_reverse 129 = .ok (.aload_n 0, 1) := by decide +kernel
theorem dX7_reverse_130 : decode cX7_reverse 130 = .ok (.getfield 7, 3) := by decide +kernel
theorem dX7_reverse_133 : decode cX7_reverse 133 = .ok (.iconst 3, 1) := by decide +kernel
theorem dX7_reverse_134 : decode cX7_reverse 134 = .ok (.iload_n 2, 1) := by decide +kernel
theorem dX7_reverse_135 : decode cX7_reverse 135 = .ok (.iadd, 1) := by decide +kernel
theorem dX7_reverse_136 : decode cX7_reverse 136 = .ok (.aload_n 0, 1) := by decide +kernel
theorem dX7_reverse_137 : decode cX7_reverse 137 = .ok (.getfield 7, 3) := by decide +kernel
theorem dX7_reverse_140 : decode cX7_reverse 140 = .ok (.iconst 3, 1) := by decide +kernel
theorem dX7_reverse_141 : decode cX7_reverse 141 = .ok (.iload_n 3, 1) := by decide +kernel
theorem dX7_reverse_142 : decode cX7_reverse 142 = .ok (.iadd, 1) := by decide +kernel
theorem dX7_reverse_143 : decode cX7_reverse 143 = .ok (.iaload, 1) := by decide +kernel
theorem dX7_reverse_144 : decode cX7_reverse 144 = .ok (.iastore, 1) := by decide +kernel
theorem dX7_reverse_145 : decode cX7_reverse 145 = .ok (.aload_n 0, 1) := by decide +kernel
theorem dX7_reverse_146 : decode cX7_reverse 146 = .ok (.getfield 7, 3) := by decide +kernel
theorem dX7_reverse_149 : decode cX7_reverse 149 = .ok (.bipush 23, 2) := by decide +kernel
theorem dX7_reverse_151 : decode cX7_reverse 151 = .ok (.iload_n 2, 1) := by decide +kernel
theorem dX7_reverse_152 : decode cX7_reverse 152 = .ok (.iadd, 1) := by decide +kernel
theorem dX7_reverse_153 : decode cX7_reverse 153 = .ok (.aload_n 0, 1) := by decide +kernel
theorem dX7_reverse_154 : decode cX7_reverse 154 = .ok (.getfield 7, 3) := by decide +kernel
theorem dX7_reverse_157 : decode cX7_reverse 157 = .ok (.bipush 23, 2) := by decide +kernel
theorem dX7_reverse_159 : decode cX7_reverse 159 = .ok (.iload_n 3, 1) := by decide +kernel
theorem dX7_reverse_160 : decode cX7_reverse 160 = .ok (.iadd, 1) := by decide +kernel
theorem dX7_reverse_161 : decode cX7_reverse 161 = .ok (.iaload, 1) := by decide +kernel
theorem dX7_reverse_162 : decode cX7_reverse 162 = .ok (.iastore, 1) := by decide +kernel
theorem dX7_reverse_163 : decode cX7_reverse 163 = .ok (.aload_n 0, 1) := by decide +kernel
theorem dX7_reverse_164 : decode cX7_reverse 164 = .ok (.getfield 7, 3) := by decide +kernel
theorem dX7_reverse_167 : decode cX7_reverse 167 = .ok (.iconst 3, 1) := by decide +kernel
theorem dX7_reverse_168 : decode cX7_reverse 168 = .ok (.iload_n 3, 1) := by decide +kernel
theorem dX7_reverse_169 : decode cX7_reverse 169 = .ok (.iadd, 1) := by decide +kernel
theorem dX7_reverse_170 : decode cX7_reverse 170 = .ok (.iload 4, 2) := by decide +kernel
theorem dX7_reverse_172 : decode cX7_reverse 172 = .ok (.iastore, 1) := by decide +kernel
theorem dX7_reverse_173 : decode cX7_reverse 173 = .ok (.aload_n 0, 1) := by decide +kernel
theorem dX7_reverse_174 : decode cX7_reverse 174 = .ok (.getfield 7, 3) := by decide +kernel
theorem dX7_reverse_177 : decode cX7_reverse 177 = .ok (.bipush 23, 2) := by decide +kernel
theorem dX7_reverse_179 : decode cX7_reverse 179 = .ok (.iload_n 3, 1) := by decide +kernel
theorem dX7_reverse_180 : decode cX7_reverse 180 = .ok (.iadd, 1) := by decide +kernel
theorem dX7_reverse_181 : decode cX7_reverse 181 = .ok (.iload 5, 2) := by decide +kernel
theorem dX7_reverse_183 : decode cX7_reverse 183 = .ok (.iastore, 1) := by decide +kernel
theorem dX7_reverse_184 : decode cX7_reverse 184 = .ok (.iinc 2 1, 3) := by decide +kernel
theorem dX7_reverse_187 : decode cX7_reverse 187 = .ok (.goto (-102), 3) := by decide +kernel
theorem dX7_reverse_190 : decode cX7_reverse 190 = .ok (.iload_n 1, 1) := by decide +kernel
theorem dX7_reverse_191 : decode cX7_reverse 191 = .ok (.ireturn, 1) := by decide +kernel
set_option maxRecDepth 20000 in
theorem ggX7_setRange_X7_in : GoodIn wsX7_setRange wsX7_in := goodIn_r _ [5] (by decide +kernel) (by decide +kernel)
set_option maxRecDepth 20000 in
theorem gX7_setRange_X7_in : GoodIn wsX7_setRange (va_wsS RX7 38 yX7_in wsX7_in) := goodIn_app (goodIn_of _ (by decide +kernel)) ggX7_setRange_X7_in
set_option maxRecDepth 20000 in
theorem ggX7_setRange_X7_keeps : GoodIn wsX7_setRange wsX7_keeps := goodIn_r _ [9, 10, 11, 1, 12, 13, 14, 15, 16, 17, 18, 19, 20, 21, 22, 23, 24, 25, 26] (by decide +kernel) (by decide +kernel)
set_option maxRecDepth 20000 in
theorem gX7_setRange_X7_keeps : GoodIn wsX7_setRange (wsV RX7 45 RX7 yX7_keeps wsX7_keeps) := goodIn_app (goodIn_of _ (by decide +kernel)) ggX7_setRange_X7_keeps
theorem dX7_setRange_0 : decode cX7_setRange 0 = .ok (.iload_n 1, 1) := by decide +kernel
theorem dX7_setRange_1 : decode cX7_setRange 1 = .ok (.iconst 1, 1) := by decide +kernel
theorem dX7_setRange_2 : decode cX7_setRange 2 = .ok (.bipush 19, 2) := by decide +kernel
theorem dX7_setRange_4 : decode cX7_setRange 4 = .ok (.invokestatic 38, 3) := by decide +kernel
theorem dX7_setRange_7 : decode cX7_setRange 7 = .ok (.ifCond .ne 6, 3) := by decide +kernel
theorem dX7_setRange_10 : decode cX7_setRange 10 = .ok (.bipush (-2), 2) := by decide +kernel
theorem dX7_setRange_12 : decode cX7_setRange 12 = .ok (.ireturn, 1) := by decide +kernel
theorem dX7_setRange_13 : decode cX7_setRange 13 = .ok (.aload_n 0, 1) := by decide +kernel
theorem dX7_setRange_14 : decode cX7_setRange 14 = .ok (.invokevirtual 45, 3) := by decide +kernel
theorem dX7_setRange_17 : decode cX7_setRange 17 = .ok (.aload_n 0, 1) := by decide +kernel
theorem dX7_setRange_18 : decode cX7_setRange 18 = .ok (.getfield 7, 3) := by decide +kernel
theorem dX7_setRange_21 : decode cX7_setRange 21 = .ok (.iconst 1, 1) := by decide +kernel
theorem dX7_setRange_22 : decode cX7_setRange 22 = .ok (.iaload, 1) := by decide +kernel
theorem dX7_setRange_23 : decode cX7_setRange 23 = .ok (.istore_n 2, 1) := by decide +kernel
theorem dX7_setRange_24 : decode cX7_setRange 24 = .ok (.aload_n 0, 1) := by decide +kernel
theorem dX7_setRange_25 : decode cX7_setRange 25 = .ok (.getfield 7, 3) := by decide +kernel
theorem dX7_setRange_28 : decode cX7_setRange 28 = .ok (.iconst 1, 1) := by decide +kernel
theorem dX7_setRange_29 : decode cX7_setRange 29 = .ok (.iload_n 1, 1) := by decide +kernel
theorem dX7_setRange_30 : decode cX7_setRange 30 = .ok (.iastore, 1) := by decide +kernel
theorem dX7_setRange_31 : decode cX7_setRange 31 = .ok (.iload_n 2, 1) := by decide +kernel
theorem dX7_setRange_32 : decode cX7_setRange 32 = .ok (.ireturn, 1) := by decide +kernel
set_option maxRecDepth 20000 in
theorem ggX7_setBulge_X7_in : GoodIn wsX7_setBulge wsX7_in := goodIn_r _ [5] (by decide +kernel) (by decide +kernel)
set_option maxRecDepth 20000 in
theorem gX7_setBulge_X7_in : GoodIn wsX7_setBulge (va_wsS RX7 38 yX7_in wsX7_in) := goodIn_app (goodIn_of _ (by decide +kernel)) ggX7_setBulge_X7_in
set_option maxRecDepth 20000 in
theorem ggX7_setBulge_X7_keeps : GoodIn wsX7_setBulge wsX7_keeps := goodIn_r _ [9, 10, 11, 1, 12, 13, 14, 15, 16, 17, 18, 19, 20, 21, 22, 23, 24, 25, 26] (by decide +kernel) (by decide +kernel)
set_option maxRecDepth 20000 in
theorem gX7_setBulge_X7_keeps : GoodIn wsX7_setBulge (wsV RX7 45 RX7 yX7_keeps wsX7_keeps) := goodIn_app (goodIn_of _ (by decide +kernel)) ggX7_setBulge_X7_keeps
theorem dX7_setBulge_0 : decode cX7_setBulge 0 = .ok (.iload_n 1, 1) := by decide +kernel
theorem dX7_setBulge_1 : decode cX7_setBulge 1 = .ok (.iconst 0, 1) := by decide +kernel
theorem dX7_setBulge_2 : decode cX7_setBulge 2 = .ok (.bipush 9, 2) := by decide +kernel
theorem dX7_setBulge_4 : decode cX7_setBulge 4 = .ok (.invokestatic 38, 3) := by decide +kernel
theorem dX7_setBulge_7 : decode cX7_setBulge 7 = .ok (.ifCond .ne 6, 3) := by decide +kernel
theorem dX7_setBulge_10 : decode cX7_setBulge 10 = .ok (.bipush (-2), 2) := by decide +kernel
theorem dX7_setBulge_12 : decode cX7_setBulge 12 = .ok (.ireturn, 1) := by decide +kernel
theorem dX7_setBulge_13 : decode cX7_setBulge 13 = .ok (.aload_n 0, 1) := by decide +kernel
theorem dX7_setBulge_14 : decode cX7_setBulge 14 = .ok (.invokevirtual 45, 3) := by decide +kernel
theorem dX7_setBulge_17 : decode cX7_setBulge 17 = .ok (.aload_n 0, 1) := by decide +kernel
theorem dX7_setBulge_18 : decode cX7_setBulge 18 = .ok (.getfield 7, 3) := by decide +kernel
theorem dX7_setBulge_21 : decode cX7_setBulge 21 = .ok (.iconst 2, 1) := by decide +kernel
theorem dX7_setBulge_22 : decode cX7_setBulge 22 = .ok (.iaload, 1) := by decide +kernel
theorem dX7_setBulge_23 : decode cX7_setBulge 23 = .ok (.istore_n 2, 1) := by decide +kernel
theorem dX7_setBulge_24 : decode cX7_setBulge 24 = .ok (.aload_n 0, 1) := by decide +kernel
theorem dX7_setBulge_25 : decode cX7_setBulge 25 = .ok (.getfield 7, 3) := by decide +kernel
theorem dX7_setBulge_28 : decode cX7_setBulge 28 = .ok (.iconst 2, 1) := by decide +kernel
theorem dX7_setBulge_29 : decode cX7_setBulge 29 = .ok (.iload_n 1, 1) := by decide +kernel
theorem dX7_setBulge_30 : decode cX7_setBulge 30 = .ok (.iastore, 1) := by decide +kernel
theorem dX7_setBulge_31 : decode cX7_setBulge 31 = .ok (.iload_n 2, 1) := by decide +kernel
theorem dX7_setBulge_32 : decode cX7_setBulge 32 = .ok (.ireturn, 1) := by decide +kernel
set_option maxRecDepth 20000 in
theorem ggX7_type_X7_in : GoodIn wsX7_type wsX7_in := goodIn_r _ [6] (by decide +kernel) (by decide +kernel)
set_option maxRecDepth 20000 in
theorem gX7_type_X7_in : GoodIn wsX7_type (va_wsS RX7 38 yX7_in wsX7_in) := goodIn_app (goodIn_of _ (by decide +kernel)) ggX7_type_X7_in
theorem dX7_type_0 : decode cX7_type 0 = .ok (.iload_n 1, 1) := by decide +kernel
theorem dX7_type_1 : decode cX7_type 1 = .ok (.iconst 0, 1) := by decide +kernel
theorem dX7_type_2 : decode cX7_type 2 = .ok (.bipush 127, 2) := by decide +kernel
theorem dX7_type_4 : decode cX7_type 4 = .ok (.invokestatic 38, 3) := by decide +kernel
theorem dX7_type_7 : decode cX7_type 7 = .ok (.ifCond .ne 6, 3) := by decide +kernel
theorem dX7_type_10 : decode cX7_type 10 = .ok (.bipush (-2), 2) := by decide +kernel
theorem dX7_type_12 : decode cX7_type 12 = .ok (.ireturn, 1) := by decide +kernel
theorem dX7_type_13 : decode cX7_type 13 = .ok (.aload_n 0, 1) := by decide +kernel
theorem dX7_type_14 : decode cX7_type 14 = .ok (.getfield 52, 3) := by decide +kernel
theorem dX7_type_17 : decode cX7_type 17 = .ok (.bipush 120, 2) := by decide +kernel
theorem dX7_type_19 : decode cX7_type 19 = .ok (.if_icmp .ne 6, 3) := by decide +kernel
theorem dX7_type_22 : decode cX7_type 22 = .ok (.bipush (-4), 2) := by decide +kernel
theorem dX7_type_24 : decode cX7_type 24 = .ok (.ireturn, 1) := by decide +kernel
theorem dX7_type_25 : decode cX7_type 25 = .ok (.aload_n 0, 1) := by decide +kernel
theorem dX7_type_26 : decode cX7_type 26 = .ok (.getfield 23, 3) := by decide +kernel
theorem dX7_type_29 : decode cX7_type 29 = .ok (.aload_n 0, 1) := by decide +kernel
theorem dX7_type_30 : decode cX7_type 30 = .ok (.getfield 52, 3) := by decide +kernel
theorem dX7_type_33 : decode cX7_type 33 = .ok (.iload_n 1, 1) := by decide +kernel
theorem dX7_type_34 : decode cX7_type 34 = .ok (.iastore, 1) := by decide +kernel
theorem dX7_type_35 : decode cX7_type 35 = .ok (.aload_n 0, 1) := by decide +kernel
theorem dX7_type_36 : decode cX7_type 36 = .ok (.dup, 1) := by decide +kernel
theorem dX7_type_37 : decode cX7_type 37 = .ok (.getfield 52, 3) := by decide +kernel
theorem dX7_type_40 : decode cX7_type 40 = .ok (.iconst 1, 1) := by decide +kernel
theorem dX7_type_41 : decode cX7_type 41 = .ok (.iadd, 1) := by decide +kernel
theorem dX7_type_42 : decode cX7_type 42 = .ok (.putfield 52, 3) := by decide +kernel
theorem dX7_type_45 : decode cX7_type 45 = .ok (.aload_n 0, 1) := by decide +kernel
theorem dX7_type_46 : decode cX7_type 46 = .ok (.getfield 52, 3) := by decide +kernel
theorem dX7_type_49 : decode cX7_type 49 = .ok (.ireturn, 1) := by decide +kernel
theorem dX7_clearText_0 : decode cX7_clearText 0 = .ok (.aload_n 0, 1) := by decide +kernel
theorem dX7_clearText_1 : decode cX7_clearText 1 = .ok (.getfield 52, 3) := by decide +kernel
theorem dX7_clearText_4 : decode cX7_clearText 4 = .ok (.istore_n 1, 1) := by decide +kernel
theorem dX7_clearText_5 : decode cX7_clearText 5 = .ok (.aload_n 0, 1) := by decide +kernel
theorem dX7_clearText_6 : decode cX7_clearText 6 = .ok (.iconst 0, 1) := by decide +kernel
theorem dX7_clearText_7 : decode cX7_clearText 7 = .ok (.putfield 52, 3) := by decide +kernel
theorem dX7_clearText_10 : decode cX7_clearText 10 = .ok (.iload_n 1, 1) := by decide +kernel
theorem dX7_clearText_11 : decode cX7_clearText 11 = .ok (.ireturn, 1) := by decide +kernel
theorem dX7_next_0 : decode cX7_next 0 = .ok (.aload_n 0, 1) := by decide +kernel
theorem dX7_next_1 : decode cX7_next 1 = .ok (.getfield 55, 3) := by decide +kernel
theorem dX7_next_4 : decode cX7_next 4 = .ok (.aload_n 0, 1) := by decide +kernel
theorem dX7_next_5 : decode cX7_next 5 = .ok (.getfield 52, 3) := by decide +kernel
theorem dX7_next_8 : decode cX7_next 8 = .ok (.if_icmp .ge 15, 3) := by decide +kernel
theorem dX7_next_11 : decode cX7_next 11 = .ok (.aload_n 0, 1) := by decide +kernel
theorem dX7_next_12 : decode cX7_next 12 = .ok (.getfield 23, 3) := by decide +kernel
theorem dX7_next_15 : decode cX7_next 15 = .ok (.aload_n 0, 1) := by decide +kernel
theorem dX7_next_16 : decode cX7_next 16 = .ok (.getfield 55, 3) := by decide +kernel
theorem dX7_next_19 : decode cX7_next 19 = .ok (.iaload, 1) := by decide +kernel
theorem dX7_next_20 : decode cX7_next 20 = .ok (.goto 4, 3) := by decide +kernel
theorem dX7_next_23 : decode cX7_next 23 = .ok (.iconst (-1), 1) := by decide +kernel
theorem dX7_next_24 : decode cX7_next 24 = .ok (.ireturn, 1) := by decide +kernel
set_option maxRecDepth 20000 in
theorem ggX7_blanks_X7_next : GoodIn wsX7_blanks wsX7_next := goodIn_r _ [6, 1, 7, 8, 9, 10, 11, 12, 13, 14, 15, 16, 17, 18, 19, 20, 21, 22, 23] (by decide +kernel) (by decide +kernel)
set_option maxRecDepth 20000 in
theorem gX7_blanks_X7_next : GoodIn wsX7_blanks (wsV RX7 58 RX7 yX7_next wsX7_next) := goodIn_app (goodIn_of _ (by decide +kernel)) ggX7_blanks_X7_next
theorem dX7_blanks_0 : decode cX7_blanks 0 = .ok (.aload_n 0, 1) := by decide +kernel
theorem dX7_blanks_1 : decode cX7_blanks 1 = .ok (.invokevirtual 58, 3) := by decide +kernel
theorem dX7_blanks_4 : decode cX7_blanks 4 = .ok (.bipush 32, 2) := by decide +kernel
theorem dX7_blanks_6 : decode cX7_blanks 6 = .ok (.if_icmp .ne 16, 3) := by decide +kernel
theorem dX7_blanks_9 : decode cX7_blanks 9 = .ok (.aload_n 0, 1) := by decide +kernel
theorem dX7_blanks_10 : decode cX7_blanks 10 = .ok (.dup, 1) := by decide +kernel
theorem dX7_blanks_11 : decode cX7_blanks 11 = .ok (.getfield 55, 3) := by decide +kernel
theorem dX7_blanks_14 : decode cX7_blanks 14 = .ok (.iconst 1, 1) := by decide +kernel
theorem dX7_blanks_15 : decode cX7_blanks 15 = .ok (.iadd, 1) := by decide +kernel
theorem dX7_blanks_16 : decode cX7_blanks 16 = .ok (.putfield 55, 3) := by decide +kernel
theorem dX7_blanks_19 : decode cX7_blanks 19 = .ok (.goto (-19), 3) := by decide +kernel
theorem dX7_blanks_22 : decode cX7_blanks 22 = .ok (.return_, 1) := by decide +kernel
theorem dX7_fails_0 : decode cX7_fails 0 = .ok (.aload_n 0, 1) := by decide +kernel
theorem dX7_fails_1 : decode cX7_fails 1 = .ok (.aload_n 0, 1) := by decide +kernel
theorem dX7_fails_2 : decode cX7_fails 2 = .ok (.getfield 62, 3) := by decide +kernel
theorem dX7_fails_5 : decode cX7_fails 5 = .ok (.iconst (-1), 1) := by decide +kernel
theorem dX7_fails_6 : decode cX7_fails 6 = .ok (.if_icmp .ne 7, 3) := by decide +kernel
theorem dX7_fails_9 : decode cX7_fails 9 = .ok (.iload_n 1, 1) := by decide +kernel
theorem dX7_fails_10 : decode cX7_fails 10 = .ok (.goto 7, 3) := by decide +kernel
theorem dX7_fails_13 : decode cX7_fails 13 = .ok (.aload_n 0, 1) := by decide +kernel
theorem dX7_fails_14 : decode cX7_fails 14 = .ok (.getfield 62, 3) := by decide +kernel
theorem dX7_fails_17 : decode cX7_fails 17 = .ok (.putfield 62, 3) := by decide +kernel
theorem dX7_fails_20 : decode cX7_fails 20 = .ok (.return_, 1) := by decide +kernel
set_option maxRecDepth 20000 in
theorem ggX7_takes_X7_next : GoodIn wsX7_takes wsX7_next := goodIn_r _ [7, 2, 8, 9, 14, 15, 16, 17, 18, 19, 20, 21, 22, 23, 24, 25, 26, 27, 28] (by decide +kernel) (by decide +kernel)
set_option maxRecDepth 20000 in
theorem gX7_takes_X7_next : GoodIn wsX7_takes (wsV RX7 58 RX7 yX7_next wsX7_next) := goodIn_app (goodIn_of _ (by decide +kernel)) ggX7_takes_X7_next
set_option maxRecDepth 20000 in
theorem ggX7_takes_X7_blanks : GoodIn wsX7_takes wsX7_blanks := goodIn_r _ [13, 2, 3, 4, 5, 6, 7, 8, 9, 14, 15, 16, 17, 18, 19, 20, 21, 22, 23, 24, 25, 26, 27, 28] (by decide +kernel) (by decide +kernel)
set_option maxRecDepth 20000 in
theorem gX7_takes_X7_blanks : GoodIn wsX7_takes (wsV RX7 65 RX7 yX7_blanks wsX7_blanks) := goodIn_app (goodIn_of _ (by decide +kernel)) ggX7_takes_X7_blanks
theorem dX7_takes_0 : decode cX7_takes 0 = .ok (.aload_n 0, 1) := by decide +kernel
theorem dX7_takes_1 : decode cX7_takes 1 = .ok (.getfield 62, 3) := by decide +kernel
theorem dX7_takes_4 : decode cX7_takes 4 = .ok (.iconst (-1), 1) := by decide +kernel
theorem dX7_takes_5 : decode cX7_takes 5 = .ok (.if_icmp .ne 15, 3) := by decide +kernel
theorem dX7_takes_8 : decode cX7_takes 8 = .ok (.aload_n 0, 1) := by decide +kernel
theorem dX7_takes_9 : decode cX7_takes 9 = .ok (.invokevirtual 58, 3) := by decide +kernel
theorem dX7_takes_12 : decode cX7_takes 12 = .ok (.iload_n 1, 1) := by decide +kernel
theorem dX7_takes_13 : decode cX7_takes 13 = .ok (.if_icmp .ne 7, 3) := by decide +kernel
theorem dX7_takes_16 : decode cX7_takes 16 = .ok (.iconst 1, 1) := by decide +kernel
theorem dX7_takes_17 : decode cX7_takes 17 = .ok (.goto 4, 3) := by decide +kernel
theorem dX7_takes_20 : decode cX7_takes 20 = .ok (.iconst 0, 1) := by decide +kernel
theorem dX7_takes_21 : decode cX7_takes 21 = .ok (.istore_n 2, 1) := by decide +kernel
theorem dX7_takes_22 : decode cX7_takes 22 = .ok (.iload_n 2, 1) := by decide +kernel
theorem dX7_takes_23 : decode cX7_takes 23 = .ok (.ifCond .eq 17, 3) := by decide +kernel
theorem dX7_takes_26 : decode cX7_takes 26 = .ok (.aload_n 0, 1) := by decide +kernel
theorem dX7_takes_27 : decode cX7_takes 27 = .ok (.dup, 1) := by decide +kernel
theorem dX7_takes_28 : decode cX7_takes 28 = .ok (.getfield 55, 3) := by decide +kernel
theorem dX7_takes_31 : decode cX7_takes 31 = .ok (.iconst 1, 1) := by decide +kernel
theorem dX7_takes_32 : decode cX7_takes 32 = .ok (.iadd, 1) := by decide +kernel
theorem dX7_takes_33 : decode cX7_takes 33 = .ok (.putfield 55, 3) := by decide +kernel
theorem dX7_takes_36 : decode cX7_takes 36 = .ok (.aload_n 0, 1) := by decide +kernel
theorem dX7_takes_37 : decode cX7_takes 37 = .ok (.invokevirtual 65, 3) := by decide +kernel
theorem dX7_takes_40 : decode cX7_takes 40 = .ok (.iload_n 2, 1) := by decide +kernel
theorem dX7_takes_41 : decode cX7_takes 41 = .ok (.ireturn, 1) := by decide +kernel
set_option maxRecDepth 20000 in
theorem ggX7_number_X7_next : GoodIn wsX7_number wsX7_next := goodIn_r _ [7, 1, 8, 9, 21, 22, 23, 24, 25, 26, 27, 28, 29, 30, 31, 32, 33, 34, 35] (by decide +kernel) (by decide +kernel)
set_option maxRecDepth 20000 in
theorem gX7_number_X7_next : GoodIn wsX7_number (wsV RX7 58 RX7 yX7_next wsX7_next) := goodIn_app (goodIn_of _ (by decide +kernel)) ggX7_number_X7_next
set_option maxRecDepth 20000 in
theorem ggX7_number_X7_in : GoodIn wsX7_number wsX7_in := goodIn_r _ [12] (by decide +kernel) (by decide +kernel)
set_option maxRecDepth 20000 in
theorem gX7_number_X7_in : GoodIn wsX7_number (va_wsS RX7 38 yX7_in wsX7_in) := goodIn_app (goodIn_of _ (by decide +kernel)) ggX7_number_X7_in
set_option maxRecDepth 20000 in
theorem ggX7_number_X7_fails : GoodIn wsX7_number wsX7_fails := goodIn_r _ [16, 2, 21, 22, 23, 24, 25, 26, 27, 28, 29, 30, 31, 32, 33, 34, 35] (by decide +kernel) (by decide +kernel)
set_option maxRecDepth 20000 in
theorem gX7_number_X7_fails : GoodIn wsX7_number (wsV RX7 68 RX7 yX7_fails wsX7_fails) := goodIn_app (goodIn_of _ (by decide +kernel)) ggX7_number_X7_fails
set_option maxRecDepth 20000 in
theorem ggX7_number_X7_blanks : GoodIn wsX7_number wsX7_blanks := goodIn_r _ [20, 1, 3, 4, 5, 6, 7, 8, 9, 21, 22, 23, 24, 25, 26, 27, 28, 29, 30, 31, 32, 33, 34, 35] (by decide +kernel) (by decide +kernel)
set_option maxRecDepth 20000 in
theorem gX7_number_X7_blanks : GoodIn wsX7_number (wsV RX7 65 RX7 yX7_blanks wsX7_blanks) := goodIn_app (goodIn_of _ (by decide +kernel)) ggX7_number_X7_blanks
theorem dX7_number_0 : decode cX7_number 0 = .ok (.aload_n 0, 1) := by decide +kernel
theorem dX7_number_1 : decode cX7_number 1 = .ok (.getfield 55, 3) := by decide +kernel
theorem dX7_number_4 : decode cX7_number 4 = .ok (.istore_n 3, 1) := by decide +kernel
theorem dX7_number_5 : decode cX7_number 5 = .ok (.iconst 0, 1) := by decide +kernel
theorem dX7_number_6 : decode cX7_number 6 = .ok (.istore 4, 2) := by decide +kernel
theorem dX7_number_8 : decode cX7_number 8 = .ok (.aload_n 0, 1) := by decide +kernel
theorem dX7_number_9 : decode cX7_number 9 = .ok (.getfield 62, 3) := by decide +kernel
theorem dX7_number_12 : decode cX7_number 12 = .ok (.iconst (-1), 1) := by decide +kernel
theorem dX7_number_13 : decode cX7_number 13 = .ok (.if_icmp .ne 55, 3) := by decide +kernel
theorem dX7_number_16 : decode cX7_number 16 = .ok (.aload_n 0, 1) := by decide +kernel
theorem dX7_number_17 : decode cX7_number 17 = .ok (.getfield 55, 3) := by decide +kernel
theorem dX7_number_20 : decode cX7_number 20 = .ok (.iload_n 3, 1) := by decide +kernel
theorem dX7_number_21 : decode cX7_number 21 = .ok (.iconst 3, 1) := by decide +kernel
theorem dX7_number_22 : decode cX7_number 22 = .ok (.iadd, 1) := by decide +kernel
theorem dX7_number_23 : decode cX7_number 23 = .ok (.if_icmp .ge 45, 3) := by decide +kernel
theorem dX7_number_26 : decode cX7_number 26 = .ok (.aload_n 0, 1) := by decide +kernel
theorem dX7_number_27 : decode cX7_number 27 = .ok (.invokevirtual 58, 3) := by decide +kernel
theorem dX7_number_30 : decode cX7_number 30 = .ok (.bipush 48, 2) := by decide +kernel
theorem dX7_number_32 : decode cX7_number 32 = .ok (.bipush 57, 2) := by decide +kernel
theorem dX7_number_34 : decode cX7_number 34 = .ok (.invokestatic 38, 3) := by decide +kernel
theorem dX7_number_37 : decode cX7_number 37 = .ok (.ifCond .eq 31, 3) := by decide +kernel
theorem dX7_number_40 : decode cX7_number 40 = .ok (.bipush 10, 2) := by decide +kernel
theorem dX7_number_42 : decode cX7_number 42 = .ok (.iload 4, 2) := by decide +kernel
theorem dX7_number_44 : decode cX7_number 44 = .ok (.imul, 1) := by decide +kernel
theorem dX7_number_45 : decode cX7_number 45 = .ok (.aload_n 0, 1) := by decide +kernel
theorem dX7_number_46 : decode cX7_number 46 = .ok (.invokevirtual 58, 3) := by decide +kernel
theorem dX7_number_49 : decode cX7_number 49 = .ok (.iadd, 1) := by decide +kernel
theorem dX7_number_50 : decode cX7_number 50 = .ok (.bipush 48, 2) := by decide +kernel
theorem dX7_number_52 : decode cX7_number 52 = .ok (.isub, 1) := by decide +kernel
theorem dX7_number_53 : decode cX7_number 53 = .ok (.istore 4, 2) := by decide +kernel
theorem dX7_number_55 : decode cX7_number 55 = .ok (.aload_n 0, 1) := by decide +kernel
theorem dX7_number_56 : decode cX7_number 56 = .ok (.dup, 1) := by decide +kernel
theorem dX7_number_57 : decode cX7_number 57 = .ok (.getfield 55, 3) := by decide +kernel
theorem dX7_number_60 : decode cX7_number 60 = .ok (.iconst 1, 1) := by decide +kernel
theorem dX7_number_61 : decode cX7_number 61 = .ok (.iadd, 1) := by decide +kernel
theorem dX7_number_62 : decode cX7_number 62 = .ok (.putfield 55, 3) := by decide +kernel
theorem dX7_number_65 : decode cX7_number 65 = .ok (.goto (-57), 3) := by decide +kernel
theorem dX7_number_68 : decode cX7_number 68 = .ok (.aload_n 0, 1) := by decide +kernel
theorem dX7_number_69 : decode cX7_number 69 = .ok (.getfield 55, 3) := by decide +kernel
theorem dX7_number_72 : decode cX7_number 72 = .ok (.iload_n 3, 1) := by decide +kernel
theorem dX7_number_73 : decode cX7_number 73 = .ok (.if_icmp .eq 13, 3) := by decide +kernel
theorem dX7_number_76 : decode cX7_number 76 = .ok (.iload 4, 2) := by decide +kernel
theorem dX7_number_78 : decode cX7_number 78 = .ok (.iload_n 1, 1) := by decide +kernel
theorem dX7_number_79 : decode cX7_number 79 = .ok (.iload_n 2, 1) := by decide +kernel
theorem dX7_number_80 : decode cX7_number 80 = .ok (.invokestatic 38, 3) := by decide +kernel
theorem dX7_number_83 : decode cX7_number 83 = .ok (.ifCond .ne 8, 3) := by decide +kernel
theorem dX7_number_86 : decode cX7_number 86 = .ok (.aload_n 0, 1) := by decide +kernel
theorem dX7_number_87 : decode cX7_number 87 = .ok (.iload_n 3, 1) := by decide +kernel
theorem dX7_number_88 : decode cX7_number 88 = .ok (.invokevirtual 68, 3) := by decide +kernel
theorem dX7_number_91 : decode cX7_number 91 = .ok (.aload_n 0, 1) := by decide +kernel
theorem dX7_number_92 : decode cX7_number 92 = .ok (.invokevirtual 58, 3) := by decide +kernel
theorem dX7_number_95 : decode cX7_number 95 = .ok (.bipush 48, 2) := by decide +kernel
theorem dX7_number_97 : decode cX7_number 97 = .ok (.bipush 57, 2) := by decide +kernel
theorem dX7_number_99 : decode cX7_number 99 = .ok (.invokestatic 38, 3) := by decide +kernel
theorem dX7_number_102 : decode cX7_number 102 = .ok (.ifCond .eq 11, 3) := by decide +kernel
theorem dX7_number_105 : decode cX7_number 105 = .ok (.aload_n 0, 1) := by decide +kernel
theorem dX7_number_106 : decode cX7_number 106 = .ok (.aload_n 0, 1) := by decide +kernel
theorem dX7_number_107 : decode cX7_number 107 = .ok (.getfield 55, 3) := by decide +kernel
theorem dX7_number_110 : decode cX7_number 110 = .ok (.invokevirtual 68, 3) := by decide +kernel
theorem dX7_number_113 : decode cX7_number 113 = .ok (.aload_n 0, 1) := by decide +kernel
theorem dX7_number_114 : decode cX7_number 114 = .ok (.invokevirtual 65, 3) := by decide +kernel
theorem dX7_number_117 : decode cX7_number 117 = .ok (.iload 4, 2) := by decide +kernel
theorem dX7_number_119 : decode cX7_number 119 = .ok (.ireturn, 1) := by decide +kernel
set_option maxRecDepth 20000 in
theorem ggX7_station_X7_fails : GoodIn wsX7_station wsX7_fails := goodIn_r _ [10, 3, 32, 33, 34, 35, 36, 37, 38, 39, 40, 41, 42, 43, 44, 45, 46] (by decide +kernel) (by decide +kernel)
set_option maxRecDepth 20000 in
theorem gX7_station_X7_fails : GoodIn wsX7_station (wsV RX7 68 RX7 yX7_fails wsX7_fails) := goodIn_app (goodIn_of _ (by decide +kernel)) ggX7_station_X7_fails
set_option maxRecDepth 20000 in
theorem ggX7_station_X7_number : GoodIn wsX7_station wsX7_number := goodIn_r _ [14, 2, 3, 15, 16, 17, 9, 18, 19, 20, 21, 22, 23, 6, 7, 8, 10, 24, 25, 26, 27, 32, 33, 34, 35, 36, 37, 38, 39, 40, 41, 42, 43, 44, 45, 46] (by decide +kernel) (by decide +kernel)
set_option maxRecDepth 20000 in
theorem gX7_station_X7_number : GoodIn wsX7_station (wsV RX7 75 RX7 yX7_number wsX7_number) := goodIn_app (goodIn_of _ (by decide +kernel)) ggX7_station_X7_number
set_option maxRecDepth 20000 in
theorem ggX7_station_X7_takes : GoodIn wsX7_station wsX7_takes := goodIn_r _ [31, 3, 2, 15, 16, 17, 9, 18, 19, 20, 24, 25, 26, 27, 32, 33, 34, 35, 36, 37, 38, 39, 40, 41, 42, 43, 44, 45, 46] (by decide +kernel) (by decide +kernel)
set_option maxRecDepth 20000 in
theorem gX7_station_X7_takes : GoodIn wsX7_station (wsV RX7 79 RX7 yX7_takes wsX7_takes) := goodIn_app (goodIn_of _ (by decide +kernel)) ggX7_station_X7_takes
theorem dX7_station_0 : decode cX7_station 0 = .ok (.aload_n 0, 1) := by decide +kernel
theorem dX7_station_1 : decode cX7_station 1 = .ok (.getfield 72, 3) := by decide +kernel
theorem dX7_station_4 : decode cX7_station 4 = .ok (.bipush 20, 2) := by decide +kernel
theorem dX7_station_6 : decode cX7_station 6 = .ok (.if_icmp .ne 12, 3) := by decide +kernel
theorem dX7_station_9 : decode cX7_station 9 = .ok (.aload_n 0, 1) := by decide +kernel
theorem dX7_station_10 : decode cX7_station 10 = .ok (.aload_n 0, 1) := by decide +kernel
theorem dX7_station_11 : decode cX7_station 11 = .ok (.getfield 55, 3) := by decide +kernel
theorem dX7_station_14 : decode cX7_station 14 = .ok (.invokevirtual 68, 3) := by decide +kernel
theorem dX7_station_17 : decode cX7_station 17 = .ok (.return_, 1) := by decide +kernel
theorem dX7_station_18 : decode cX7_station 18 = .ok (.aload_n 0, 1) := by decide +kernel
theorem dX7_station_19 : decode cX7_station 19 = .ok (.iconst 0, 1) := by decide +kernel
theorem dX7_station_20 : decode cX7_station 20 = .ok (.sipush 999, 3) := by decide +kernel
theorem dX7_station_23 : decode cX7_station 23 = .ok (.invokevirtual 75, 3) := by decide +kernel
theorem dX7_station_26 : decode cX7_station 26 = .ok (.istore_n 1, 1) := by decide +kernel
theorem dX7_station_27 : decode cX7_station 27 = .ok (.aload_n 0, 1) := by decide +kernel
theorem dX7_station_28 : decode cX7_station 28 = .ok (.bipush 42, 2) := by decide +kernel
theorem dX7_station_30 : decode cX7_station 30 = .ok (.invokevirtual 79, 3) := by decide +kernel
theorem dX7_station_33 : decode cX7_station 33 = .ok (.ifCond .eq 18, 3) := by decide +kernel
theorem dX7_station_36 : decode cX7_station 36 = .ok (.aload_n 0, 1) := by decide +kernel
theorem dX7_station_37 : decode cX7_station 37 = .ok (.iconst 1, 1) := by decide +kernel
theorem dX7_station_38 : decode cX7_station 38 = .ok (.bipush 20, 2) := by decide +kernel
theorem dX7_station_40 : decode cX7_station 40 = .ok (.aload_n 0, 1) := by decide +kernel
theorem dX7_station_41 : decode cX7_station 41 = .ok (.getfield 72, 3) := by decide +kernel
theorem dX7_station_44 : decode cX7_station 44 = .ok (.isub, 1) := by decide +kernel
theorem dX7_station_45 : decode cX7_station 45 = .ok (.invokevirtual 75, 3) := by decide +kernel
theorem dX7_station_48 : decode cX7_station 48 = .ok (.goto 4, 3) := by decide +kernel
theorem dX7_station_51 : decode cX7_station 51 = .ok (.iconst 1, 1) := by decide +kernel
theorem dX7_station_52 : decode cX7_station 52 = .ok (.istore_n 2, 1) := by decide +kernel
theorem dX7_station_53 : decode cX7_station 53 = .ok (.aload_n 0, 1) := by decide +kernel
theorem dX7_station_54 : decode cX7_station 54 = .ok (.bipush 109, 2) := by decide +kernel
theorem dX7_station_56 : decode cX7_station 56 = .ok (.invokevirtual 79, 3) := by decide +kernel
theorem dX7_station_59 : decode cX7_station 59 = .ok (.ifCond .eq 14, 3) := by decide +kernel
theorem dX7_station_62 : decode cX7_station 62 = .ok (.aload_n 0, 1) := by decide +kernel
theorem dX7_station_63 : decode cX7_station 63 = .ok (.iconst 1, 1) := by decide +kernel
theorem dX7_station_64 : decode cX7_station 64 = .ok (.sipush 200, 3) := by decide +kernel
theorem dX7_station_67 : decode cX7_station 67 = .ok (.invokevirtual 75, 3) := by decide +kernel
theorem dX7_station_70 : decode cX7_station 70 = .ok (.goto 4, 3) := by decide +kernel
theorem dX7_station_73 : decode cX7_station 73 = .ok (.iconst 0, 1) := by decide +kernel
theorem dX7_station_74 : decode cX7_station 74 = .ok (.istore_n 3, 1) := by decide +kernel
theorem dX7_station_75 : decode cX7_station 75 = .ok (.iconst 0, 1) := by decide +kernel
theorem dX7_station_76 : decode cX7_station 76 = .ok (.istore 4, 2) := by decide +kernel
theorem dX7_station_78 : decode cX7_station 78 = .ok (.iload 4, 2) := by decide +kernel
theorem dX7_station_80 : decode cX7_station 80 = .ok (.iload_n 2, 1) := by decide +kernel
theorem dX7_station_81 : decode cX7_station 81 = .ok (.if_icmp .ge 47, 3) := by decide +kernel
theorem dX7_station_84 : decode cX7_station 84 = .ok (.aload_n 0, 1) := by decide +kernel
theorem dX7_station_85 : decode cX7_station 85 = .ok (.getfield 62, 3) := by decide +kernel
theorem dX7_station_88 : decode cX7_station 88 = .ok (.iconst (-1), 1) := by decide +kernel
theorem dX7_station_89 : decode cX7_station 89 = .ok (.if_icmp .ne 39, 3) := by decide +kernel
theorem dX7_station_92 : decode cX7_station 92 = .ok (.aload_n 0, 1) := by decide +kernel
theorem dX7_station_93 : decode cX7_station 93 = .ok (.getfield 26, 3) := by decide +kernel
theorem dX7_station_96 : decode cX7_station 96 = .ok (.aload_n 0, 1) := by decide +kernel
theorem dX7_station_97 : decode cX7_station 97 = .ok (.getfield 72, 3) := by decide +kernel
theorem dX7_station_100 : decode cX7_station 100 = .ok (.iload_n 1, 1) := by decide +kernel
theorem dX7_station_101 : decode cX7_station 101 = .ok (.iastore, 1) := by decide +kernel
theorem dX7_station_102 : decode cX7_station 102 = .ok (.aload_n 0, 1) := by decide +kernel
theorem dX7_station_103 : decode cX7_station 103 = .ok (.getfield 29, 3) := by decide +kernel
theorem dX7_station_106 : decode cX7_station 106 = .ok (.aload_n 0, 1) := by decide +kernel
theorem dX7_station_107 : decode cX7_station 107 = .ok (.getfield 72, 3) := by decide +kernel
theorem dX7_station_110 : decode cX7_station 110 = .ok (.iload_n 3, 1) := by decide +kernel
theorem dX7_station_111 : decode cX7_station 111 = .ok (.iastore, 1) := by decide +kernel
theorem dX7_station_112 : decode cX7_station 112 = .ok (.aload_n 0, 1) := by decide +kernel
theorem dX7_station_113 : decode cX7_station 113 = .ok (.dup, 1) := by decide +kernel
theorem dX7_station_114 : decode cX7_station 114 = .ok (.getfield 72, 3) := by decide +kernel
theorem dX7_station_117 : decode cX7_station 117 = .ok (.iconst 1, 1) := by decide +kernel
theorem dX7_station_118 : decode cX7_station 118 = .ok (.iadd, 1) := by decide +kernel
theorem dX7_station_119 : decode cX7_station 119 = .ok (.putfield 72, 3) := by decide +kernel
theorem dX7_station_122 : decode cX7_station 122 = .ok (.iinc 4 1, 3) := by decide +kernel
theorem dX7_station_125 : decode cX7_station 125 = .ok (.goto (-47), 3) := by decide +kernel
theorem dX7_station_128 : decode cX7_station 128 = .ok (.return_, 1) := by decide +kernel
set_option maxRecDepth 20000 in
theorem ggX7_fault_X7_blanks : GoodIn wsX7_fault wsX7_blanks := goodIn_r _ [9, 1, 10, 11, 12, 8, 13, 4, 14, 36, 37, 38, 39, 40, 41, 42, 43, 44, 45, 46, 47, 48, 49, 50] (by decide +kernel) (by decide +kernel)
set_option maxRecDepth 20000 in
theorem gX7_fault_X7_blanks : GoodIn wsX7_fault (wsV RX7 65 RX7 yX7_blanks wsX7_blanks) := goodIn_app (goodIn_of _ (by decide +kernel)) ggX7_fault_X7_blanks
set_option maxRecDepth 20000 in
theorem ggX7_fault_X7_station : GoodIn wsX7_fault wsX7_station := goodIn_r _ [18, 2, 1, 3, 19, 20, 21, 22, 23, 8, 24, 25, 26, 27, 28, 10, 11, 12, 13, 4, 14, 29, 30, 31, 5, 6, 7, 9, 32, 33, 34, 35, 36, 37, 38, 39, 40, 41, 42, 43, 44, 45, 46, 47, 48, 49, 50] (by decide +kernel) (by decide +kernel)
set_option maxRecDepth 20000 in
theorem gX7_fault_X7_station : GoodIn wsX7_fault (wsV RX7 82 RX7 yX7_station wsX7_station) := goodIn_app (goodIn_of _ (by decide +kernel)) ggX7_fault_X7_station
set_option maxRecDepth 20000 in
theorem ggX7_fault_X7_takes : GoodIn wsX7_fault wsX7_takes := goodIn_r _ [35, 3, 1, 10, 11, 12, 8, 13, 4, 14, 5, 6, 7, 9, 36, 37, 38, 39, 40, 41, 42, 43, 44, 45, 46, 47, 48, 49, 50] (by decide +kernel) (by decide +kernel)
set_option maxRecDepth 20000 in
theorem gX7_fault_X7_takes : GoodIn wsX7_fault (wsV RX7 79 RX7 yX7_takes wsX7_takes) := goodIn_app (goodIn_of _ (by decide +kernel)) ggX7_fault_X7_takes
set_option maxRecDepth 20000 in
theorem ggX7_fault_X7_fails : GoodIn wsX7_fault wsX7_fails := goodIn_r _ [24, 3, 36, 37, 38, 39, 40, 41, 42, 43, 44, 45, 46, 47, 48, 49, 50] (by decide +kernel) (by decide +kernel)
set_option maxRecDepth 20000 in
theorem gX7_fault_X7_fails : GoodIn wsX7_fault (wsV RX7 68 RX7 yX7_fails wsX7_fails) := goodIn_app (goodIn_of _ (by decide +kernel)) ggX7_fault_X7_fails
theorem dX7_fault_0 : decode cX7_fault 0 = .ok (.aload_n 0, 1) := by decide +kernel
theorem dX7_fault_1 : decode cX7_fault 1 = .ok (.iconst 0, 1) := by decide +kernel
theorem dX7_fault_2 : decode cX7_fault 2 = .ok (.putfield 55, 3) := by decide +kernel
theorem dX7_fault_5 : decode cX7_fault 5 = .ok (.aload_n 0, 1) := by decide +kernel
theorem dX7_fault_6 : decode cX7_fault 6 = .ok (.iconst 0, 1) := by decide +kernel
theorem dX7_fault_7 : decode cX7_fault 7 = .ok (.putfield 72, 3) := by decide +kernel
theorem dX7_fault_10 : decode cX7_fault 10 = .ok (.aload_n 0, 1) := by decide +kernel
theorem dX7_fault_11 : decode cX7_fault 11 = .ok (.iconst (-1), 1) := by decide +kernel
theorem dX7_fault_12 : decode cX7_fault 12 = .ok (.putfield 62, 3) := by decide +kernel
theorem dX7_fault_15 : decode cX7_fault 15 = .ok (.aload_n 0, 1) := by decide +kernel
theorem dX7_fault_16 : decode cX7_fault 16 = .ok (.invokevirtual 65, 3) := by decide +kernel
theorem dX7_fault_19 : decode cX7_fault 19 = .ok (.aload_n 0, 1) := by decide +kernel
theorem dX7_fault_20 : decode cX7_fault 20 = .ok (.invokevirtual 82, 3) := by decide +kernel
theorem dX7_fault_23 : decode cX7_fault 23 = .ok (.aload_n 0, 1) := by decide +kernel
theorem dX7_fault_24 : decode cX7_fault 24 = .ok (.bipush 44, 2) := by decide +kernel
theorem dX7_fault_26 : decode cX7_fault 26 = .ok (.invokevirtual 79, 3) := by decide +kernel
theorem dX7_fault_29 : decode cX7_fault 29 = .ok (.istore_n 1, 1) := by decide +kernel
theorem dX7_fault_30 : decode cX7_fault 30 = .ok (.iload_n 1, 1) := by decide +kernel
theorem dX7_fault_31 : decode cX7_fault 31 = .ok (.ifCond .ne 11, 3) := by decide +kernel
theorem dX7_fault_34 : decode cX7_fault 34 = .ok (.aload_n 0, 1) := by decide +kernel
theorem dX7_fault_35 : decode cX7_fault 35 = .ok (.aload_n 0, 1) := by decide +kernel
theorem dX7_fault_36 : decode cX7_fault 36 = .ok (.getfield 55, 3) := by decide +kernel
theorem dX7_fault_39 : decode cX7_fault 39 = .ok (.invokevirtual 68, 3) := by decide +kernel
theorem dX7_fault_42 : decode cX7_fault 42 = .ok (.iload_n 1, 1) := by decide +kernel
theorem dX7_fault_43 : decode cX7_fault 43 = .ok (.ifCond .eq 25, 3) := by decide +kernel
theorem dX7_fault_46 : decode cX7_fault 46 = .ok (.aload_n 0, 1) := by decide +kernel
theorem dX7_fault_47 : decode cX7_fault 47 = .ok (.getfield 62, 3) := by decide +kernel
theorem dX7_fault_50 : decode cX7_fault 50 = .ok (.iconst (-1), 1) := by decide +kernel
theorem dX7_fault_51 : decode cX7_fault 51 = .ok (.if_icmp .ne 17, 3) := by decide +kernel
theorem dX7_fault_54 : decode cX7_fault 54 = .ok (.aload_n 0, 1) := by decide +kernel
theorem dX7_fault_55 : decode cX7_fault 55 = .ok (.invokevirtual 82, 3) := by decide +kernel
theorem dX7_fault_58 : decode cX7_fault 58 = .ok (.aload_n 0, 1) := by decide +kernel
theorem dX7_fault_59 : decode cX7_fault 59 = .ok (.bipush 44, 2) := by decide +kernel
theorem dX7_fault_61 : decode cX7_fault 61 = .ok (.invokevirtual 79, 3) := by decide +kernel
theorem dX7_fault_64 : decode cX7_fault 64 = .ok (.istore_n 1, 1) := by decide +kernel
theorem dX7_fault_65 : decode cX7_fault 65 = .ok (.goto (-23), 3) := by decide +kernel
theorem dX7_fault_68 : decode cX7_fault 68 = .ok (.aload_n 0, 1) := by decide +kernel
theorem dX7_fault_69 : decode cX7_fault 69 = .ok (.getfield 55, 3) := by decide +kernel
theorem dX7_fault_72 : decode cX7_fault 72 = .ok (.aload_n 0, 1) := by decide +kernel
theorem dX7_fault_73 : decode cX7_fault 73 = .ok (.getfield 52, 3) := by decide +kernel
theorem dX7_fault_76 : decode cX7_fault 76 = .ok (.if_icmp .ge 11, 3) := by decide +kernel
theorem dX7_fault_79 : decode cX7_fault 79 = .ok (.aload_n 0, 1) := by decide +kernel
theorem dX7_fault_80 : decode cX7_fault 80 = .ok (.aload_n 0, 1) := by decide +kernel
theorem dX7_fault_81 : decode cX7_fault 81 = .ok (.getfield 55, 3) := by decide +kernel
theorem dX7_fault_84 : decode cX7_fault 84 = .ok (.invokevirtual 68, 3) := by decide +kernel
theorem dX7_fault_87 : decode cX7_fault 87 = .ok (.aload_n 0, 1) := by decide +kernel
theorem dX7_fault_88 : decode cX7_fault 88 = .ok (.getfield 62, 3) := by decide +kernel
theorem dX7_fault_91 : decode cX7_fault 91 = .ok (.ireturn, 1) := by decide +kernel
set_option maxRecDepth 20000 in
theorem ggX7_load_X7_fault : GoodIn wsX7_load wsX7_fault := goodIn_r _ [10, 11, 1, 12, 5, 13, 14, 15, 9, 16, 17, 18, 19, 20, 21, 22, 23, 24, 25, 3, 4, 26, 27, 28, 29, 30, 31, 32, 33, 34, 35, 36, 37, 38, 39, 40, 47, 48, 49, 50, 51, 52, 53, 54, 55, 56, 57, 58, 59, 60, 61] (by decide +kernel) (by decide +kernel)
set_option maxRecDepth 20000 in
theorem gX7_load_X7_fault : GoodIn wsX7_load (wsV RX7 85 RX7 yX7_fault wsX7_fault) := goodIn_app (goodIn_of _ (by decide +kernel)) ggX7_load_X7_fault
set_option maxRecDepth 20000 in
theorem ggX7_load_X7_keeps : GoodIn wsX7_load wsX7_keeps := goodIn_r _ [44, 45, 46, 2, 47, 48, 49, 50, 51, 52, 53, 54, 55, 56, 57, 58, 59, 60, 61] (by decide +kernel) (by decide +kernel)
set_option maxRecDepth 20000 in
theorem gX7_load_X7_keeps : GoodIn wsX7_load (wsV RX7 45 RX7 yX7_keeps wsX7_keeps) := goodIn_app (goodIn_of _ (by decide +kernel)) ggX7_load_X7_keeps
theorem dX7_load_0 : decode cX7_load 0 = .ok (.aload_n 0, 1) := by decide +kernel
theorem dX7_load_1 : decode cX7_load 1 = .ok (.invokevirtual 85, 3) := by decide +kernel
theorem dX7_load_4 : decode cX7_load 4 = .ok (.iconst (-1), 1) := by decide +kernel
theorem dX7_load_5 : decode cX7_load 5 = .ok (.if_icmp .eq 6, 3) := by decide +kernel
theorem dX7_load_8 : decode cX7_load 8 = .ok (.bipush (-3), 2) := by decide +kernel
theorem dX7_load_10 : decode cX7_load 10 = .ok (.ireturn, 1) := by decide +kernel
theorem dX7_load_11 : decode cX7_load 11 = .ok (.aload_n 0, 1) := by decide +kernel
theorem dX7_load_12 : decode cX7_load 12 = .ok (.invokevirtual 45, 3) := by decide +kernel
theorem dX7_load_15 : decode cX7_load 15 = .ok (.iconst 0, 1) := by decide +kernel
theorem dX7_load_16 : decode cX7_load 16 = .ok (.istore_n 1, 1) := by decide +kernel
theorem dX7_load_17 : decode cX7_load 17 = .ok (.iload_n 1, 1) := by decide +kernel
theorem dX7_load_18 : decode cX7_load 18 = .ok (.aload_n 0, 1) := by decide +kernel
theorem dX7_load_19 : decode cX7_load 19 = .ok (.getfield 72, 3) := by decide +kernel
theorem dX7_load_22 : decode cX7_load 22 = .ok (.if_icmp .ge 38, 3) := by decide +kernel
theorem dX7_load_25 : decode cX7_load 25 = .ok (.aload_n 0, 1) := by decide +kernel
theorem dX7_load_26 : decode cX7_load 26 = .ok (.getfield 7, 3) := by decide +kernel
theorem dX7_load_29 : decode cX7_load 29 = .ok (.iconst 3, 1) := by decide +kernel
theorem dX7_load_30 : decode cX7_load 30 = .ok (.iload_n 1, 1) := by decide +kernel
theorem dX7_load_31 : decode cX7_load 31 = .ok (.iadd, 1) := by decide +kernel
theorem dX7_load_32 : decode cX7_load 32 = .ok (.aload_n 0, 1) := by decide +kernel
theorem dX7_load_33 : decode cX7_load 33 = .ok (.getfield 26, 3) := by decide +kernel
theorem dX7_load_36 : decode cX7_load 36 = .ok (.iload_n 1, 1) := by decide +kernel
theorem dX7_load_37 : decode cX7_load 37 = .ok (.iaload, 1) := by decide +kernel
theorem dX7_load_38 : decode cX7_load 38 = .ok (.iastore, 1) := by decide +kernel
theorem dX7_load_39 : decode cX7_load 39 = .ok (.aload_n 0, 1) := by decide +kernel
theorem dX7_load_40 : decode cX7_load 40 = .ok (.getfield 7, 3) := by decide +kernel
theorem dX7_load_43 : decode cX7_load 43 = .ok (.bipush 23, 2) := by decide +kernel
theorem dX7_load_45 : decode cX7_load 45 = .ok (.iload_n 1, 1) := by decide +kernel
theorem dX7_load_46 : decode cX7_load 46 = .ok (.iadd, 1) := by decide +kernel
theorem dX7_load_47 : decode cX7_load 47 = .ok (.aload_n 0, 1) := by decide +kernel
theorem dX7_load_48 : decode cX7_load 48 = .ok (.getfield 29, 3) := by decide +kernel
theorem dX7_load_51 : decode cX7_load 51 = .ok (.iload_n 1, 1) := by decide +kernel
theorem dX7_load_52 : decode cX7_load 52 = .ok (.iaload, 1) := by decide +kernel
theorem dX7_load_53 : decode cX7_load 53 = .ok (.iastore, 1) := by decide +kernel
theorem dX7_load_54 : decode cX7_load 54 = .ok (.iinc 1 1, 3) := by decide +kernel
theorem dX7_load_57 : decode cX7_load 57 = .ok (.goto (-40), 3) := by decide +kernel
theorem dX7_load_60 : decode cX7_load 60 = .ok (.aload_n 0, 1) := by decide +kernel
theorem dX7_load_61 : decode cX7_load 61 = .ok (.getfield 7, 3) := by decide +kernel
theorem dX7_load_64 : decode cX7_load 64 = .ok (.iconst 0, 1) := by decide +kernel
theorem dX7_load_65 : decode cX7_load 65 = .ok (.aload_n 0, 1) := by decide +kernel
theorem dX7_load_66 : decode cX7_load 66 = .ok (.getfield 72, 3) := by decide +kernel
theorem dX7_load_69 : decode cX7_load 69 = .ok (.iastore, 1) := by decide +kernel
theorem dX7_load_70 : decode cX7_load 70 = .ok (.aload_n 0, 1) := by decide +kernel
theorem dX7_load_71 : decode cX7_load 71 = .ok (.iconst 0, 1) := by decide +kernel
theorem dX7_load_72 : decode cX7_load 72 = .ok (.putfield 52, 3) := by decide +kernel
theorem dX7_load_75 : decode cX7_load 75 = .ok (.aload_n 0, 1) := by decide +kernel
theorem dX7_load_76 : decode cX7_load 76 = .ok (.getfield 72, 3) := by decide +kernel
theorem dX7_load_79 : decode cX7_load 79 = .ok (.ireturn, 1) := by decide +kernel
theorem dX7_top_0 : decode cX7_top 0 = .ok (.aload_n 0, 1) := by decide +kernel
theorem dX7_top_1 : decode cX7_top 1 = .ok (.getfield 7, 3) := by decide +kernel
theorem dX7_top_4 : decode cX7_top 4 = .ok (.iconst 3, 1) := by decide +kernel
theorem dX7_top_5 : decode cX7_top 5 = .ok (.iload_n 1, 1) := by decide +kernel
theorem dX7_top_6 : decode cX7_top 6 = .ok (.iadd, 1) := by decide +kernel
theorem dX7_top_7 : decode cX7_top 7 = .ok (.iaload, 1) := by decide +kernel
theorem dX7_top_8 : decode cX7_top 8 = .ok (.aload_n 0, 1) := by decide +kernel
theorem dX7_top_9 : decode cX7_top 9 = .ok (.getfield 7, 3) := by decide +kernel
theorem dX7_top_12 : decode cX7_top 12 = .ok (.bipush 23, 2) := by decide +kernel
theorem dX7_top_14 : decode cX7_top 14 = .ok (.iload_n 1, 1) := by decide +kernel
theorem dX7_top_15 : decode cX7_top 15 = .ok (.iadd, 1) := by decide +kernel
theorem dX7_top_16 : decode cX7_top 16 = .ok (.iaload, 1) := by decide +kernel
theorem dX7_top_17 : decode cX7_top 17 = .ok (.iadd, 1) := by decide +kernel
theorem dX7_top_18 : decode cX7_top 18 = .ok (.ireturn, 1) := by decide +kernel
theorem dX7_clearance_0 : decode cX7_clearance 0 = .ok (.iload_n 2, 1) := by decide +kernel
theorem dX7_clearance_1 : decode cX7_clearance 1 = .ok (.iload_n 3, 1) := by decide +kernel
theorem dX7_clearance_2 : decode cX7_clearance 2 = .ok (.iload 5, 2) := by decide +kernel
theorem dX7_clearance_4 : decode cX7_clearance 4 = .ok (.isub, 1) := by decide +kernel
theorem dX7_clearance_5 : decode cX7_clearance 5 = .ok (.imul, 1) := by decide +kernel
theorem dX7_clearance_6 : decode cX7_clearance 6 = .ok (.iload 4, 2) := by decide +kernel
theorem dX7_clearance_8 : decode cX7_clearance 8 = .ok (.iload 5, 2) := by decide +kernel
theorem dX7_clearance_10 : decode cX7_clearance 10 = .ok (.iload_n 1, 1) := by decide +kernel
theorem dX7_clearance_11 : decode cX7_clearance 11 = .ok (.isub, 1) := by decide +kernel
theorem dX7_clearance_12 : decode cX7_clearance 12 = .ok (.imul, 1) := by decide +kernel
theorem dX7_clearance_13 : decode cX7_clearance 13 = .ok (.iadd, 1) := by decide +kernel
theorem dX7_clearance_14 : decode cX7_clearance 14 = .ok (.iload_n 3, 1) := by decide +kernel
theorem dX7_clearance_15 : decode cX7_clearance 15 = .ok (.iload_n 1, 1) := by decide +kernel
theorem dX7_clearance_16 : decode cX7_clearance 16 = .ok (.isub, 1) := by decide +kernel
theorem dX7_clearance_17 : decode cX7_clearance 17 = .ok (.aload_n 0, 1) := by decide +kernel
theorem dX7_clearance_18 : decode cX7_clearance 18 = .ok (.getfield 7, 3) := by decide +kernel
theorem dX7_clearance_21 : decode cX7_clearance 21 = .ok (.iconst 3, 1) := by decide +kernel
theorem dX7_clearance_22 : decode cX7_clearance 22 = .ok (.iload 5, 2) := by decide +kernel
theorem dX7_clearance_24 : decode cX7_clearance 24 = .ok (.iadd, 1) := by decide +kernel
theorem dX7_clearance_25 : decode cX7_clearance 25 = .ok (.iaload, 1) := by decide +kernel
theorem dX7_clearance_26 : decode cX7_clearance 26 = .ok (.aload_n 0, 1) := by decide +kernel
theorem dX7_clearance_27 : decode cX7_clearance 27 = .ok (.getfield 7, 3) := by decide +kernel
theorem dX7_clearance_30 : decode cX7_clearance 30 = .ok (.iconst 2, 1) := by decide +kernel
theorem dX7_clearance_31 : decode cX7_clearance 31 = .ok (.iaload, 1) := by decide +kernel
theorem dX7_clearance_32 : decode cX7_clearance 32 = .ok (.iload 5, 2) := by decide +kernel
theorem dX7_clearance_34 : decode cX7_clearance 34 = .ok (.iload_n 1, 1) := by decide +kernel
theorem dX7_clearance_35 : decode cX7_clearance 35 = .ok (.isub, 1) := by decide +kernel
theorem dX7_clearance_36 : decode cX7_clearance 36 = .ok (.imul, 1) := by decide +kernel
theorem dX7_clearance_37 : decode cX7_clearance 37 = .ok (.iload_n 3, 1) := by decide +kernel
theorem dX7_clearance_38 : decode cX7_clearance 38 = .ok (.iload 5, 2) := by decide +kernel
theorem dX7_clearance_40 : decode cX7_clearance 40 = .ok (.isub, 1) := by decide +kernel
theorem dX7_clearance_41 : decode cX7_clearance 41 = .ok (.imul, 1) := by decide +kernel
theorem dX7_clearance_42 : decode cX7_clearance 42 = .ok (.iadd, 1) := by decide +kernel
theorem dX7_clearance_43 : decode cX7_clearance 43 = .ok (.imul, 1) := by decide +kernel
theorem dX7_clearance_44 : decode cX7_clearance 44 = .ok (.isub, 1) := by decide +kernel
theorem dX7_clearance_45 : decode cX7_clearance 45 = .ok (.ireturn, 1) := by decide +kernel
set_option maxRecDepth 20000 in
theorem ggX7_meet_X7_clearance : GoodIn wsX7_meet wsX7_clearance := goodIn_r _ [5, 6, 7, 8, 9, 10, 11, 12, 13, 14, 15, 16, 17, 18, 19, 20, 21] (by decide +kernel) (by decide +kernel)
set_option maxRecDepth 20000 in
theorem gX7_meet_X7_clearance : GoodIn wsX7_meet (wsV RX7 87 RX7 yX7_clearance wsX7_clearance) := goodIn_app (goodIn_of _ (by decide +kernel)) ggX7_meet_X7_clearance
theorem dX7_meet_0 : decode cX7_meet 0 = .ok (.iload_n 1, 1) := by decide +kernel
theorem dX7_meet_1 : decode cX7_meet 1 = .ok (.iload_n 3, 1) := by decide +kernel
theorem dX7_meet_2 : decode cX7_meet 2 = .ok (.if_icmp .ge 7, 3) := by decide +kernel
theorem dX7_meet_5 : decode cX7_meet 5 = .ok (.iload_n 1, 1) := by decide +kernel
theorem dX7_meet_6 : decode cX7_meet 6 = .ok (.goto 4, 3) := by decide +kernel
theorem dX7_meet_9 : decode cX7_meet 9 = .ok (.iload_n 3, 1) := by decide +kernel
theorem dX7_meet_10 : decode cX7_meet 10 = .ok (.istore 5, 2) := by decide +kernel
theorem dX7_meet_12 : decode cX7_meet 12 = .ok (.iload_n 1, 1) := by decide +kernel
theorem dX7_meet_13 : decode cX7_meet 13 = .ok (.iload_n 3, 1) := by decide +kernel
theorem dX7_meet_14 : decode cX7_meet 14 = .ok (.if_icmp .ge 7, 3) := by decide +kernel
theorem dX7_meet_17 : decode cX7_meet 17 = .ok (.iload_n 3, 1) := by decide +kernel
theorem dX7_meet_18 : decode cX7_meet 18 = .ok (.goto 4, 3) := by decide +kernel
theorem dX7_meet_21 : decode cX7_meet 21 = .ok (.iload_n 1, 1) := by decide +kernel
theorem dX7_meet_22 : decode cX7_meet 22 = .ok (.istore 6, 2) := by decide +kernel
theorem dX7_meet_24 : decode cX7_meet 24 = .ok (.iconst 1, 1) := by decide +kernel
theorem dX7_meet_25 : decode cX7_meet 25 = .ok (.istore 7, 2) := by decide +kernel
theorem dX7_meet_27 : decode cX7_meet 27 = .ok (.iload 5, 2) := by decide +kernel
theorem dX7_meet_29 : decode cX7_meet 29 = .ok (.iconst 1, 1) := by decide +kernel
theorem dX7_meet_30 : decode cX7_meet 30 = .ok (.iadd, 1) := by decide +kernel
theorem dX7_meet_31 : decode cX7_meet 31 = .ok (.istore 8, 2) := by decide +kernel
theorem dX7_meet_33 : decode cX7_meet 33 = .ok (.iload 8, 2) := by decide +kernel
theorem dX7_meet_35 : decode cX7_meet 35 = .ok (.iload 6, 2) := by decide +kernel
theorem dX7_meet_37 : decode cX7_meet 37 = .ok (.if_icmp .ge 56, 3) := by decide +kernel
theorem dX7_meet_40 : decode cX7_meet 40 = .ok (.iload 7, 2) := by decide +kernel
theorem dX7_meet_42 : decode cX7_meet 42 = .ok (.ifCond .eq 42, 3) := by decide +kernel
theorem dX7_meet_45 : decode cX7_meet 45 = .ok (.aload_n 0, 1) := by decide +kernel
theorem dX7_meet_46 : decode cX7_meet 46 = .ok (.iload 5, 2) := by decide +kernel
theorem dX7_meet_48 : decode cX7_meet 48 = .ok (.iload_n 1, 1) := by decide +kernel
theorem dX7_meet_49 : decode cX7_meet 49 = .ok (.iload_n 3, 1) := by decide +kernel
theorem dX7_meet_50 : decode cX7_meet 50 = .ok (.if_icmp .ge 7, 3) := by decide +kernel
theorem dX7_meet_53 : decode cX7_meet 53 = .ok (.iload_n 2, 1) := by decide +kernel
theorem dX7_meet_54 : decode cX7_meet 54 = .ok (.goto 5, 3) := by decide +kernel
theorem dX7_meet_57 : decode cX7_meet 57 = .ok (.iload 4, 2) := by decide +kernel
theorem dX7_meet_59 : decode cX7_meet 59 = .ok (.iload 6, 2) := by decide +kernel
theorem dX7_meet_61 : decode cX7_meet 61 = .ok (.iload_n 1, 1) := by decide +kernel
theorem dX7_meet_62 : decode cX7_meet 62 = .ok (.iload_n 3, 1) := by decide +kernel
theorem dX7_meet_63 : decode cX7_meet 63 = .ok (.if_icmp .ge 8, 3) := by decide +kernel
theorem dX7_meet_66 : decode cX7_meet 66 = .ok (.iload 4, 2) := by decide +kernel
theorem dX7_meet_68 : decode cX7_meet 68 = .ok (.goto 4, 3) := by decide +kernel
theorem dX7_meet_71 : decode cX7_meet 71 = .ok (.iload_n 2, 1) := by decide +kernel
theorem dX7_meet_72 : decode cX7_meet 72 = .ok (.iload 8, 2) := by decide +kernel
theorem dX7_meet_74 : decode cX7_meet 74 = .ok (.invokevirtual 87, 3) := by decide +kernel
theorem dX7_meet_77 : decode cX7_meet 77 = .ok (.ifCond .lt 7, 3) := by decide +kernel
theorem dX7_meet_80 : decode cX7_meet 80 = .ok (.iconst 1, 1) := by decide +kernel
theorem dX7_meet_81 : decode cX7_meet 81 = .ok (.goto 4, 3) := by decide +kernel
theorem dX7_meet_84 : decode cX7_meet 84 = .ok (.iconst 0, 1) := by decide +kernel
theorem dX7_meet_85 : decode cX7_meet 85 = .ok (.istore 7, 2) := by decide +kernel
theorem dX7_meet_87 : decode cX7_meet 87 = .ok (.iinc 8 1, 3) := by decide +kernel
theorem dX7_meet_90 : decode cX7_meet 90 = .ok (.goto (-57), 3) := by decide +kernel
theorem dX7_meet_93 : decode cX7_meet 93 = .ok (.iload 7, 2) := by decide +kernel
theorem dX7_meet_95 : decode cX7_meet 95 = .ok (.ireturn, 1) := by decide +kernel
set_option maxRecDepth 20000 in
theorem ggX7_see_X7_top : GoodIn wsX7_see wsX7_top := goodIn_r _ [5, 6, 15, 16, 17, 18, 19, 20, 21, 22, 23, 24, 25, 26, 27, 28, 29] (by decide +kernel) (by decide +kernel)
set_option maxRecDepth 20000 in
theorem gX7_see_X7_top : GoodIn wsX7_see (wsV RX7 91 RX7 yX7_top wsX7_top) := goodIn_app (goodIn_of _ (by decide +kernel)) ggX7_see_X7_top
set_option maxRecDepth 20000 in
theorem ggX7_see_X7_meet : GoodIn wsX7_see wsX7_meet := goodIn_r _ [10, 11, 12, 13, 4, 14, 6, 15, 16, 17, 18, 19, 20, 21, 22, 23, 24, 25, 26, 27, 28, 29] (by decide +kernel) (by decide +kernel)
set_option maxRecDepth 20000 in
theorem gX7_see_X7_meet : GoodIn wsX7_see (wsV RX7 95 RX7 yX7_meet wsX7_meet) := goodIn_app (goodIn_of _ (by decide +kernel)) ggX7_see_X7_meet
theorem dX7_see_0 : decode cX7_see 0 = .ok (.aload_n 0, 1) := by decide +kernel
theorem dX7_see_1 : decode cX7_see 1 = .ok (.iload_n 1, 1) := by decide +kernel
theorem dX7_see_2 : decode cX7_see 2 = .ok (.aload_n 0, 1) := by decide +kernel
theorem dX7_see_3 : decode cX7_see 3 = .ok (.iload_n 1, 1) := by decide +kernel
theorem dX7_see_4 : decode cX7_see 4 = .ok (.invokevirtual 91, 3) := by decide +kernel
theorem dX7_see_7 : decode cX7_see 7 = .ok (.iload_n 2, 1) := by decide +kernel
theorem dX7_see_8 : decode cX7_see 8 = .ok (.aload_n 0, 1) := by decide +kernel
theorem dX7_see_9 : decode cX7_see 9 = .ok (.iload_n 2, 1) := by decide +kernel
theorem dX7_see_10 : decode cX7_see 10 = .ok (.invokevirtual 91, 3) := by decide +kernel
theorem dX7_see_13 : decode cX7_see 13 = .ok (.invokevirtual 95, 3) := by decide +kernel
theorem dX7_see_16 : decode cX7_see 16 = .ok (.ireturn, 1) := by decide +kernel
theorem dX7_apart_0 : decode cX7_apart 0 = .ok (.iload_n 0, 1) := by decide +kernel
theorem dX7_apart_1 : decode cX7_apart 1 = .ok (.iload_n 1, 1) := by decide +kernel
theorem dX7_apart_2 : decode cX7_apart 2 = .ok (.if_icmp .ge 9, 3) := by decide +kernel
theorem dX7_apart_5 : decode cX7_apart 5 = .ok (.iload_n 1, 1) := by decide +kernel
theorem dX7_apart_6 : decode cX7_apart 6 = .ok (.iload_n 0, 1) := by decide +kernel
theorem dX7_apart_7 : decode cX7_apart 7 = .ok (.isub, 1) := by decide +kernel
theorem dX7_apart_8 : decode cX7_apart 8 = .ok (.goto 6, 3) := by decide +kernel
theorem dX7_apart_11 : decode cX7_apart 11 = .ok (.iload_n 0, 1) := by decide +kernel
theorem dX7_apart_12 : decode cX7_apart 12 = .ok (.iload_n 1, 1) := by decide +kernel
theorem dX7_apart_13 : decode cX7_apart 13 = .ok (.isub, 1) := by decide +kernel
theorem dX7_apart_14 : decode cX7_apart 14 = .ok (.ireturn, 1) := by decide +kernel
set_option maxRecDepth 20000 in
theorem ggX7_inContact_X7_apart : GoodIn wsX7_inContact wsX7_apart := goodIn_r _ [5] (by decide +kernel) (by decide +kernel)
set_option maxRecDepth 20000 in
theorem gX7_inContact_X7_apart : GoodIn wsX7_inContact (va_wsS RX7 99 yX7_apart wsX7_apart) := goodIn_app (goodIn_of _ (by decide +kernel)) ggX7_inContact_X7_apart
set_option maxRecDepth 20000 in
theorem ggX7_inContact_X7_see : GoodIn wsX7_inContact wsX7_see := goodIn_r _ [9, 10, 11, 12, 4, 13, 1, 14, 15, 16, 17, 18, 19, 20, 21, 22, 23, 24, 25, 26, 27, 28, 29, 30, 31, 32, 33, 34, 35, 36] (by decide +kernel) (by decide +kernel)
set_option maxRecDepth 20000 in
theorem gX7_inContact_X7_see : GoodIn wsX7_inContact (wsV RX7 102 RX7 yX7_see wsX7_see) := goodIn_app (goodIn_of _ (by decide +kernel)) ggX7_inContact_X7_see
theorem dX7_inContact_0 : decode cX7_inContact 0 = .ok (.iload_n 1, 1) := by decide +kernel
theorem dX7_inContact_1 : decode cX7_inContact 1 = .ok (.iload_n 2, 1) := by decide +kernel
theorem dX7_inContact_2 : decode cX7_inContact 2 = .ok (.if_icmp .eq 30, 3) := by decide +kernel
theorem dX7_inContact_5 : decode cX7_inContact 5 = .ok (.iload_n 1, 1) := by decide +kernel
theorem dX7_inContact_6 : decode cX7_inContact 6 = .ok (.iload_n 2, 1) := by decide +kernel
theorem dX7_inContact_7 : decode cX7_inContact 7 = .ok (.invokestatic 99, 3) := by decide +kernel
theorem dX7_inContact_10 : decode cX7_inContact 10 = .ok (.aload_n 0, 1) := by decide +kernel
theorem dX7_inContact_11 : decode cX7_inContact 11 = .ok (.getfield 7, 3) := by decide +kernel
theorem dX7_inContact_14 : decode cX7_inContact 14 = .ok (.iconst 1, 1) := by decide +kernel
theorem dX7_inContact_15 : decode cX7_inContact 15 = .ok (.iaload, 1) := by decide +kernel
theorem dX7_inContact_16 : decode cX7_inContact 16 = .ok (.if_icmp .gt 16, 3) := by decide +kernel
theorem dX7_inContact_19 : decode cX7_inContact 19 = .ok (.aload_n 0, 1) := by decide +kernel
theorem dX7_inContact_20 : decode cX7_inContact 20 = .ok (.iload_n 1, 1) := by decide +kernel
theorem dX7_inContact_21 : decode cX7_inContact 21 = .ok (.iload_n 2, 1) := by decide +kernel
theorem dX7_inContact_22 : decode cX7_inContact 22 = .ok (.invokevirtual 102, 3) := by decide +kernel
theorem dX7_inContact_25 : decode cX7_inContact 25 = .ok (.ifCond .eq 7, 3) := by decide +kernel
theorem dX7_inContact_28 : decode cX7_inContact 28 = .ok (.iconst 1, 1) := by decide +kernel
theorem dX7_inContact_29 : decode cX7_inContact 29 = .ok (.goto 4, 3) := by decide +kernel
theorem dX7_inContact_32 : decode cX7_inContact 32 = .ok (.iconst 0, 1) := by decide +kernel
theorem dX7_inContact_33 : decode cX7_inContact 33 = .ok (.ireturn, 1) := by decide +kernel
set_option maxRecDepth 20000 in
theorem ggX7_contacts_X7_inContact : GoodIn wsX7_contacts wsX7_inContact := goodIn_r _ [6, 1, 7, 8, 5, 9, 10, 11, 12, 13, 14, 15, 16, 17, 18, 19, 20, 21, 22, 23, 24, 25, 26, 27, 28, 29, 30, 31, 32, 33, 34, 35, 36, 37, 38, 39, 40] (by decide +kernel) (by decide +kernel)
set_option maxRecDepth 20000 in
theorem gX7_contacts_X7_inContact : GoodIn wsX7_contacts (wsV RX7 106 RX7 yX7_inContact wsX7_inContact) := goodIn_app (goodIn_of _ (by decide +kernel)) ggX7_contacts_X7_inContact
theorem dX7_contacts_0 : decode cX7_contacts 0 = .ok (.iconst 0, 1) := by decide +kernel
theorem dX7_contacts_1 : decode cX7_contacts 1 = .ok (.istore_n 2, 1) := by decide +kernel
theorem dX7_contacts_2 : decode cX7_contacts 2 = .ok (.iconst 0, 1) := by decide +kernel
theorem dX7_contacts_3 : decode cX7_contacts 3 = .ok (.istore_n 3, 1) := by decide +kernel
theorem dX7_contacts_4 : decode cX7_contacts 4 = .ok (.iload_n 3, 1) := by decide +kernel
theorem dX7_contacts_5 : decode cX7_contacts 5 = .ok (.aload_n 0, 1) := by decide +kernel
theorem dX7_contacts_6 : decode cX7_contacts 6 = .ok (.getfield 7, 3) := by decide +kernel
theorem dX7_contacts_9 : decode cX7_contacts 9 = .ok (.iconst 0, 1) := by decide +kernel
theorem dX7_contacts_10 : decode cX7_contacts 10 = .ok (.iaload, 1) := by decide +kernel
theorem dX7_contacts_11 : decode cX7_contacts 11 = .ok (.if_icmp .ge 28, 3) := by decide +kernel
theorem dX7_contacts_14 : decode cX7_contacts 14 = .ok (.iload_n 2, 1) := by decide +kernel
theorem dX7_contacts_15 : decode cX7_contacts 15 = .ok (.aload_n 0, 1) := by decide +kernel
theorem dX7_contacts_16 : decode cX7_contacts 16 = .ok (.iload_n 1, 1) := by decide +kernel
theorem dX7_contacts_17 : decode cX7_contacts 17 = .ok (.iload_n 3, 1) := by decide +kernel
theorem dX7_contacts_18 : decode cX7_contacts 18 = .ok (.invokevirtual 106, 3) := by decide +kernel
theorem dX7_contacts_21 : decode cX7_contacts 21 = .ok (.ifCond .eq 9, 3) := by decide +kernel
theorem dX7_contacts_24 : decode cX7_contacts 24 = .ok (.iconst 1, 1) := by decide +kernel
theorem dX7_contacts_25 : decode cX7_contacts 25 = .ok (.iload_n 3, 1) := by decide +kernel
theorem dX7_contacts_26 : decode cX7_contacts 26 = .ok (.ishl, 1) := by decide +kernel
theorem dX7_contacts_27 : decode cX7_contacts 27 = .ok (.goto 4, 3) := by decide +kernel
theorem dX7_contacts_30 : decode cX7_contacts 30 = .ok (.iconst 0, 1) := by decide +kernel
theorem dX7_contacts_31 : decode cX7_contacts 31 = .ok (.ior, 1) := by decide +kernel
theorem dX7_contacts_32 : decode cX7_contacts 32 = .ok (.istore_n 2, 1) := by decide +kernel
theorem dX7_contacts_33 : decode cX7_contacts 33 = .ok (.iinc 3 1, 3) := by decide +kernel
theorem dX7_contacts_36 : decode cX7_contacts 36 = .ok (.goto (-32), 3) := by decide +kernel
theorem dX7_contacts_39 : decode cX7_contacts 39 = .ok (.iload_n 2, 1) := by decide +kernel
theorem dX7_contacts_40 : decode cX7_contacts 40 = .ok (.ireturn, 1) := by decide +kernel
set_option maxRecDepth 20000 in
theorem ggX7_grounds_X7_meet : GoodIn wsX7_grounds wsX7_meet := goodIn_r _ [6, 7, 8, 9, 5, 10, 1, 11, 12, 13, 14, 15, 16, 17, 18, 19, 20, 21, 22, 23, 24, 25] (by decide +kernel) (by decide +kernel)
set_option maxRecDepth 20000 in
theorem gX7_grounds_X7_meet : GoodIn wsX7_grounds (wsV RX7 95 RX7 yX7_meet wsX7_meet) := goodIn_app (goodIn_of _ (by decide +kernel)) ggX7_grounds_X7_meet
theorem dX7_grounds_0 : decode cX7_grounds 0 = .ok (.iconst 0, 1) := by decide +kernel
theorem dX7_grounds_1 : decode cX7_grounds 1 = .ok (.istore_n 3, 1) := by decide +kernel
theorem dX7_grounds_2 : decode cX7_grounds 2 = .ok (.iconst 0, 1) := by decide +kernel
theorem dX7_grounds_3 : decode cX7_grounds 3 = .ok (.istore 4, 2) := by decide +kernel
theorem dX7_grounds_5 : decode cX7_grounds 5 = .ok (.iload 4, 2) := by decide +kernel
theorem dX7_grounds_7 : decode cX7_grounds 7 = .ok (.aload_n 0, 1) := by decide +kernel
theorem dX7_grounds_8 : decode cX7_grounds 8 = .ok (.getfield 7, 3) := by decide +kernel
theorem dX7_grounds_11 : decode cX7_grounds 11 = .ok (.iconst 0, 1) := by decide +kernel
theorem dX7_grounds_12 : decode cX7_grounds 12 = .ok (.iaload, 1) := by decide +kernel
theorem dX7_grounds_13 : decode cX7_grounds 13 = .ok (.if_icmp .ge 46, 3) := by decide +kernel
theorem dX7_grounds_16 : decode cX7_grounds 16 = .ok (.iload_n 3, 1) := by decide +kernel
theorem dX7_grounds_17 : decode cX7_grounds 17 = .ok (.iload_n 1, 1) := by decide +kernel
theorem dX7_grounds_18 : decode cX7_grounds 18 = .ok (.iload 4, 2) := by decide +kernel
theorem dX7_grounds_20 : decode cX7_grounds 20 = .ok (.if_icmp .eq 23, 3) := by decide +kernel
theorem dX7_grounds_23 : decode cX7_grounds 23 = .ok (.aload_n 0, 1) := by decide +kernel
theorem dX7_grounds_24 : decode cX7_grounds 24 = .ok (.iload_n 1, 1) := by decide +kernel
theorem dX7_grounds_25 : decode cX7_grounds 25 = .ok (.iload_n 2, 1) := by decide +kernel
theorem dX7_grounds_26 : decode cX7_grounds 26 = .ok (.iload 4, 2) := by decide +kernel
theorem dX7_grounds_28 : decode cX7_grounds 28 = .ok (.aload_n 0, 1) := by decide +kernel
theorem dX7_grounds_29 : decode cX7_grounds 29 = .ok (.getfield 7, 3) := by decide +kernel
theorem dX7_grounds_32 : decode cX7_grounds 32 = .ok (.iconst 3, 1) := by decide +kernel
theorem dX7_grounds_33 : decode cX7_grounds 33 = .ok (.iload 4, 2) := by decide +kernel
theorem dX7_grounds_35 : decode cX7_grounds 35 = .ok (.iadd, 1) := by decide +kernel
theorem dX7_grounds_36 : decode cX7_grounds 36 = .ok (.iaload, 1) := by decide +kernel
theorem dX7_grounds_37 : decode cX7_grounds 37 = .ok (.invokevirtual 95, 3) := by decide +kernel
theorem dX7_grounds_40 : decode cX7_grounds 40 = .ok (.ifCond .eq 10, 3) := by decide +kernel
theorem dX7_grounds_43 : decode cX7_grounds 43 = .ok (.iconst 1, 1) := by decide +kernel
theorem dX7_grounds_44 : decode cX7_grounds 44 = .ok (.iload 4, 2) := by decide +kernel
theorem dX7_grounds_46 : decode cX7_grounds 46 = .ok (.ishl, 1) := by decide +kernel
theorem dX7_grounds_47 : decode cX7_grounds 47 = .ok (.goto 4, 3) := by decide +kernel
theorem dX7_grounds_50 : decode cX7_grounds 50 = .ok (.iconst 0, 1) := by decide +kernel
theorem dX7_grounds_51 : decode cX7_grounds 51 = .ok (.ior, 1) := by decide +kernel
theorem dX7_grounds_52 : decode cX7_grounds 52 = .ok (.istore_n 3, 1) := by decide +kernel
theorem dX7_grounds_53 : decode cX7_grounds 53 = .ok (.iinc 4 1, 3) := by decide +kernel
theorem dX7_grounds_56 : decode cX7_grounds 56 = .ok (.goto (-51), 3) := by decide +kernel
theorem dX7_grounds_59 : decode cX7_grounds 59 = .ok (.iload_n 3, 1) := by decide +kernel
theorem dX7_grounds_60 : decode cX7_grounds 60 = .ok (.ireturn, 1) := by decide +kernel
set_option maxRecDepth 20000 in
theorem ggX7_higher_X7_top : GoodIn wsX7_higher wsX7_top := goodIn_r _ [6, 1, 7, 8, 9, 10, 11, 12, 13, 14, 15, 16, 17, 18, 19, 20, 21] (by decide +kernel) (by decide +kernel)
set_option maxRecDepth 20000 in
theorem gX7_higher_X7_top : GoodIn wsX7_higher (wsV RX7 91 RX7 yX7_top wsX7_top) := goodIn_app (goodIn_of _ (by decide +kernel)) ggX7_higher_X7_top
theorem dX7_higher_0 : decode cX7_higher 0 = .ok (.iload_n 1, 1) := by decide +kernel
theorem dX7_higher_1 : decode cX7_higher 1 = .ok (.ifCond .le 22, 3) := by decide +kernel
theorem dX7_higher_4 : decode cX7_higher 4 = .ok (.aload_n 0, 1) := by decide +kernel
theorem dX7_higher_5 : decode cX7_higher 5 = .ok (.iload_n 1, 1) := by decide +kernel
theorem dX7_higher_6 : decode cX7_higher 6 = .ok (.iconst 1, 1) := by decide +kernel
theorem dX7_higher_7 : decode cX7_higher 7 = .ok (.isub, 1) := by decide +kernel
theorem dX7_higher_8 : decode cX7_higher 8 = .ok (.invokevirtual 91, 3) := by decide +kernel
theorem dX7_higher_11 : decode cX7_higher 11 = .ok (.aload_n 0, 1) := by decide +kernel
theorem dX7_higher_12 : decode cX7_higher 12 = .ok (.iload_n 1, 1) := by decide +kernel
theorem dX7_higher_13 : decode cX7_higher 13 = .ok (.invokevirtual 91, 3) := by decide +kernel
theorem dX7_higher_16 : decode cX7_higher 16 = .ok (.if_icmp .le 7, 3) := by decide +kernel
theorem dX7_higher_19 : decode cX7_higher 19 = .ok (.iconst 1, 1) := by decide +kernel
theorem dX7_higher_20 : decode cX7_higher 20 = .ok (.goto 4, 3) := by decide +kernel
theorem dX7_higher_23 : decode cX7_higher 23 = .ok (.iconst 0, 1) := by decide +kernel
theorem dX7_higher_24 : decode cX7_higher 24 = .ok (.istore_n 2, 1) := by decide +kernel
theorem dX7_higher_25 : decode cX7_higher 25 = .ok (.iload_n 2, 1) := by decide +kernel
theorem dX7_higher_26 : decode cX7_higher 26 = .ok (.iload_n 1, 1) := by decide +kernel
theorem dX7_higher_27 : decode cX7_higher 27 = .ok (.iconst 1, 1) := by decide +kernel
theorem dX7_higher_28 : decode cX7_higher 28 = .ok (.iadd, 1) := by decide +kernel
theorem dX7_higher_29 : decode cX7_higher 29 = .ok (.aload_n 0, 1) := by decide +kernel
theorem dX7_higher_30 : decode cX7_higher 30 = .ok (.getfield 7, 3) := by decide +kernel
theorem dX7_higher_33 : decode cX7_higher 33 = .ok (.iconst 0, 1) := by decide +kernel
theorem dX7_higher_34 : decode cX7_higher 34 = .ok (.iaload, 1) := by decide +kernel
theorem dX7_higher_35 : decode cX7_higher 35 = .ok (.if_icmp .ge 22, 3) := by decide +kernel
theorem dX7_higher_38 : decode cX7_higher 38 = .ok (.aload_n 0, 1) := by decide +kernel
theorem dX7_higher_39 : decode cX7_higher 39 = .ok (.iload_n 1, 1) := by decide +kernel
theorem dX7_higher_40 : decode cX7_higher 40 = .ok (.iconst 1, 1) := by decide +kernel
theorem dX7_higher_41 : decode cX7_higher 41 = .ok (.iadd, 1) := by decide +kernel
theorem dX7_higher_42 : decode cX7_higher 42 = .ok (.invokevirtual 91, 3) := by decide +kernel
theorem dX7_higher_45 : decode cX7_higher 45 = .ok (.aload_n 0, 1) := by decide +kernel
theorem dX7_higher_46 : decode cX7_higher 46 = .ok (.iload_n 1, 1) := by decide +kernel
theorem dX7_higher_47 : decode cX7_higher 47 = .ok (.invokevirtual 91, 3) := by decide +kernel
theorem dX7_higher_50 : decode cX7_higher 50 = .ok (.if_icmp .le 7, 3) := by decide +kernel
theorem dX7_higher_53 : decode cX7_higher 53 = .ok (.iconst 1, 1) := by decide +kernel
theorem dX7_higher_54 : decode cX7_higher 54 = .ok (.goto 4, 3) := by decide +kernel
theorem dX7_higher_57 : decode cX7_higher 57 = .ok (.iconst 0, 1) := by decide +kernel
theorem dX7_higher_58 : decode cX7_higher 58 = .ok (.iadd, 1) := by decide +kernel
theorem dX7_higher_59 : decode cX7_higher 59 = .ok (.ireturn, 1) := by decide +kernel
set_option maxRecDepth 20000 in
theorem ggX7_station__X7_isStation : GoodIn wsX7_station_ wsX7_isStation := goodIn_r _ [6, 1, 7, 8, 5, 9, 45, 46, 47, 48, 49, 50, 51, 52, 53, 54, 55, 56, 57, 58, 59] (by decide +kernel) (by decide +kernel)
set_option maxRecDepth 20000 in
theorem gX7_station__X7_isStation : GoodIn wsX7_station_ (wsV RX7 48 RX7 yX7_isStation wsX7_isStation) := goodIn_app (goodIn_of _ (by decide +kernel)) ggX7_station__X7_isStation
set_option maxRecDepth 20000 in
theorem ggX7_station__X7_in : GoodIn wsX7_station_ wsX7_in := goodIn_r _ [9] (by decide +kernel) (by decide +kernel)
set_option maxRecDepth 20000 in
theorem gX7_station__X7_in : GoodIn wsX7_station_ (va_wsS RX7 38 yX7_in wsX7_in) := goodIn_app (goodIn_of _ (by decide +kernel)) ggX7_station__X7_in
set_option maxRecDepth 20000 in
theorem ggX7_station__X7_top : GoodIn wsX7_station_ wsX7_top := goodIn_r _ [13, 1, 45, 46, 47, 48, 49, 50, 51, 52, 53, 54, 55, 56, 57, 58, 59] (by decide +kernel) (by decide +kernel)
set_option maxRecDepth 20000 in
theorem gX7_station__X7_top : GoodIn wsX7_station_ (wsV RX7 91 RX7 yX7_top wsX7_top) := goodIn_app (goodIn_of _ (by decide +kernel)) ggX7_station__X7_top
set_option maxRecDepth 20000 in
theorem ggX7_station__X7_contacts : GoodIn wsX7_station_ wsX7_contacts := goodIn_r _ [17, 1, 18, 19, 20, 5, 21, 22, 23, 24, 25, 26, 27, 28, 10, 11, 12, 13, 29, 30, 31, 32, 33, 34, 35, 36, 45, 46, 47, 48, 49, 50, 51, 52, 53, 54, 55, 56, 57, 58, 59] (by decide +kernel) (by decide +kernel)
set_option maxRecDepth 20000 in
theorem gX7_station__X7_contacts : GoodIn wsX7_station_ (wsV RX7 109 RX7 yX7_contacts wsX7_contacts) := goodIn_app (goodIn_of _ (by decide +kernel)) ggX7_station__X7_contacts
set_option maxRecDepth 20000 in
theorem ggX7_station__X7_grounds : GoodIn wsX7_station_ wsX7_grounds := goodIn_r _ [40, 1, 29, 30, 31, 5, 32, 33, 34, 35, 36, 45, 46, 47, 48, 49, 50, 51, 52, 53, 54, 55, 56, 57, 58, 59] (by decide +kernel) (by decide +kernel)
set_option maxRecDepth 20000 in
theorem gX7_station__X7_grounds : GoodIn wsX7_station_ (wsV RX7 112 RX7 yX7_grounds wsX7_grounds) := goodIn_app (goodIn_of _ (by decide +kernel)) ggX7_station__X7_grounds
set_option maxRecDepth 20000 in
theorem ggX7_station__X7_higher : GoodIn wsX7_station_ wsX7_higher := goodIn_r _ [44, 1, 10, 11, 12, 5, 13, 45, 46, 47, 48, 49, 50, 51, 52, 53, 54, 55, 56, 57, 58, 59] (by decide +kernel) (by decide +kernel)
set_option maxRecDepth 20000 in
theorem gX7_station__X7_higher : GoodIn wsX7_station_ (wsV RX7 115 RX7 yX7_higher wsX7_higher) := goodIn_app (goodIn_of _ (by decide +kernel)) ggX7_station__X7_higher
theorem dX7_station__0 : decode cX7_station_ 0 = .ok (.aload_n 0, 1) := by decide +kernel
theorem dX7_station__1 : decode cX7_station_ 1 = .ok (.iload_n 1, 1) := by decide +kernel
theorem dX7_station__2 : decode cX7_station_ 2 = .ok (.invokevirtual 48, 3) := by decide +kernel
theorem dX7_station__5 : decode cX7_station_ 5 = .ok (.ifCond .eq 12, 3) := by decide +kernel
theorem dX7_station__8 : decode cX7_station_ 8 = .ok (.iload_n 2, 1) := by decide +kernel
theorem dX7_station__9 : decode cX7_station_ 9 = .ok (.iconst 0, 1) := by decide +kernel
theorem dX7_station__10 : decode cX7_station_ 10 = .ok (.iconst 5, 1) := by decide +kernel
theorem dX7_station__11 : decode cX7_station_ 11 = .ok (.invokestatic 38, 3) := by decide +kernel
theorem dX7_station__14 : decode cX7_station_ 14 = .ok (.ifCond .ne 6, 3) := by decide +kernel
theorem dX7_station__17 : decode cX7_station_ 17 = .ok (.bipush (-2), 2) := by decide +kernel
theorem dX7_station__19 : decode cX7_station_ 19 = .ok (.ireturn, 1) := by decide +kernel
theorem dX7_station__20 : decode cX7_station_ 20 = .ok (.iload_n 2, 1) := by decide +kernel
theorem dX7_station__21 : decode cX7_station_ 21 = .ok (.tableswitch 77 0 4 #[35, 44, 54, 60, 66], 35) := by decide +kernel
theorem dX7_station__56 : decode cX7_station_ 56 = .ok (.aload_n 0, 1) := by decide +kernel
theorem dX7_station__57 : decode cX7_station_ 57 = .ok (.getfield 7, 3) := by decide +kernel
theorem dX7_station__60 : decode cX7_station_ 60 = .ok (.iconst 3, 1) := by decide +kernel
theorem dX7_station__61 : decode cX7_station_ 61 = .ok (.iload_n 1, 1) := by decide +kernel
theorem dX7_station__62 : decode cX7_station_ 62 = .ok (.iadd, 1) := by decide +kernel
theorem dX7_station__63 : decode cX7_station_ 63 = .ok (.iaload, 1) := by decide +kernel
theorem dX7_station__64 : decode cX7_station_ 64 = .ok (.ireturn, 1) := by decide +kernel
theorem dX7_station__65 : decode cX7_station_ 65 = .ok (.aload_n 0, 1) := by decide +kernel
theorem dX7_station__66 : decode cX7_station_ 66 = .ok (.getfield 7, 3) := by decide +kernel
theorem dX7_station__69 : decode cX7_station_ 69 = .ok (.bipush 23, 2) := by decide +kernel
theorem dX7_station__71 : decode cX7_station_ 71 = .ok (.iload_n 1, 1) := by decide +kernel
theorem dX7_station__72 : decode cX7_station_ 72 = .ok (.iadd, 1) := by decide +kernel
theorem dX7_station__73 : decode cX7_station_ 73 = .ok (.iaload, 1) := by decide +kernel
theorem dX7_station__74 : decode cX7_station_ 74 = .ok (.ireturn, 1) := by decide +kernel
theorem dX7_station__75 : decode cX7_station_ 75 = .ok (.aload_n 0, 1) := by decide +kernel
theorem dX7_station__76 : decode cX7_station_ 76 = .ok (.iload_n 1, 1) := by decide +kernel
theorem dX7_station__77 : decode cX7_station_ 77 = .ok (.invokevirtual 91, 3) := by decide +kernel
theorem dX7_station__80 : decode cX7_station_ 80 = .ok (.ireturn, 1) := by decide +kernel
theorem dX7_station__81 : decode cX7_station_ 81 = .ok (.aload_n 0, 1) := by decide +kernel
theorem dX7_station__82 : decode cX7_station_ 82 = .ok (.iload_n 1, 1) := by decide +kernel
theorem dX7_station__83 : decode cX7_station_ 83 = .ok (.invokevirtual 109, 3) := by decide +kernel
theorem dX7_station__86 : decode cX7_station_ 86 = .ok (.ireturn, 1) := by decide +kernel
theorem dX7_station__87 : decode cX7_station_ 87 = .ok (.aload_n 0, 1) := by decide +kernel
theorem dX7_station__88 : decode cX7_station_ 88 = .ok (.iload_n 1, 1) := by decide +kernel
theorem dX7_station__89 : decode cX7_station_ 89 = .ok (.aload_n 0, 1) := by decide +kernel
theorem dX7_station__90 : decode cX7_station_ 90 = .ok (.iload_n 1, 1) := by decide +kernel
theorem dX7_station__91 : decode cX7_station_ 91 = .ok (.invokevirtual 91, 3) := by decide +kernel
theorem dX7_station__94 : decode cX7_station_ 94 = .ok (.invokevirtual 112, 3) := by decide +kernel
theorem dX7_station__97 : decode cX7_station_ 97 = .ok (.ireturn, 1) := by decide +kernel
theorem dX7_station__98 : decode cX7_station_ 98 = .ok (.aload_n 0, 1) := by decide +kernel
theorem dX7_station__99 : decode cX7_station_ 99 = .ok (.iload_n 1, 1) := by decide +kernel
theorem dX7_station__100 : decode cX7_station_ 100 = .ok (.invokevirtual 115, 3) := by decide +kernel
theorem dX7_station__103 : decode cX7_station_ 103 = .ok (.ireturn, 1) := by decide +kernel
set_option maxRecDepth 20000 in
theorem ggX7_sees_X7_isStation : GoodIn wsX7_sees wsX7_isStation := goodIn_r _ [5, 6, 7, 8, 4, 9, 26, 27, 28, 29, 30, 31, 32, 33, 34, 35, 36, 37, 38, 39, 40] (by decide +kernel) (by decide +kernel)
set_option maxRecDepth 20000 in
theorem gX7_sees_X7_isStation : GoodIn wsX7_sees (wsV RX7 48 RX7 yX7_isStation wsX7_isStation) := goodIn_app (goodIn_of _ (by decide +kernel)) ggX7_sees_X7_isStation
set_option maxRecDepth 20000 in
theorem ggX7_sees_X7_see : GoodIn wsX7_sees wsX7_see := goodIn_r _ [13, 14, 15, 16, 4, 17, 6, 18, 19, 20, 21, 22, 23, 24, 25, 26, 27, 28, 29, 30, 31, 32, 33, 34, 35, 36, 37, 38, 39, 40] (by decide +kernel) (by decide +kernel)
set_option maxRecDepth 20000 in
theorem gX7_sees_X7_see : GoodIn wsX7_sees (wsV RX7 102 RX7 yX7_see wsX7_see) := goodIn_app (goodIn_of _ (by decide +kernel)) ggX7_sees_X7_see
theorem dX7_sees_0 : decode cX7_sees 0 = .ok (.aload_n 0, 1) := by decide +kernel
theorem dX7_sees_1 : decode cX7_sees 1 = .ok (.iload_n 1, 1) := by decide +kernel
theorem dX7_sees_2 : decode cX7_sees 2 = .ok (.invokevirtual 48, 3) := by decide +kernel
theorem dX7_sees_5 : decode cX7_sees 5 = .ok (.ifCond .eq 11, 3) := by decide +kernel
theorem dX7_sees_8 : decode cX7_sees 8 = .ok (.aload_n 0, 1) := by decide +kernel
theorem dX7_sees_9 : decode cX7_sees 9 = .ok (.iload_n 2, 1) := by decide +kernel
theorem dX7_sees_10 : decode cX7_sees 10 = .ok (.invokevirtual 48, 3) := by decide +kernel
theorem dX7_sees_13 : decode cX7_sees 13 = .ok (.ifCond .ne 6, 3) := by decide +kernel
theorem dX7_sees_16 : decode cX7_sees 16 = .ok (.bipush (-2), 2) := by decide +kernel
theorem dX7_sees_18 : decode cX7_sees 18 = .ok (.ireturn, 1) := by decide +kernel
theorem dX7_sees_19 : decode cX7_sees 19 = .ok (.aload_n 0, 1) := by decide +kernel
theorem dX7_sees_20 : decode cX7_sees 20 = .ok (.iload_n 1, 1) := by decide +kernel
theorem dX7_sees_21 : decode cX7_sees 21 = .ok (.iload_n 2, 1) := by decide +kernel
theorem dX7_sees_22 : decode cX7_sees 22 = .ok (.invokevirtual 102, 3) := by decide +kernel
theorem dX7_sees_25 : decode cX7_sees 25 = .ok (.ifCond .eq 7, 3) := by decide +kernel
theorem dX7_sees_28 : decode cX7_sees 28 = .ok (.iconst 1, 1) := by decide +kernel
theorem dX7_sees_29 : decode cX7_sees 29 = .ok (.goto 4, 3) := by decide +kernel
theorem dX7_sees_32 : decode cX7_sees 32 = .ok (.iconst 0, 1) := by decide +kernel
theorem dX7_sees_33 : decode cX7_sees 33 = .ok (.ireturn, 1) := by decide +kernel
set_option maxRecDepth 20000 in
theorem ggX7_areTwo_X7_isStation : GoodIn wsX7_areTwo wsX7_isStation := goodIn_r _ [5, 6, 7, 8, 4, 9, 10, 11, 12, 13, 14, 15, 16, 17, 18, 19, 20, 21, 22, 23, 24] (by decide +kernel) (by decide +kernel)
set_option maxRecDepth 20000 in
theorem gX7_areTwo_X7_isStation : GoodIn wsX7_areTwo (wsV RX7 48 RX7 yX7_isStation wsX7_isStation) := goodIn_app (goodIn_of _ (by decide +kernel)) ggX7_areTwo_X7_isStation
theorem dX7_areTwo_0 : decode cX7_areTwo 0 = .ok (.aload_n 0, 1) := by decide +kernel
theorem dX7_areTwo_1 : decode cX7_areTwo 1 = .ok (.iload_n 1, 1) := by decide +kernel
theorem dX7_areTwo_2 : decode cX7_areTwo 2 = .ok (.invokevirtual 48, 3) := by decide +kernel
theorem dX7_areTwo_5 : decode cX7_areTwo 5 = .ok (.ifCond .eq 20, 3) := by decide +kernel
theorem dX7_areTwo_8 : decode cX7_areTwo 8 = .ok (.aload_n 0, 1) := by decide +kernel
theorem dX7_areTwo_9 : decode cX7_areTwo 9 = .ok (.iload_n 2, 1) := by decide +kernel
theorem dX7_areTwo_10 : decode cX7_areTwo 10 = .ok (.invokevirtual 48, 3) := by decide +kernel
theorem dX7_areTwo_13 : decode cX7_areTwo 13 = .ok (.ifCond .eq 12, 3) := by decide +kernel
theorem dX7_areTwo_16 : decode cX7_areTwo 16 = .ok (.iload_n 1, 1) := by decide +kernel
theorem dX7_areTwo_17 : decode cX7_areTwo 17 = .ok (.iload_n 2, 1) := by decide +kernel
theorem dX7_areTwo_18 : decode cX7_areTwo 18 = .ok (.if_icmp .eq 7, 3) := by decide +kernel
theorem dX7_areTwo_21 : decode cX7_areTwo 21 = .ok (.iconst 1, 1) := by decide +kernel
theorem dX7_areTwo_22 : decode cX7_areTwo 22 = .ok (.goto 4, 3) := by decide +kernel
theorem dX7_areTwo_25 : decode cX7_areTwo 25 = .ok (.iconst 0, 1) := by decide +kernel
theorem dX7_areTwo_26 : decode cX7_areTwo 26 = .ok (.ireturn, 1) := by decide +kernel
set_option maxRecDepth 20000 in
theorem ggX7_obstacle_X7_areTwo : GoodIn wsX7_obstacle wsX7_areTwo := goodIn_r _ [5, 6, 7, 8, 4, 9, 10, 11, 12, 13, 22, 23, 24, 25, 26, 27, 28, 29, 30, 31, 32, 33, 34, 35, 36] (by decide +kernel) (by decide +kernel)
set_option maxRecDepth 20000 in
theorem gX7_obstacle_X7_areTwo : GoodIn wsX7_obstacle (wsV RX7 118 RX7 yX7_areTwo wsX7_areTwo) := goodIn_app (goodIn_of _ (by decide +kernel)) ggX7_obstacle_X7_areTwo
set_option maxRecDepth 20000 in
theorem ggX7_obstacle_X7_in : GoodIn wsX7_obstacle wsX7_in := goodIn_r _ [13] (by decide +kernel) (by decide +kernel)
set_option maxRecDepth 20000 in
theorem gX7_obstacle_X7_in : GoodIn wsX7_obstacle (va_wsS RX7 38 yX7_in wsX7_in) := goodIn_app (goodIn_of _ (by decide +kernel)) ggX7_obstacle_X7_in
set_option maxRecDepth 20000 in
theorem ggX7_obstacle_X7_top : GoodIn wsX7_obstacle wsX7_top := goodIn_r _ [17, 10, 22, 23, 24, 25, 26, 27, 28, 29, 30, 31, 32, 33, 34, 35, 36] (by decide +kernel) (by decide +kernel)
set_option maxRecDepth 20000 in
theorem gX7_obstacle_X7_top : GoodIn wsX7_obstacle (wsV RX7 91 RX7 yX7_top wsX7_top) := goodIn_app (goodIn_of _ (by decide +kernel)) ggX7_obstacle_X7_top
set_option maxRecDepth 20000 in
theorem ggX7_obstacle_X7_clearance : GoodIn wsX7_obstacle wsX7_clearance := goodIn_r _ [21, 10, 22, 23, 24, 25, 26, 27, 28, 29, 30, 31, 32, 33, 34, 35, 36] (by decide +kernel) (by decide +kernel)
set_option maxRecDepth 20000 in
theorem gX7_obstacle_X7_clearance : GoodIn wsX7_obstacle (wsV RX7 87 RX7 yX7_clearance wsX7_clearance) := goodIn_app (goodIn_of _ (by decide +kernel)) ggX7_obstacle_X7_clearance
theorem dX7_obstacle_0 : decode cX7_obstacle 0 = .ok (.aload_n 0, 1) := by decide +kernel
theorem dX7_obstacle_1 : decode cX7_obstacle 1 = .ok (.iload_n 1, 1) := by decide +kernel
theorem dX7_obstacle_2 : decode cX7_obstacle 2 = .ok (.iload_n 2, 1) := by decide +kernel
theorem dX7_obstacle_3 : decode cX7_obstacle 3 = .ok (.invokevirtual 118, 3) := by decide +kernel
theorem dX7_obstacle_6 : decode cX7_obstacle 6 = .ok (.ifCond .eq 12, 3) := by decide +kernel
theorem dX7_obstacle_9 : decode cX7_obstacle 9 = .ok (.iload_n 3, 1) := by decide +kernel
theorem dX7_obstacle_10 : decode cX7_obstacle 10 = .ok (.iconst 0, 1) := by decide +kernel
theorem dX7_obstacle_11 : decode cX7_obstacle 11 = .ok (.iconst 1, 1) := by decide +kernel
theorem dX7_obstacle_12 : decode cX7_obstacle 12 = .ok (.invokestatic 38, 3) := by decide +kernel
theorem dX7_obstacle_15 : decode cX7_obstacle 15 = .ok (.ifCond .ne 6, 3) := by decide +kernel
theorem dX7_obstacle_18 : decode cX7_obstacle 18 = .ok (.bipush (-2), 2) := by decide +kernel
theorem dX7_obstacle_20 : decode cX7_obstacle 20 = .ok (.ireturn, 1) := by decide +kernel
theorem dX7_obstacle_21 : decode cX7_obstacle 21 = .ok (.iload_n 1, 1) := by decide +kernel
theorem dX7_obstacle_22 : decode cX7_obstacle 22 = .ok (.iload_n 2, 1) := by decide +kernel
theorem dX7_obstacle_23 : decode cX7_obstacle 23 = .ok (.if_icmp .ge 7, 3) := by decide +kernel
theorem dX7_obstacle_26 : decode cX7_obstacle 26 = .ok (.iload_n 1, 1) := by decide +kernel
theorem dX7_obstacle_27 : decode cX7_obstacle 27 = .ok (.goto 4, 3) := by decide +kernel
theorem dX7_obstacle_30 : decode cX7_obstacle 30 = .ok (.iload_n 2, 1) := by decide +kernel
theorem dX7_obstacle_31 : decode cX7_obstacle 31 = .ok (.istore 4, 2) := by decide +kernel
theorem dX7_obstacle_33 : decode cX7_obstacle 33 = .ok (.iload_n 1, 1) := by decide +kernel
theorem dX7_obstacle_34 : decode cX7_obstacle 34 = .ok (.iload_n 2, 1) := by decide +kernel
theorem dX7_obstacle_35 : decode cX7_obstacle 35 = .ok (.if_icmp .ge 7, 3) := by decide +kernel
theorem dX7_obstacle_38 : decode cX7_obstacle 38 = .ok (.iload_n 2, 1) := by decide +kernel
theorem dX7_obstacle_39 : decode cX7_obstacle 39 = .ok (.goto 4, 3) := by decide +kernel
theorem dX7_obstacle_42 : decode cX7_obstacle 42 = .ok (.iload_n 1, 1) := by decide +kernel
theorem dX7_obstacle_43 : decode cX7_obstacle 43 = .ok (.istore 5, 2) := by decide +kernel
theorem dX7_obstacle_45 : decode cX7_obstacle 45 = .ok (.iconst (-1), 1) := by decide +kernel
theorem dX7_obstacle_46 : decode cX7_obstacle 46 = .ok (.istore 6, 2) := by decide +kernel
theorem dX7_obstacle_48 : decode cX7_obstacle 48 = .ok (.iconst 0, 1) := by decide +kernel
theorem dX7_obstacle_49 : decode cX7_obstacle 49 = .ok (.istore 7, 2) := by decide +kernel
theorem dX7_obstacle_51 : decode cX7_obstacle 51 = .ok (.iload 4, 2) := by decide +kernel
theorem dX7_obstacle_53 : decode cX7_obstacle 53 = .ok (.iconst 1, 1) := by decide +kernel
theorem dX7_obstacle_54 : decode cX7_obstacle 54 = .ok (.iadd, 1) := by decide +kernel
theorem dX7_obstacle_55 : decode cX7_obstacle 55 = .ok (.istore 8, 2) := by decide +kernel
theorem dX7_obstacle_57 : decode cX7_obstacle 57 = .ok (.iload 8, 2) := by decide +kernel
theorem dX7_obstacle_59 : decode cX7_obstacle 59 = .ok (.iload 5, 2) := by decide +kernel
theorem dX7_obstacle_61 : decode cX7_obstacle 61 = .ok (.if_icmp .ge 81, 3) := by decide +kernel
theorem dX7_obstacle_64 : decode cX7_obstacle 64 = .ok (.aload_n 0, 1) := by decide +kernel
theorem dX7_obstacle_65 : decode cX7_obstacle 65 = .ok (.iload 4, 2) := by decide +kernel
theorem dX7_obstacle_67 : decode cX7_obstacle 67 = .ok (.aload_n 0, 1) := by decide +kernel
theorem dX7_obstacle_68 : decode cX7_obstacle 68 = .ok (.iload 4, 2) := by decide +kernel
theorem dX7_obstacle_70 : decode cX7_obstacle 70 = .ok (.invokevirtual 91, 3) := by decide +kernel
theorem dX7_obstacle_73 : decode cX7_obstacle 73 = .ok (.iload 5, 2) := by decide +kernel
theorem dX7_obstacle_75 : decode cX7_obstacle 75 = .ok (.aload_n 0, 1) := by decide +kernel
theorem dX7_obstacle_76 : decode cX7_obstacle 76 = .ok (.iload 5, 2) := by decide +kernel
theorem dX7_obstacle_78 : decode cX7_obstacle 78 = .ok (.invokevirtual 91, 3) := by decide +kernel
theorem dX7_obstacle_81 : decode cX7_obstacle 81 = .ok (.iload 8, 2) := by decide +kernel
theorem dX7_obstacle_83 : decode cX7_obstacle 83 = .ok (.invokevirtual 87, 3) := by decide +kernel
theorem dX7_obstacle_86 : decode cX7_obstacle 86 = .ok (.istore 9, 2) := by decide +kernel
theorem dX7_obstacle_88 : decode cX7_obstacle 88 = .ok (.iload 6, 2) := by decide +kernel
theorem dX7_obstacle_90 : decode cX7_obstacle 90 = .ok (.iconst (-1), 1) := by decide +kernel
theorem dX7_obstacle_91 : decode cX7_obstacle 91 = .ok (.if_icmp .eq 10, 3) := by decide +kernel
theorem dX7_obstacle_94 : decode cX7_obstacle 94 = .ok (.iload 9, 2) := by decide +kernel
theorem dX7_obstacle_96 : decode cX7_obstacle 96 = .ok (.iload 7, 2) := by decide +kernel
theorem dX7_obstacle_98 : decode cX7_obstacle 98 = .ok (.if_icmp .ge 7, 3) := by decide +kernel
theorem dX7_obstacle_101 : decode cX7_obstacle 101 = .ok (.iconst 1, 1) := by decide +kernel
theorem dX7_obstacle_102 : decode cX7_obstacle 102 = .ok (.goto 4, 3) := by decide +kernel
theorem dX7_obstacle_105 : decode cX7_obstacle 105 = .ok (.iconst 0, 1) := by decide +kernel
theorem dX7_obstacle_106 : decode cX7_obstacle 106 = .ok (.istore 10, 2) := by decide +kernel
theorem dX7_obstacle_108 : decode cX7_obstacle 108 = .ok (.iload 10, 2) := by decide +kernel
theorem dX7_obstacle_110 : decode cX7_obstacle 110 = .ok (.ifCond .eq 8, 3) := by decide +kernel
theorem dX7_obstacle_113 : decode cX7_obstacle 113 = .ok (.iload 8, 2) := by decide +kernel
theorem dX7_obstacle_115 : decode cX7_obstacle 115 = .ok (.goto 5, 3) := by decide +kernel
theorem dX7_obstacle_118 : decode cX7_obstacle 118 = .ok (.iload 6, 2) := by decide +kernel
theorem dX7_obstacle_120 : decode cX7_obstacle 120 = .ok (.istore 6, 2) := by decide +kernel
theorem dX7_obstacle_122 : decode cX7_obstacle 122 = .ok (.iload 10, 2) := by decide +kernel
theorem dX7_obstacle_124 : decode cX7_obstacle 124 = .ok (.ifCond .eq 8, 3) := by decide +kernel
theorem dX7_obstacle_127 : decode cX7_obstacle 127 = .ok (.iload 9, 2) := by decide +kernel
theorem dX7_obstacle_129 : decode cX7_obstacle 129 = .ok (.goto 5, 3) := by decide +kernel
theorem dX7_obstacle_132 : decode cX7_obstacle 132 = .ok (.iload 7, 2) := by decide +kernel
theorem dX7_obstacle_134 : decode cX7_obstacle 134 = .ok (.istore 7, 2) := by decide +kernel
theorem dX7_obstacle_136 : decode cX7_obstacle 136 = .ok (.iinc 8 1, 3) := by decide +kernel
theorem dX7_obstacle_139 : decode cX7_obstacle 139 = .ok (.goto (-82), 3) := by decide +kernel
theorem dX7_obstacle_142 : decode cX7_obstacle 142 = .ok (.iload 6, 2) := by decide +kernel
theorem dX7_obstacle_144 : decode cX7_obstacle 144 = .ok (.iconst (-1), 1) := by decide +kernel
theorem dX7_obstacle_145 : decode cX7_obstacle 145 = .ok (.if_icmp .eq 7, 3) := by decide +kernel
theorem dX7_obstacle_148 : decode cX7_obstacle 148 = .ok (.iload_n 3, 1) := by decide +kernel
theorem dX7_obstacle_149 : decode cX7_obstacle 149 = .ok (.ifCond .ne 8, 3) := by decide +kernel
theorem dX7_obstacle_152 : decode cX7_obstacle 152 = .ok (.iload 6, 2) := by decide +kernel
theorem dX7_obstacle_154 : decode cX7_obstacle 154 = .ok (.goto 5, 3) := by decide +kernel
theorem dX7_obstacle_157 : decode cX7_obstacle 157 = .ok (.iload 7, 2) := by decide +kernel
theorem dX7_obstacle_159 : decode cX7_obstacle 159 = .ok (.ireturn, 1) := by decide +kernel
set_option maxRecDepth 20000 in
theorem ggX7_neededMast_X7_areTwo : GoodIn wsX7_neededMast wsX7_areTwo := goodIn_r _ [6, 7, 8, 9, 5, 10, 1, 11, 12, 13, 26, 27, 28, 29, 30, 31, 32, 33, 34, 35, 36, 37, 38, 39, 40] (by decide +kernel) (by decide +kernel)
set_option maxRecDepth 20000 in
theorem gX7_neededMast_X7_areTwo : GoodIn wsX7_neededMast (wsV RX7 118 RX7 yX7_areTwo wsX7_areTwo) := goodIn_app (goodIn_of _ (by decide +kernel)) ggX7_neededMast_X7_areTwo
set_option maxRecDepth 20000 in
theorem ggX7_neededMast_X7_top : GoodIn wsX7_neededMast wsX7_top := goodIn_r _ [17, 1, 26, 27, 28, 29, 30, 31, 32, 33, 34, 35, 36, 37, 38, 39, 40] (by decide +kernel) (by decide +kernel)
set_option maxRecDepth 20000 in
theorem gX7_neededMast_X7_top : GoodIn wsX7_neededMast (wsV RX7 91 RX7 yX7_top wsX7_top) := goodIn_app (goodIn_of _ (by decide +kernel)) ggX7_neededMast_X7_top
set_option maxRecDepth 20000 in
theorem ggX7_neededMast_X7_meet : GoodIn wsX7_neededMast wsX7_meet := goodIn_r _ [21, 22, 23, 24, 5, 25, 1, 26, 27, 28, 29, 30, 31, 32, 33, 34, 35, 36, 37, 38, 39, 40] (by decide +kernel) (by decide +kernel)
set_option maxRecDepth 20000 in
theorem gX7_neededMast_X7_meet : GoodIn wsX7_neededMast (wsV RX7 95 RX7 yX7_meet wsX7_meet) := goodIn_app (goodIn_of _ (by decide +kernel)) ggX7_neededMast_X7_meet
theorem dX7_neededMast_0 : decode cX7_neededMast 0 = .ok (.aload_n 0, 1) := by decide +kernel
theorem dX7_neededMast_1 : decode cX7_neededMast 1 = .ok (.iload_n 1, 1) := by decide +kernel
theorem dX7_neededMast_2 : decode cX7_neededMast 2 = .ok (.iload_n 2, 1) := by decide +kernel
theorem dX7_neededMast_3 : decode cX7_neededMast 3 = .ok (.invokevirtual 118, 3) := by decide +kernel
theorem dX7_neededMast_6 : decode cX7_neededMast 6 = .ok (.ifCond .ne 6, 3) := by decide +kernel
theorem dX7_neededMast_9 : decode cX7_neededMast 9 = .ok (.bipush (-2), 2) := by decide +kernel
theorem dX7_neededMast_11 : decode cX7_neededMast 11 = .ok (.ireturn, 1) := by decide +kernel
theorem dX7_neededMast_12 : decode cX7_neededMast 12 = .ok (.iconst 0, 1) := by decide +kernel
theorem dX7_neededMast_13 : decode cX7_neededMast 13 = .ok (.istore_n 3, 1) := by decide +kernel
theorem dX7_neededMast_14 : decode cX7_neededMast 14 = .ok (.iload_n 3, 1) := by decide +kernel
theorem dX7_neededMast_15 : decode cX7_neededMast 15 = .ok (.sipush 200, 3) := by decide +kernel
theorem dX7_neededMast_18 : decode cX7_neededMast 18 = .ok (.if_icmp .gt 35, 3) := by decide +kernel
theorem dX7_neededMast_21 : decode cX7_neededMast 21 = .ok (.aload_n 0, 1) := by decide +kernel
theorem dX7_neededMast_22 : decode cX7_neededMast 22 = .ok (.iload_n 1, 1) := by decide +kernel
theorem dX7_neededMast_23 : decode cX7_neededMast 23 = .ok (.aload_n 0, 1) := by decide +kernel
theorem dX7_neededMast_24 : decode cX7_neededMast 24 = .ok (.getfield 7, 3) := by decide +kernel
theorem dX7_neededMast_27 : decode cX7_neededMast 27 = .ok (.iconst 3, 1) := by decide +kernel
theorem dX7_neededMast_28 : decode cX7_neededMast 28 = .ok (.iload_n 1, 1) := by decide +kernel
theorem dX7_neededMast_29 : decode cX7_neededMast 29 = .ok (.iadd, 1) := by decide +kernel
theorem dX7_neededMast_30 : decode cX7_neededMast 30 = .ok (.iaload, 1) := by decide +kernel
theorem dX7_neededMast_31 : decode cX7_neededMast 31 = .ok (.iload_n 3, 1) := by decide +kernel
theorem dX7_neededMast_32 : decode cX7_neededMast 32 = .ok (.iadd, 1) := by decide +kernel
theorem dX7_neededMast_33 : decode cX7_neededMast 33 = .ok (.iload_n 2, 1) := by decide +kernel
theorem dX7_neededMast_34 : decode cX7_neededMast 34 = .ok (.aload_n 0, 1) := by decide +kernel
theorem dX7_neededMast_35 : decode cX7_neededMast 35 = .ok (.iload_n 2, 1) := by decide +kernel
theorem dX7_neededMast_36 : decode cX7_neededMast 36 = .ok (.invokevirtual 91, 3) := by decide +kernel
theorem dX7_neededMast_39 : decode cX7_neededMast 39 = .ok (.invokevirtual 95, 3) := by decide +kernel
theorem dX7_neededMast_42 : decode cX7_neededMast 42 = .ok (.ifCond .eq 5, 3) := by decide +kernel
theorem dX7_neededMast_45 : decode cX7_neededMast 45 = .ok (.iload_n 3, 1) := by decide +kernel
theorem dX7_neededMast_46 : decode cX7_neededMast 46 = .ok (.ireturn, 1) := by decide +kernel
theorem dX7_neededMast_47 : decode cX7_neededMast 47 = .ok (.iinc 3 1, 3) := by decide +kernel
theorem dX7_neededMast_50 : decode cX7_neededMast 50 = .ok (.goto (-36), 3) := by decide +kernel
theorem dX7_neededMast_53 : decode cX7_neededMast 53 = .ok (.iconst (-1), 1) := by decide +kernel
theorem dX7_neededMast_54 : decode cX7_neededMast 54 = .ok (.ireturn, 1) := by decide +kernel
set_option maxRecDepth 20000 in
theorem ggX7_growth_X7_areTwo : GoodIn wsX7_growth wsX7_areTwo := goodIn_r _ [6, 7, 8, 9, 5, 10, 1, 11, 12, 13, 26, 27, 28, 29, 30, 31, 32, 33, 34, 35, 36, 37, 38, 39, 40] (by decide +kernel) (by decide +kernel)
set_option maxRecDepth 20000 in
theorem gX7_growth_X7_areTwo : GoodIn wsX7_growth (wsV RX7 118 RX7 yX7_areTwo wsX7_areTwo) := goodIn_app (goodIn_of _ (by decide +kernel)) ggX7_growth_X7_areTwo
set_option maxRecDepth 20000 in
theorem ggX7_growth_X7_in : GoodIn wsX7_growth wsX7_in := goodIn_r _ [13] (by decide +kernel) (by decide +kernel)
set_option maxRecDepth 20000 in
theorem gX7_growth_X7_in : GoodIn wsX7_growth (va_wsS RX7 38 yX7_in wsX7_in) := goodIn_app (goodIn_of _ (by decide +kernel)) ggX7_growth_X7_in
set_option maxRecDepth 20000 in
theorem ggX7_growth_X7_top : GoodIn wsX7_growth wsX7_top := goodIn_r _ [17, 1, 26, 27, 28, 29, 30, 31, 32, 33, 34, 35, 36, 37, 38, 39, 40] (by decide +kernel) (by decide +kernel)
set_option maxRecDepth 20000 in
theorem gX7_growth_X7_top : GoodIn wsX7_growth (wsV RX7 91 RX7 yX7_top wsX7_top) := goodIn_app (goodIn_of _ (by decide +kernel)) ggX7_growth_X7_top
set_option maxRecDepth 20000 in
theorem ggX7_growth_X7_meet : GoodIn wsX7_growth wsX7_meet := goodIn_r _ [21, 22, 23, 24, 5, 25, 1, 26, 27, 28, 29, 30, 31, 32, 33, 34, 35, 36, 37, 38, 39, 40] (by decide +kernel) (by decide +kernel)
set_option maxRecDepth 20000 in
theorem gX7_growth_X7_meet : GoodIn wsX7_growth (wsV RX7 95 RX7 yX7_meet wsX7_meet) := goodIn_app (goodIn_of _ (by decide +kernel)) ggX7_growth_X7_meet
theorem dX7_growth_0 : decode cX7_growth 0 = .ok (.aload_n 0, 1) := by decide +kernel
theorem dX7_growth_1 : decode cX7_growth 1 = .ok (.iload_n 1, 1) := by decide +kernel
theorem dX7_growth_2 : decode cX7_growth 2 = .ok (.iload_n 2, 1) := by decide +kernel
theorem dX7_growth_3 : decode cX7_growth 3 = .ok (.invokevirtual 118, 3) := by decide +kernel
theorem dX7_growth_6 : decode cX7_growth 6 = .ok (.ifCond .eq 12, 3) := by decide +kernel
theorem dX7_growth_9 : decode cX7_growth 9 = .ok (.iload_n 3, 1) := by decide +kernel
theorem dX7_growth_10 : decode cX7_growth 10 = .ok (.iconst 0, 1) := by decide +kernel
