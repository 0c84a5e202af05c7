theorem dX7_growth_11 : decode cX7_growth 11 = .ok (.iconst 2, 1) := by decide +kernel
theorem dX7_growth_12 : decode cX7_growth 12 = .ok (.invokestatic 38, 3) := by decide +kernel
theorem dX7_growth_15 : decode cX7_growth 15 = .ok (.ifCond .ne 6, 3) := by decide +kernel
theorem dX7_growth_18 : decode cX7_growth 18 = .ok (.bipush (-2), 2) := by decide +kernel
theorem dX7_growth_20 : decode cX7_growth 20 = .ok (.ireturn, 1) := by decide +kernel
theorem dX7_growth_21 : decode cX7_growth 21 = .ok (.iconst 0, 1) := by decide +kernel
theorem dX7_growth_22 : decode cX7_growth 22 = .ok (.istore 4, 2) := by decide +kernel
theorem dX7_growth_24 : decode cX7_growth 24 = .ok (.iload 4, 2) := by decide +kernel
theorem dX7_growth_26 : decode cX7_growth 26 = .ok (.sipush 400, 3) := by decide +kernel
theorem dX7_growth_29 : decode cX7_growth 29 = .ok (.if_icmp .gt 127, 3) := by decide +kernel
theorem dX7_growth_32 : decode cX7_growth 32 = .ok (.iconst 0, 1) := by decide +kernel
theorem dX7_growth_33 : decode cX7_growth 33 = .ok (.istore 5, 2) := by decide +kernel
theorem dX7_growth_35 : decode cX7_growth 35 = .ok (.iload 5, 2) := by decide +kernel
theorem dX7_growth_37 : decode cX7_growth 37 = .ok (.iload 4, 2) := by decide +kernel
theorem dX7_growth_39 : decode cX7_growth 39 = .ok (.if_icmp .gt 111, 3) := by decide +kernel
theorem dX7_growth_42 : decode cX7_growth 42 = .ok (.iload 4, 2) := by decide +kernel
theorem dX7_growth_44 : decode cX7_growth 44 = .ok (.iload 5, 2) := by decide +kernel
theorem dX7_growth_46 : decode cX7_growth 46 = .ok (.isub, 1) := by decide +kernel
theorem dX7_growth_47 : decode cX7_growth 47 = .ok (.istore 6, 2) := by decide +kernel
theorem dX7_growth_49 : decode cX7_growth 49 = .ok (.aload_n 0, 1) := by decide +kernel
theorem dX7_growth_50 : decode cX7_growth 50 = .ok (.getfield 7, 3) := by decide +kernel
theorem dX7_growth_53 : decode cX7_growth 53 = .ok (.bipush 23, 2) := by decide +kernel
theorem dX7_growth_55 : decode cX7_growth 55 = .ok (.iload_n 1, 1) := by decide +kernel
theorem dX7_growth_56 : decode cX7_growth 56 = .ok (.iadd, 1) := by decide +kernel
theorem dX7_growth_57 : decode cX7_growth 57 = .ok (.iaload, 1) := by decide +kernel
theorem dX7_growth_58 : decode cX7_growth 58 = .ok (.iload 5, 2) := by decide +kernel
theorem dX7_growth_60 : decode cX7_growth 60 = .ok (.iadd, 1) := by decide +kernel
theorem dX7_growth_61 : decode cX7_growth 61 = .ok (.sipush 200, 3) := by decide +kernel
theorem dX7_growth_64 : decode cX7_growth 64 = .ok (.if_icmp .gt 25, 3) := by decide +kernel
theorem dX7_growth_67 : decode cX7_growth 67 = .ok (.aload_n 0, 1) := by decide +kernel
theorem dX7_growth_68 : decode cX7_growth 68 = .ok (.getfield 7, 3) := by decide +kernel
theorem dX7_growth_71 : decode cX7_growth 71 = .ok (.bipush 23, 2) := by decide +kernel
theorem dX7_growth_73 : decode cX7_growth 73 = .ok (.iload_n 2, 1) := by decide +kernel
theorem dX7_growth_74 : decode cX7_growth 74 = .ok (.iadd, 1) := by decide +kernel
theorem dX7_growth_75 : decode cX7_growth 75 = .ok (.iaload, 1) := by decide +kernel
theorem dX7_growth_76 : decode cX7_growth 76 = .ok (.iload 6, 2) := by decide +kernel
theorem dX7_growth_78 : decode cX7_growth 78 = .ok (.iadd, 1) := by decide +kernel
theorem dX7_growth_79 : decode cX7_growth 79 = .ok (.sipush 200, 3) := by decide +kernel
theorem dX7_growth_82 : decode cX7_growth 82 = .ok (.if_icmp .gt 7, 3) := by decide +kernel
theorem dX7_growth_85 : decode cX7_growth 85 = .ok (.iconst 1, 1) := by decide +kernel
theorem dX7_growth_86 : decode cX7_growth 86 = .ok (.goto 4, 3) := by decide +kernel
theorem dX7_growth_89 : decode cX7_growth 89 = .ok (.iconst 0, 1) := by decide +kernel
theorem dX7_growth_90 : decode cX7_growth 90 = .ok (.istore 7, 2) := by decide +kernel
theorem dX7_growth_92 : decode cX7_growth 92 = .ok (.iload 7, 2) := by decide +kernel
theorem dX7_growth_94 : decode cX7_growth 94 = .ok (.ifCond .eq 50, 3) := by decide +kernel
theorem dX7_growth_97 : decode cX7_growth 97 = .ok (.aload_n 0, 1) := by decide +kernel
theorem dX7_growth_98 : decode cX7_growth 98 = .ok (.iload_n 1, 1) := by decide +kernel
theorem dX7_growth_99 : decode cX7_growth 99 = .ok (.aload_n 0, 1) := by decide +kernel
theorem dX7_growth_100 : decode cX7_growth 100 = .ok (.iload_n 1, 1) := by decide +kernel
theorem dX7_growth_101 : decode cX7_growth 101 = .ok (.invokevirtual 91, 3) := by decide +kernel
theorem dX7_growth_104 : decode cX7_growth 104 = .ok (.iload 5, 2) := by decide +kernel
theorem dX7_growth_106 : decode cX7_growth 106 = .ok (.iadd, 1) := by decide +kernel
theorem dX7_growth_107 : decode cX7_growth 107 = .ok (.iload_n 2, 1) := by decide +kernel
theorem dX7_growth_108 : decode cX7_growth 108 = .ok (.aload_n 0, 1) := by decide +kernel
theorem dX7_growth_109 : decode cX7_growth 109 = .ok (.iload_n 2, 1) := by decide +kernel
theorem dX7_growth_110 : decode cX7_growth 110 = .ok (.invokevirtual 91, 3) := by decide +kernel
theorem dX7_growth_113 : decode cX7_growth 113 = .ok (.iload 6, 2) := by decide +kernel
theorem dX7_growth_115 : decode cX7_growth 115 = .ok (.iadd, 1) := by decide +kernel
theorem dX7_growth_116 : decode cX7_growth 116 = .ok (.invokevirtual 95, 3) := by decide +kernel
theorem dX7_growth_119 : decode cX7_growth 119 = .ok (.ifCond .eq 25, 3) := by decide +kernel
theorem dX7_growth_122 : decode cX7_growth 122 = .ok (.iload_n 3, 1) := by decide +kernel
theorem dX7_growth_123 : decode cX7_growth 123 = .ok (.ifCond .ne 8, 3) := by decide +kernel
theorem dX7_growth_126 : decode cX7_growth 126 = .ok (.iload 4, 2) := by decide +kernel
theorem dX7_growth_128 : decode cX7_growth 128 = .ok (.goto 15, 3) := by decide +kernel
theorem dX7_growth_131 : decode cX7_growth 131 = .ok (.iload_n 3, 1) := by decide +kernel
theorem dX7_growth_132 : decode cX7_growth 132 = .ok (.iconst 1, 1) := by decide +kernel
theorem dX7_growth_133 : decode cX7_growth 133 = .ok (.if_icmp .ne 8, 3) := by decide +kernel
theorem dX7_growth_136 : decode cX7_growth 136 = .ok (.iload 5, 2) := by decide +kernel
theorem dX7_growth_138 : decode cX7_growth 138 = .ok (.goto 5, 3) := by decide +kernel
theorem dX7_growth_141 : decode cX7_growth 141 = .ok (.iload 6, 2) := by decide +kernel
theorem dX7_growth_143 : decode cX7_growth 143 = .ok (.ireturn, 1) := by decide +kernel
theorem dX7_growth_144 : decode cX7_growth 144 = .ok (.iinc 5 1, 3) := by decide +kernel
theorem dX7_growth_147 : decode cX7_growth 147 = .ok (.goto (-112), 3) := by decide +kernel
theorem dX7_growth_150 : decode cX7_growth 150 = .ok (.iinc 4 1, 3) := by decide +kernel
theorem dX7_growth_153 : decode cX7_growth 153 = .ok (.goto (-129), 3) := by decide +kernel
theorem dX7_growth_156 : decode cX7_growth 156 = .ok (.iconst (-1), 1) := by decide +kernel
theorem dX7_growth_157 : decode cX7_growth 157 = .ok (.ireturn, 1) := by decide +kernel
set_option maxRecDepth 20000 in
theorem ggX7_shadow_X7_isStation : GoodIn wsX7_shadow wsX7_isStation := goodIn_r _ [6, 1, 7, 8, 5, 9, 26, 27, 28, 29, 30, 31, 32, 33, 34, 35, 36, 37, 38, 39, 40] (by decide +kernel) (by decide +kernel)
set_option maxRecDepth 20000 in
theorem gX7_shadow_X7_isStation : GoodIn wsX7_shadow (wsV RX7 48 RX7 yX7_isStation wsX7_isStation) := goodIn_app (goodIn_of _ (by decide +kernel)) ggX7_shadow_X7_isStation
set_option maxRecDepth 20000 in
theorem ggX7_shadow_X7_in : GoodIn wsX7_shadow wsX7_in := goodIn_r _ [9] (by decide +kernel) (by decide +kernel)
set_option maxRecDepth 20000 in
theorem gX7_shadow_X7_in : GoodIn wsX7_shadow (va_wsS RX7 38 yX7_in wsX7_in) := goodIn_app (goodIn_of _ (by decide +kernel)) ggX7_shadow_X7_in
set_option maxRecDepth 20000 in
theorem ggX7_shadow_X7_top : GoodIn wsX7_shadow wsX7_top := goodIn_r _ [13, 1, 26, 27, 28, 29, 30, 31, 32, 33, 34, 35, 36, 37, 38, 39, 40] (by decide +kernel) (by decide +kernel)
set_option maxRecDepth 20000 in
theorem gX7_shadow_X7_top : GoodIn wsX7_shadow (wsV RX7 91 RX7 yX7_top wsX7_top) := goodIn_app (goodIn_of _ (by decide +kernel)) ggX7_shadow_X7_top
set_option maxRecDepth 20000 in
theorem ggX7_shadow_X7_grounds : GoodIn wsX7_shadow wsX7_grounds := goodIn_r _ [17, 1, 18, 19, 20, 5, 21, 22, 23, 24, 25, 26, 27, 28, 29, 30, 31, 32, 33, 34, 35, 36, 37, 38, 39, 40] (by decide +kernel) (by decide +kernel)
set_option maxRecDepth 20000 in
theorem gX7_shadow_X7_grounds : GoodIn wsX7_shadow (wsV RX7 112 RX7 yX7_grounds wsX7_grounds) := goodIn_app (goodIn_of _ (by decide +kernel)) ggX7_shadow_X7_grounds
theorem dX7_shadow_0 : decode cX7_shadow 0 = .ok (.aload_n 0, 1) := by decide +kernel
theorem dX7_shadow_1 : decode cX7_shadow 1 = .ok (.iload_n 1, 1) := by decide +kernel
theorem dX7_shadow_2 : decode cX7_shadow 2 = .ok (.invokevirtual 48, 3) := by decide +kernel
theorem dX7_shadow_5 : decode cX7_shadow 5 = .ok (.ifCond .eq 16, 3) := by decide +kernel
theorem dX7_shadow_8 : decode cX7_shadow 8 = .ok (.iload_n 2, 1) := by decide +kernel
theorem dX7_shadow_9 : decode cX7_shadow 9 = .ok (.ifCond .lt 12, 3) := by decide +kernel
theorem dX7_shadow_12 : decode cX7_shadow 12 = .ok (.iload_n 3, 1) := by decide +kernel
theorem dX7_shadow_13 : decode cX7_shadow 13 = .ok (.iconst 0, 1) := by decide +kernel
theorem dX7_shadow_14 : decode cX7_shadow 14 = .ok (.iconst 1, 1) := by decide +kernel
theorem dX7_shadow_15 : decode cX7_shadow 15 = .ok (.invokestatic 38, 3) := by decide +kernel
theorem dX7_shadow_18 : decode cX7_shadow 18 = .ok (.ifCond .ne 6, 3) := by decide +kernel
theorem dX7_shadow_21 : decode cX7_shadow 21 = .ok (.bipush (-2), 2) := by decide +kernel
theorem dX7_shadow_23 : decode cX7_shadow 23 = .ok (.ireturn, 1) := by decide +kernel
theorem dX7_shadow_24 : decode cX7_shadow 24 = .ok (.aload_n 0, 1) := by decide +kernel
theorem dX7_shadow_25 : decode cX7_shadow 25 = .ok (.iload_n 1, 1) := by decide +kernel
theorem dX7_shadow_26 : decode cX7_shadow 26 = .ok (.aload_n 0, 1) := by decide +kernel
theorem dX7_shadow_27 : decode cX7_shadow 27 = .ok (.iload_n 1, 1) := by decide +kernel
theorem dX7_shadow_28 : decode cX7_shadow 28 = .ok (.invokevirtual 91, 3) := by decide +kernel
theorem dX7_shadow_31 : decode cX7_shadow 31 = .ok (.invokevirtual 112, 3) := by decide +kernel
theorem dX7_shadow_34 : decode cX7_shadow 34 = .ok (.istore 4, 2) := by decide +kernel
theorem dX7_shadow_36 : decode cX7_shadow 36 = .ok (.iload_n 2, 1) := by decide +kernel
theorem dX7_shadow_37 : decode cX7_shadow 37 = .ok (.istore 5, 2) := by decide +kernel
theorem dX7_shadow_39 : decode cX7_shadow 39 = .ok (.iconst 0, 1) := by decide +kernel
theorem dX7_shadow_40 : decode cX7_shadow 40 = .ok (.istore 6, 2) := by decide +kernel
theorem dX7_shadow_42 : decode cX7_shadow 42 = .ok (.iload 6, 2) := by decide +kernel
theorem dX7_shadow_44 : decode cX7_shadow 44 = .ok (.aload_n 0, 1) := by decide +kernel
theorem dX7_shadow_45 : decode cX7_shadow 45 = .ok (.getfield 7, 3) := by decide +kernel
theorem dX7_shadow_48 : decode cX7_shadow 48 = .ok (.iconst 0, 1) := by decide +kernel
theorem dX7_shadow_49 : decode cX7_shadow 49 = .ok (.iaload, 1) := by decide +kernel
theorem dX7_shadow_50 : decode cX7_shadow 50 = .ok (.if_icmp .ge 128, 3) := by decide +kernel
theorem dX7_shadow_53 : decode cX7_shadow 53 = .ok (.iload 4, 2) := by decide +kernel
theorem dX7_shadow_55 : decode cX7_shadow 55 = .ok (.iload 6, 2) := by decide +kernel
theorem dX7_shadow_57 : decode cX7_shadow 57 = .ok (.ishr, 1) := by decide +kernel
theorem dX7_shadow_58 : decode cX7_shadow 58 = .ok (.iconst 1, 1) := by decide +kernel
theorem dX7_shadow_59 : decode cX7_shadow 59 = .ok (.iand, 1) := by decide +kernel
theorem dX7_shadow_60 : decode cX7_shadow 60 = .ok (.ifCond .ne 7, 3) := by decide +kernel
theorem dX7_shadow_63 : decode cX7_shadow 63 = .ok (.iconst 1, 1) := by decide +kernel
theorem dX7_shadow_64 : decode cX7_shadow 64 = .ok (.goto 4, 3) := by decide +kernel
theorem dX7_shadow_67 : decode cX7_shadow 67 = .ok (.iconst 0, 1) := by decide +kernel
theorem dX7_shadow_68 : decode cX7_shadow 68 = .ok (.istore 7, 2) := by decide +kernel
theorem dX7_shadow_70 : decode cX7_shadow 70 = .ok (.iload 7, 2) := by decide +kernel
theorem dX7_shadow_72 : decode cX7_shadow 72 = .ok (.ifCond .eq 25, 3) := by decide +kernel
theorem dX7_shadow_75 : decode cX7_shadow 75 = .ok (.iload 6, 2) := by decide +kernel
theorem dX7_shadow_77 : decode cX7_shadow 77 = .ok (.ifCond .eq 16, 3) := by decide +kernel
theorem dX7_shadow_80 : decode cX7_shadow 80 = .ok (.iload 4, 2) := by decide +kernel
theorem dX7_shadow_82 : decode cX7_shadow 82 = .ok (.iload 6, 2) := by decide +kernel
theorem dX7_shadow_84 : decode cX7_shadow 84 = .ok (.iconst 1, 1) := by decide +kernel
theorem dX7_shadow_85 : decode cX7_shadow 85 = .ok (.isub, 1) := by decide +kernel
theorem dX7_shadow_86 : decode cX7_shadow 86 = .ok (.ishr, 1) := by decide +kernel
theorem dX7_shadow_87 : decode cX7_shadow 87 = .ok (.iconst 1, 1) := by decide +kernel
theorem dX7_shadow_88 : decode cX7_shadow 88 = .ok (.iand, 1) := by decide +kernel
theorem dX7_shadow_89 : decode cX7_shadow 89 = .ok (.iconst 1, 1) := by decide +kernel
theorem dX7_shadow_90 : decode cX7_shadow 90 = .ok (.if_icmp .ne 7, 3) := by decide +kernel
theorem dX7_shadow_93 : decode cX7_shadow 93 = .ok (.iconst 1, 1) := by decide +kernel
theorem dX7_shadow_94 : decode cX7_shadow 94 = .ok (.goto 4, 3) := by decide +kernel
theorem dX7_shadow_97 : decode cX7_shadow 97 = .ok (.iconst 0, 1) := by decide +kernel
theorem dX7_shadow_98 : decode cX7_shadow 98 = .ok (.istore 8, 2) := by decide +kernel
theorem dX7_shadow_100 : decode cX7_shadow 100 = .ok (.iload 8, 2) := by decide +kernel
theorem dX7_shadow_102 : decode cX7_shadow 102 = .ok (.ifCond .eq 55, 3) := by decide +kernel
theorem dX7_shadow_105 : decode cX7_shadow 105 = .ok (.iload 5, 2) := by decide +kernel
theorem dX7_shadow_107 : decode cX7_shadow 107 = .ok (.ifCond .ne 50, 3) := by decide +kernel
theorem dX7_shadow_110 : decode cX7_shadow 110 = .ok (.iload 6, 2) := by decide +kernel
theorem dX7_shadow_112 : decode cX7_shadow 112 = .ok (.istore 9, 2) := by decide +kernel
theorem dX7_shadow_114 : decode cX7_shadow 114 = .ok (.iload 9, 2) := by decide +kernel
theorem dX7_shadow_116 : decode cX7_shadow 116 = .ok (.iconst 1, 1) := by decide +kernel
theorem dX7_shadow_117 : decode cX7_shadow 117 = .ok (.iadd, 1) := by decide +kernel
theorem dX7_shadow_118 : decode cX7_shadow 118 = .ok (.aload_n 0, 1) := by decide +kernel
theorem dX7_shadow_119 : decode cX7_shadow 119 = .ok (.getfield 7, 3) := by decide +kernel
theorem dX7_shadow_122 : decode cX7_shadow 122 = .ok (.iconst 0, 1) := by decide +kernel
theorem dX7_shadow_123 : decode cX7_shadow 123 = .ok (.iaload, 1) := by decide +kernel
theorem dX7_shadow_124 : decode cX7_shadow 124 = .ok (.if_icmp .ge 21, 3) := by decide +kernel
theorem dX7_shadow_127 : decode cX7_shadow 127 = .ok (.iload 4, 2) := by decide +kernel
theorem dX7_shadow_129 : decode cX7_shadow 129 = .ok (.iload 9, 2) := by decide +kernel
theorem dX7_shadow_131 : decode cX7_shadow 131 = .ok (.iconst 1, 1) := by decide +kernel
theorem dX7_shadow_132 : decode cX7_shadow 132 = .ok (.iadd, 1) := by decide +kernel
theorem dX7_shadow_133 : decode cX7_shadow 133 = .ok (.ishr, 1) := by decide +kernel
theorem dX7_shadow_134 : decode cX7_shadow 134 = .ok (.iconst 1, 1) := by decide +kernel
theorem dX7_shadow_135 : decode cX7_shadow 135 = .ok (.iand, 1) := by decide +kernel
theorem dX7_shadow_136 : decode cX7_shadow 136 = .ok (.ifCond .ne 9, 3) := by decide +kernel
theorem dX7_shadow_139 : decode cX7_shadow 139 = .ok (.iinc 9 1, 3) := by decide +kernel
theorem dX7_shadow_142 : decode cX7_shadow 142 = .ok (.goto (-28), 3) := by decide +kernel
theorem dX7_shadow_145 : decode cX7_shadow 145 = .ok (.iload_n 3, 1) := by decide +kernel
theorem dX7_shadow_146 : decode cX7_shadow 146 = .ok (.ifCond .ne 8, 3) := by decide +kernel
theorem dX7_shadow_149 : decode cX7_shadow 149 = .ok (.iload 6, 2) := by decide +kernel
theorem dX7_shadow_151 : decode cX7_shadow 151 = .ok (.goto 5, 3) := by decide +kernel
theorem dX7_shadow_154 : decode cX7_shadow 154 = .ok (.iload 9, 2) := by decide +kernel
theorem dX7_shadow_156 : decode cX7_shadow 156 = .ok (.ireturn, 1) := by decide +kernel
theorem dX7_shadow_157 : decode cX7_shadow 157 = .ok (.iload 5, 2) := by decide +kernel
theorem dX7_shadow_159 : decode cX7_shadow 159 = .ok (.iload 8, 2) := by decide +kernel
theorem dX7_shadow_161 : decode cX7_shadow 161 = .ok (.ifCond .eq 7, 3) := by decide +kernel
theorem dX7_shadow_164 : decode cX7_shadow 164 = .ok (.iconst 1, 1) := by decide +kernel
theorem dX7_shadow_165 : decode cX7_shadow 165 = .ok (.goto 4, 3) := by decide +kernel
theorem dX7_shadow_168 : decode cX7_shadow 168 = .ok (.iconst 0, 1) := by decide +kernel
theorem dX7_shadow_169 : decode cX7_shadow 169 = .ok (.isub, 1) := by decide +kernel
theorem dX7_shadow_170 : decode cX7_shadow 170 = .ok (.istore 5, 2) := by decide +kernel
theorem dX7_shadow_172 : decode cX7_shadow 172 = .ok (.iinc 6 1, 3) := by decide +kernel
theorem dX7_shadow_175 : decode cX7_shadow 175 = .ok (.goto (-133), 3) := by decide +kernel
theorem dX7_shadow_178 : decode cX7_shadow 178 = .ok (.iconst (-1), 1) := by decide +kernel
theorem dX7_shadow_179 : decode cX7_shadow 179 = .ok (.ireturn, 1) := by decide +kernel
set_option maxRecDepth 20000 in
theorem ggX7_farthest_X7_inContact : GoodIn wsX7_farthest wsX7_inContact := goodIn_r _ [6, 1, 7, 8, 5, 9, 10, 11, 12, 13, 14, 15, 16, 17, 18, 19, 20, 21, 22, 23, 24, 25, 26, 27, 28, 29, 30, 31, 32, 33, 34, 35, 36, 37, 38, 39, 40] (by decide +kernel) (by decide +kernel)
set_option maxRecDepth 20000 in
theorem gX7_farthest_X7_inContact : GoodIn wsX7_farthest (wsV RX7 106 RX7 yX7_inContact wsX7_inContact) := goodIn_app (goodIn_of _ (by decide +kernel)) ggX7_farthest_X7_inContact
theorem dX7_farthest_0 : decode cX7_farthest 0 = .ok (.iconst 1, 1) := by decide +kernel
theorem dX7_farthest_1 : decode cX7_farthest 1 = .ok (.istore_n 1, 1) := by decide +kernel
theorem dX7_farthest_2 : decode cX7_farthest 2 = .ok (.iconst 0, 1) := by decide +kernel
theorem dX7_farthest_3 : decode cX7_farthest 3 = .ok (.istore_n 2, 1) := by decide +kernel
theorem dX7_farthest_4 : decode cX7_farthest 4 = .ok (.iconst 0, 1) := by decide +kernel
theorem dX7_farthest_5 : decode cX7_farthest 5 = .ok (.istore_n 3, 1) := by decide +kernel
theorem dX7_farthest_6 : decode cX7_farthest 6 = .ok (.iload_n 3, 1) := by decide +kernel
theorem dX7_farthest_7 : decode cX7_farthest 7 = .ok (.aload_n 0, 1) := by decide +kernel
theorem dX7_farthest_8 : decode cX7_farthest 8 = .ok (.getfield 7, 3) := by decide +kernel
theorem dX7_farthest_11 : decode cX7_farthest 11 = .ok (.iconst 0, 1) := by decide +kernel
theorem dX7_farthest_12 : decode cX7_farthest 12 = .ok (.iaload, 1) := by decide +kernel
theorem dX7_farthest_13 : decode cX7_farthest 13 = .ok (.if_icmp .ge 87, 3) := by decide +kernel
theorem dX7_farthest_16 : decode cX7_farthest 16 = .ok (.iload_n 3, 1) := by decide +kernel
theorem dX7_farthest_17 : decode cX7_farthest 17 = .ok (.iconst 1, 1) := by decide +kernel
theorem dX7_farthest_18 : decode cX7_farthest 18 = .ok (.iadd, 1) := by decide +kernel
theorem dX7_farthest_19 : decode cX7_farthest 19 = .ok (.istore 4, 2) := by decide +kernel
theorem dX7_farthest_21 : decode cX7_farthest 21 = .ok (.iload 4, 2) := by decide +kernel
theorem dX7_farthest_23 : decode cX7_farthest 23 = .ok (.aload_n 0, 1) := by decide +kernel
theorem dX7_farthest_24 : decode cX7_farthest 24 = .ok (.getfield 7, 3) := by decide +kernel
theorem dX7_farthest_27 : decode cX7_farthest 27 = .ok (.iconst 0, 1) := by decide +kernel
theorem dX7_farthest_28 : decode cX7_farthest 28 = .ok (.iaload, 1) := by decide +kernel
theorem dX7_farthest_29 : decode cX7_farthest 29 = .ok (.if_icmp .ge 65, 3) := by decide +kernel
theorem dX7_farthest_32 : decode cX7_farthest 32 = .ok (.iload 4, 2) := by decide +kernel
theorem dX7_farthest_34 : decode cX7_farthest 34 = .ok (.iload_n 3, 1) := by decide +kernel
theorem dX7_farthest_35 : decode cX7_farthest 35 = .ok (.isub, 1) := by decide +kernel
theorem dX7_farthest_36 : decode cX7_farthest 36 = .ok (.iload_n 2, 1) := by decide +kernel
theorem dX7_farthest_37 : decode cX7_farthest 37 = .ok (.if_icmp .le 17, 3) := by decide +kernel
theorem dX7_farthest_40 : decode cX7_farthest 40 = .ok (.aload_n 0, 1) := by decide +kernel
theorem dX7_farthest_41 : decode cX7_farthest 41 = .ok (.iload_n 3, 1) := by decide +kernel
theorem dX7_farthest_42 : decode cX7_farthest 42 = .ok (.iload 4, 2) := by decide +kernel
theorem dX7_farthest_44 : decode cX7_farthest 44 = .ok (.invokevirtual 106, 3) := by decide +kernel
theorem dX7_farthest_47 : decode cX7_farthest 47 = .ok (.ifCond .eq 7, 3) := by decide +kernel
theorem dX7_farthest_50 : decode cX7_farthest 50 = .ok (.iconst 1, 1) := by decide +kernel
theorem dX7_farthest_51 : decode cX7_farthest 51 = .ok (.goto 4, 3) := by decide +kernel
theorem dX7_farthest_54 : decode cX7_farthest 54 = .ok (.iconst 0, 1) := by decide +kernel
theorem dX7_farthest_55 : decode cX7_farthest 55 = .ok (.istore 5, 2) := by decide +kernel
theorem dX7_farthest_57 : decode cX7_farthest 57 = .ok (.iload 5, 2) := by decide +kernel
theorem dX7_farthest_59 : decode cX7_farthest 59 = .ok (.ifCond .eq 13, 3) := by decide +kernel
theorem dX7_farthest_62 : decode cX7_farthest 62 = .ok (.bipush 100, 2) := by decide +kernel
theorem dX7_farthest_64 : decode cX7_farthest 64 = .ok (.iload_n 3, 1) := by decide +kernel
theorem dX7_farthest_65 : decode cX7_farthest 65 = .ok (.imul, 1) := by decide +kernel
theorem dX7_farthest_66 : decode cX7_farthest 66 = .ok (.iload 4, 2) := by decide +kernel
theorem dX7_farthest_68 : decode cX7_farthest 68 = .ok (.iadd, 1) := by decide +kernel
theorem dX7_farthest_69 : decode cX7_farthest 69 = .ok (.goto 4, 3) := by decide +kernel
theorem dX7_farthest_72 : decode cX7_farthest 72 = .ok (.iload_n 1, 1) := by decide +kernel
theorem dX7_farthest_73 : decode cX7_farthest 73 = .ok (.istore_n 1, 1) := by decide +kernel
theorem dX7_farthest_74 : decode cX7_farthest 74 = .ok (.iload 5, 2) := by decide +kernel
theorem dX7_farthest_76 : decode cX7_farthest 76 = .ok (.ifCond .eq 10, 3) := by decide +kernel
theorem dX7_farthest_79 : decode cX7_farthest 79 = .ok (.iload 4, 2) := by decide +kernel
theorem dX7_farthest_81 : decode cX7_farthest 81 = .ok (.iload_n 3, 1) := by decide +kernel
theorem dX7_farthest_82 : decode cX7_farthest 82 = .ok (.isub, 1) := by decide +kernel
theorem dX7_farthest_83 : decode cX7_farthest 83 = .ok (.goto 4, 3) := by decide +kernel
theorem dX7_farthest_86 : decode cX7_farthest 86 = .ok (.iload_n 2, 1) := by decide +kernel
theorem dX7_farthest_87 : decode cX7_farthest 87 = .ok (.istore_n 2, 1) := by decide +kernel
theorem dX7_farthest_88 : decode cX7_farthest 88 = .ok (.iinc 4 1, 3) := by decide +kernel
theorem dX7_farthest_91 : decode cX7_farthest 91 = .ok (.goto (-70), 3) := by decide +kernel
theorem dX7_farthest_94 : decode cX7_farthest 94 = .ok (.iinc 3 1, 3) := by decide +kernel
theorem dX7_farthest_97 : decode cX7_farthest 97 = .ok (.goto (-91), 3) := by decide +kernel
theorem dX7_farthest_100 : decode cX7_farthest 100 = .ok (.iload_n 1, 1) := by decide +kernel
theorem dX7_farthest_101 : decode cX7_farthest 101 = .ok (.ireturn, 1) := by decide +kernel
set_option maxRecDepth 20000 in
theorem ggX7_ways_X7_inContact : GoodIn wsX7_ways wsX7_inContact := goodIn_r _ [7, 2, 8, 9, 6, 10, 11, 12, 13, 14, 15, 16, 17, 18, 19, 20, 21, 22, 23, 24, 25, 26, 27, 28, 29, 30, 31, 32, 33, 34, 35, 36, 37, 38, 39, 40, 41] (by decide +kernel) (by decide +kernel)
set_option maxRecDepth 20000 in
theorem gX7_ways_X7_inContact : GoodIn wsX7_ways (wsV RX7 106 RX7 yX7_inContact wsX7_inContact) := goodIn_app (goodIn_of _ (by decide +kernel)) ggX7_ways_X7_inContact
theorem dX7_ways_0 : decode cX7_ways 0 = .ok (.iconst 0, 1) := by decide +kernel
theorem dX7_ways_1 : decode cX7_ways 1 = .ok (.istore_n 2, 1) := by decide +kernel
theorem dX7_ways_2 : decode cX7_ways 2 = .ok (.iload_n 2, 1) := by decide +kernel
theorem dX7_ways_3 : decode cX7_ways 3 = .ok (.bipush 20, 2) := by decide +kernel
theorem dX7_ways_5 : decode cX7_ways 5 = .ok (.if_icmp .ge 25, 3) := by decide +kernel
theorem dX7_ways_8 : decode cX7_ways 8 = .ok (.aload_n 0, 1) := by decide +kernel
theorem dX7_ways_9 : decode cX7_ways 9 = .ok (.getfield 32, 3) := by decide +kernel
theorem dX7_ways_12 : decode cX7_ways 12 = .ok (.iload_n 2, 1) := by decide +kernel
theorem dX7_ways_13 : decode cX7_ways 13 = .ok (.iload_n 2, 1) := by decide +kernel
theorem dX7_ways_14 : decode cX7_ways 14 = .ok (.iload_n 1, 1) := by decide +kernel
theorem dX7_ways_15 : decode cX7_ways 15 = .ok (.if_icmp .ne 7, 3) := by decide +kernel
theorem dX7_ways_18 : decode cX7_ways 18 = .ok (.iconst 1, 1) := by decide +kernel
theorem dX7_ways_19 : decode cX7_ways 19 = .ok (.goto 4, 3) := by decide +kernel
theorem dX7_ways_22 : decode cX7_ways 22 = .ok (.iconst 0, 1) := by decide +kernel
theorem dX7_ways_23 : decode cX7_ways 23 = .ok (.iastore, 1) := by decide +kernel
theorem dX7_ways_24 : decode cX7_ways 24 = .ok (.iinc 2 1, 3) := by decide +kernel
theorem dX7_ways_27 : decode cX7_ways 27 = .ok (.goto (-25), 3) := by decide +kernel
theorem dX7_ways_30 : decode cX7_ways 30 = .ok (.iconst 2, 1) := by decide +kernel
theorem dX7_ways_31 : decode cX7_ways 31 = .ok (.istore_n 2, 1) := by decide +kernel
theorem dX7_ways_32 : decode cX7_ways 32 = .ok (.iload_n 2, 1) := by decide +kernel
theorem dX7_ways_33 : decode cX7_ways 33 = .ok (.aload_n 0, 1) := by decide +kernel
theorem dX7_ways_34 : decode cX7_ways 34 = .ok (.getfield 7, 3) := by decide +kernel
theorem dX7_ways_37 : decode cX7_ways 37 = .ok (.iconst 0, 1) := by decide +kernel
theorem dX7_ways_38 : decode cX7_ways 38 = .ok (.iaload, 1) := by decide +kernel
theorem dX7_ways_39 : decode cX7_ways 39 = .ok (.if_icmp .gt 121, 3) := by decide +kernel
theorem dX7_ways_42 : decode cX7_ways 42 = .ok (.iconst 0, 1) := by decide +kernel
theorem dX7_ways_43 : decode cX7_ways 43 = .ok (.istore_n 3, 1) := by decide +kernel
theorem dX7_ways_44 : decode cX7_ways 44 = .ok (.iload_n 3, 1) := by decide +kernel
theorem dX7_ways_45 : decode cX7_ways 45 = .ok (.aload_n 0, 1) := by decide +kernel
theorem dX7_ways_46 : decode cX7_ways 46 = .ok (.getfield 7, 3) := by decide +kernel
theorem dX7_ways_49 : decode cX7_ways 49 = .ok (.iconst 0, 1) := by decide +kernel
theorem dX7_ways_50 : decode cX7_ways 50 = .ok (.iaload, 1) := by decide +kernel
theorem dX7_ways_51 : decode cX7_ways 51 = .ok (.if_icmp .ge 103, 3) := by decide +kernel
theorem dX7_ways_54 : decode cX7_ways 54 = .ok (.iconst 0, 1) := by decide +kernel
theorem dX7_ways_55 : decode cX7_ways 55 = .ok (.istore 4, 2) := by decide +kernel
theorem dX7_ways_57 : decode cX7_ways 57 = .ok (.iload 4, 2) := by decide +kernel
theorem dX7_ways_59 : decode cX7_ways 59 = .ok (.aload_n 0, 1) := by decide +kernel
theorem dX7_ways_60 : decode cX7_ways 60 = .ok (.getfield 7, 3) := by decide +kernel
theorem dX7_ways_63 : decode cX7_ways 63 = .ok (.iconst 0, 1) := by decide +kernel
theorem dX7_ways_64 : decode cX7_ways 64 = .ok (.iaload, 1) := by decide +kernel
theorem dX7_ways_65 : decode cX7_ways 65 = .ok (.if_icmp .ge 83, 3) := by decide +kernel
theorem dX7_ways_68 : decode cX7_ways 68 = .ok (.aload_n 0, 1) := by decide +kernel
theorem dX7_ways_69 : decode cX7_ways 69 = .ok (.getfield 32, 3) := by decide +kernel
theorem dX7_ways_72 : decode cX7_ways 72 = .ok (.iload_n 3, 1) := by decide +kernel
theorem dX7_ways_73 : decode cX7_ways 73 = .ok (.iaload, 1) := by decide +kernel
theorem dX7_ways_74 : decode cX7_ways 74 = .ok (.ifCond .ne 74, 3) := by decide +kernel
theorem dX7_ways_77 : decode cX7_ways 77 = .ok (.aload_n 0, 1) := by decide +kernel
theorem dX7_ways_78 : decode cX7_ways 78 = .ok (.getfield 32, 3) := by decide +kernel
theorem dX7_ways_81 : decode cX7_ways 81 = .ok (.iload 4, 2) := by decide +kernel
theorem dX7_ways_83 : decode cX7_ways 83 = .ok (.iaload, 1) := by decide +kernel
theorem dX7_ways_84 : decode cX7_ways 84 = .ok (.iload_n 2, 1) := by decide +kernel
theorem dX7_ways_85 : decode cX7_ways 85 = .ok (.iconst 1, 1) := by decide +kernel
theorem dX7_ways_86 : decode cX7_ways 86 = .ok (.isub, 1) := by decide +kernel
theorem dX7_ways_87 : decode cX7_ways 87 = .ok (.if_icmp .ne 36, 3) := by decide +kernel
theorem dX7_ways_90 : decode cX7_ways 90 = .ok (.iload 4, 2) := by decide +kernel
theorem dX7_ways_92 : decode cX7_ways 92 = .ok (.iload_n 1, 1) := by decide +kernel
theorem dX7_ways_93 : decode cX7_ways 93 = .ok (.if_icmp .eq 16, 3) := by decide +kernel
theorem dX7_ways_96 : decode cX7_ways 96 = .ok (.aload_n 0, 1) := by decide +kernel
theorem dX7_ways_97 : decode cX7_ways 97 = .ok (.getfield 7, 3) := by decide +kernel
theorem dX7_ways_100 : decode cX7_ways 100 = .ok (.bipush 23, 2) := by decide +kernel
theorem dX7_ways_102 : decode cX7_ways 102 = .ok (.iload 4, 2) := by decide +kernel
theorem dX7_ways_104 : decode cX7_ways 104 = .ok (.iadd, 1) := by decide +kernel
theorem dX7_ways_105 : decode cX7_ways 105 = .ok (.iaload, 1) := by decide +kernel
theorem dX7_ways_106 : decode cX7_ways 106 = .ok (.ifCond .le 17, 3) := by decide +kernel
theorem dX7_ways_109 : decode cX7_ways 109 = .ok (.aload_n 0, 1) := by decide +kernel
theorem dX7_ways_110 : decode cX7_ways 110 = .ok (.iload_n 3, 1) := by decide +kernel
theorem dX7_ways_111 : decode cX7_ways 111 = .ok (.iload 4, 2) := by decide +kernel
theorem dX7_ways_113 : decode cX7_ways 113 = .ok (.invokevirtual 106, 3) := by decide +kernel
theorem dX7_ways_116 : decode cX7_ways 116 = .ok (.ifCond .eq 7, 3) := by decide +kernel
theorem dX7_ways_119 : decode cX7_ways 119 = .ok (.iconst 1, 1) := by decide +kernel
theorem dX7_ways_120 : decode cX7_ways 120 = .ok (.goto 4, 3) := by decide +kernel
theorem dX7_ways_123 : decode cX7_ways 123 = .ok (.iconst 0, 1) := by decide +kernel
theorem dX7_ways_124 : decode cX7_ways 124 = .ok (.istore 5, 2) := by decide +kernel
theorem dX7_ways_126 : decode cX7_ways 126 = .ok (.aload_n 0, 1) := by decide +kernel
theorem dX7_ways_127 : decode cX7_ways 127 = .ok (.getfield 32, 3) := by decide +kernel
theorem dX7_ways_130 : decode cX7_ways 130 = .ok (.iload_n 3, 1) := by decide +kernel
theorem dX7_ways_131 : decode cX7_ways 131 = .ok (.iload 5, 2) := by decide +kernel
theorem dX7_ways_133 : decode cX7_ways 133 = .ok (.ifCond .eq 7, 3) := by decide +kernel
theorem dX7_ways_136 : decode cX7_ways 136 = .ok (.iload_n 2, 1) := by decide +kernel
theorem dX7_ways_137 : decode cX7_ways 137 = .ok (.goto 4, 3) := by decide +kernel
theorem dX7_ways_140 : decode cX7_ways 140 = .ok (.iconst 0, 1) := by decide +kernel
theorem dX7_ways_141 : decode cX7_ways 141 = .ok (.iastore, 1) := by decide +kernel
theorem dX7_ways_142 : decode cX7_ways 142 = .ok (.iinc 4 1, 3) := by decide +kernel
theorem dX7_ways_145 : decode cX7_ways 145 = .ok (.goto (-88), 3) := by decide +kernel
theorem dX7_ways_148 : decode cX7_ways 148 = .ok (.iinc 3 1, 3) := by decide +kernel
theorem dX7_ways_151 : decode cX7_ways 151 = .ok (.goto (-107), 3) := by decide +kernel
theorem dX7_ways_154 : decode cX7_ways 154 = .ok (.iinc 2 1, 3) := by decide +kernel
theorem dX7_ways_157 : decode cX7_ways 157 = .ok (.goto (-125), 3) := by decide +kernel
theorem dX7_ways_160 : decode cX7_ways 160 = .ok (.return_, 1) := by decide +kernel
set_option maxRecDepth 20000 in
theorem ggX7_chain_X7_isStation : GoodIn wsX7_chain wsX7_isStation := goodIn_r _ [9, 4, 10, 11, 8, 12, 40, 41, 42, 43, 44, 45, 46, 47, 48, 49, 50, 51, 52, 53, 54] (by decide +kernel) (by decide +kernel)
set_option maxRecDepth 20000 in
theorem gX7_chain_X7_isStation : GoodIn wsX7_chain (wsV RX7 48 RX7 yX7_isStation wsX7_isStation) := goodIn_app (goodIn_of _ (by decide +kernel)) ggX7_chain_X7_isStation
set_option maxRecDepth 20000 in
theorem ggX7_chain_X7_ways : GoodIn wsX7_chain wsX7_ways := goodIn_r _ [16, 1, 4, 17, 18, 19, 8, 20, 21, 22, 23, 24, 25, 26, 27, 28, 29, 30, 31, 32, 33, 34, 35, 36, 37, 38, 39, 40, 41, 42, 43, 44, 45, 46, 47, 48, 49, 50, 51, 52, 53, 54] (by decide +kernel) (by decide +kernel)
set_option maxRecDepth 20000 in
theorem gX7_chain_X7_ways : GoodIn wsX7_chain (wsV RX7 121 RX7 yX7_ways wsX7_ways) := goodIn_app (goodIn_of _ (by decide +kernel)) ggX7_chain_X7_ways
set_option maxRecDepth 20000 in
theorem ggX7_chain_X7_inContact : GoodIn wsX7_chain wsX7_inContact := goodIn_r _ [20, 4, 21, 22, 8, 23, 24, 25, 26, 27, 28, 29, 30, 31, 32, 33, 34, 35, 36, 37, 38, 39, 40, 41, 42, 43, 44, 45, 46, 47, 48, 49, 50, 51, 52, 53, 54] (by decide +kernel) (by decide +kernel)
set_option maxRecDepth 20000 in
theorem gX7_chain_X7_inContact : GoodIn wsX7_chain (wsV RX7 106 RX7 yX7_inContact wsX7_inContact) := goodIn_app (goodIn_of _ (by decide +kernel)) ggX7_chain_X7_inContact
theorem dX7_chain_0 : decode cX7_chain 0 = .ok (.aload_n 0, 1) := by decide +kernel
theorem dX7_chain_1 : decode cX7_chain 1 = .ok (.iload_n 1, 1) := by decide +kernel
theorem dX7_chain_2 : decode cX7_chain 2 = .ok (.invokevirtual 48, 3) := by decide +kernel
theorem dX7_chain_5 : decode cX7_chain 5 = .ok (.ifCond .eq 11, 3) := by decide +kernel
theorem dX7_chain_8 : decode cX7_chain 8 = .ok (.aload_n 0, 1) := by decide +kernel
theorem dX7_chain_9 : decode cX7_chain 9 = .ok (.iload_n 2, 1) := by decide +kernel
theorem dX7_chain_10 : decode cX7_chain 10 = .ok (.invokevirtual 48, 3) := by decide +kernel
theorem dX7_chain_13 : decode cX7_chain 13 = .ok (.ifCond .ne 6, 3) := by decide +kernel
theorem dX7_chain_16 : decode cX7_chain 16 = .ok (.bipush (-2), 2) := by decide +kernel
theorem dX7_chain_18 : decode cX7_chain 18 = .ok (.ireturn, 1) := by decide +kernel
theorem dX7_chain_19 : decode cX7_chain 19 = .ok (.aload_n 0, 1) := by decide +kernel
theorem dX7_chain_20 : decode cX7_chain 20 = .ok (.iload_n 2, 1) := by decide +kernel
theorem dX7_chain_21 : decode cX7_chain 21 = .ok (.invokevirtual 121, 3) := by decide +kernel
theorem dX7_chain_24 : decode cX7_chain 24 = .ok (.aload_n 0, 1) := by decide +kernel
theorem dX7_chain_25 : decode cX7_chain 25 = .ok (.getfield 32, 3) := by decide +kernel
theorem dX7_chain_28 : decode cX7_chain 28 = .ok (.iload_n 1, 1) := by decide +kernel
theorem dX7_chain_29 : decode cX7_chain 29 = .ok (.iaload, 1) := by decide +kernel
theorem dX7_chain_30 : decode cX7_chain 30 = .ok (.ifCond .ne 5, 3) := by decide +kernel
theorem dX7_chain_33 : decode cX7_chain 33 = .ok (.iconst (-1), 1) := by decide +kernel
theorem dX7_chain_34 : decode cX7_chain 34 = .ok (.ireturn, 1) := by decide +kernel
theorem dX7_chain_35 : decode cX7_chain 35 = .ok (.aload_n 0, 1) := by decide +kernel
theorem dX7_chain_36 : decode cX7_chain 36 = .ok (.aload_n 0, 1) := by decide +kernel
theorem dX7_chain_37 : decode cX7_chain 37 = .ok (.getfield 32, 3) := by decide +kernel
theorem dX7_chain_40 : decode cX7_chain 40 = .ok (.iload_n 1, 1) := by decide +kernel
theorem dX7_chain_41 : decode cX7_chain 41 = .ok (.iaload, 1) := by decide +kernel
theorem dX7_chain_42 : decode cX7_chain 42 = .ok (.putfield 19, 3) := by decide +kernel
theorem dX7_chain_45 : decode cX7_chain 45 = .ok (.iload_n 1, 1) := by decide +kernel
theorem dX7_chain_46 : decode cX7_chain 46 = .ok (.istore_n 3, 1) := by decide +kernel
theorem dX7_chain_47 : decode cX7_chain 47 = .ok (.aload_n 0, 1) := by decide +kernel
theorem dX7_chain_48 : decode cX7_chain 48 = .ok (.getfield 16, 3) := by decide +kernel
theorem dX7_chain_51 : decode cX7_chain 51 = .ok (.iconst 0, 1) := by decide +kernel
theorem dX7_chain_52 : decode cX7_chain 52 = .ok (.iload_n 3, 1) := by decide +kernel
theorem dX7_chain_53 : decode cX7_chain 53 = .ok (.iastore, 1) := by decide +kernel
theorem dX7_chain_54 : decode cX7_chain 54 = .ok (.iconst 1, 1) := by decide +kernel
theorem dX7_chain_55 : decode cX7_chain 55 = .ok (.istore 4, 2) := by decide +kernel
theorem dX7_chain_57 : decode cX7_chain 57 = .ok (.iload 4, 2) := by decide +kernel
theorem dX7_chain_59 : decode cX7_chain 59 = .ok (.aload_n 0, 1) := by decide +kernel
theorem dX7_chain_60 : decode cX7_chain 60 = .ok (.getfield 19, 3) := by decide +kernel
theorem dX7_chain_63 : decode cX7_chain 63 = .ok (.if_icmp .ge 111, 3) := by decide +kernel
theorem dX7_chain_66 : decode cX7_chain 66 = .ok (.iconst (-1), 1) := by decide +kernel
theorem dX7_chain_67 : decode cX7_chain 67 = .ok (.istore 5, 2) := by decide +kernel
theorem dX7_chain_69 : decode cX7_chain 69 = .ok (.aload_n 0, 1) := by decide +kernel
theorem dX7_chain_70 : decode cX7_chain 70 = .ok (.getfield 7, 3) := by decide +kernel
theorem dX7_chain_73 : decode cX7_chain 73 = .ok (.iconst 0, 1) := by decide +kernel
theorem dX7_chain_74 : decode cX7_chain 74 = .ok (.iaload, 1) := by decide +kernel
theorem dX7_chain_75 : decode cX7_chain 75 = .ok (.iconst 1, 1) := by decide +kernel
theorem dX7_chain_76 : decode cX7_chain 76 = .ok (.isub, 1) := by decide +kernel
theorem dX7_chain_77 : decode cX7_chain 77 = .ok (.istore 6, 2) := by decide +kernel
theorem dX7_chain_79 : decode cX7_chain 79 = .ok (.iload 6, 2) := by decide +kernel
theorem dX7_chain_81 : decode cX7_chain 81 = .ok (.ifCond .lt 76, 3) := by decide +kernel
theorem dX7_chain_84 : decode cX7_chain 84 = .ok (.aload_n 0, 1) := by decide +kernel
theorem dX7_chain_85 : decode cX7_chain 85 = .ok (.getfield 32, 3) := by decide +kernel
theorem dX7_chain_88 : decode cX7_chain 88 = .ok (.iload 6, 2) := by decide +kernel
theorem dX7_chain_90 : decode cX7_chain 90 = .ok (.iaload, 1) := by decide +kernel
theorem dX7_chain_91 : decode cX7_chain 91 = .ok (.aload_n 0, 1) := by decide +kernel
theorem dX7_chain_92 : decode cX7_chain 92 = .ok (.getfield 19, 3) := by decide +kernel
theorem dX7_chain_95 : decode cX7_chain 95 = .ok (.iload 4, 2) := by decide +kernel
theorem dX7_chain_97 : decode cX7_chain 97 = .ok (.isub, 1) := by decide +kernel
theorem dX7_chain_98 : decode cX7_chain 98 = .ok (.if_icmp .ne 36, 3) := by decide +kernel
theorem dX7_chain_101 : decode cX7_chain 101 = .ok (.iload 6, 2) := by decide +kernel
theorem dX7_chain_103 : decode cX7_chain 103 = .ok (.iload_n 2, 1) := by decide +kernel
theorem dX7_chain_104 : decode cX7_chain 104 = .ok (.if_icmp .eq 16, 3) := by decide +kernel
theorem dX7_chain_107 : decode cX7_chain 107 = .ok (.aload_n 0, 1) := by decide +kernel
theorem dX7_chain_108 : decode cX7_chain 108 = .ok (.getfield 7, 3) := by decide +kernel
theorem dX7_chain_111 : decode cX7_chain 111 = .ok (.bipush 23, 2) := by decide +kernel
theorem dX7_chain_113 : decode cX7_chain 113 = .ok (.iload 6, 2) := by decide +kernel
theorem dX7_chain_115 : decode cX7_chain 115 = .ok (.iadd, 1) := by decide +kernel
theorem dX7_chain_116 : decode cX7_chain 116 = .ok (.iaload, 1) := by decide +kernel
theorem dX7_chain_117 : decode cX7_chain 117 = .ok (.ifCond .le 17, 3) := by decide +kernel
theorem dX7_chain_120 : decode cX7_chain 120 = .ok (.aload_n 0, 1) := by decide +kernel
theorem dX7_chain_121 : decode cX7_chain 121 = .ok (.iload_n 3, 1) := by decide +kernel
theorem dX7_chain_122 : decode cX7_chain 122 = .ok (.iload 6, 2) := by decide +kernel
theorem dX7_chain_124 : decode cX7_chain 124 = .ok (.invokevirtual 106, 3) := by decide +kernel
theorem dX7_chain_127 : decode cX7_chain 127 = .ok (.ifCond .eq 7, 3) := by decide +kernel
theorem dX7_chain_130 : decode cX7_chain 130 = .ok (.iconst 1, 1) := by decide +kernel
theorem dX7_chain_131 : decode cX7_chain 131 = .ok (.goto 4, 3) := by decide +kernel
theorem dX7_chain_134 : decode cX7_chain 134 = .ok (.iconst 0, 1) := by decide +kernel
theorem dX7_chain_135 : decode cX7_chain 135 = .ok (.istore 7, 2) := by decide +kernel
theorem dX7_chain_137 : decode cX7_chain 137 = .ok (.iload 7, 2) := by decide +kernel
theorem dX7_chain_139 : decode cX7_chain 139 = .ok (.ifCond .eq 8, 3) := by decide +kernel
theorem dX7_chain_142 : decode cX7_chain 142 = .ok (.iload 6, 2) := by decide +kernel
theorem dX7_chain_144 : decode cX7_chain 144 = .ok (.goto 5, 3) := by decide +kernel
theorem dX7_chain_147 : decode cX7_chain 147 = .ok (.iload 5, 2) := by decide +kernel
theorem dX7_chain_149 : decode cX7_chain 149 = .ok (.istore 5, 2) := by decide +kernel
theorem dX7_chain_151 : decode cX7_chain 151 = .ok (.iinc 6 (-1), 3) := by decide +kernel
theorem dX7_chain_154 : decode cX7_chain 154 = .ok (.goto (-75), 3) := by decide +kernel
theorem dX7_chain_157 : decode cX7_chain 157 = .ok (.iload 5, 2) := by decide +kernel
theorem dX7_chain_159 : decode cX7_chain 159 = .ok (.istore_n 3, 1) := by decide +kernel
theorem dX7_chain_160 : decode cX7_chain 160 = .ok (.aload_n 0, 1) := by decide +kernel
theorem dX7_chain_161 : decode cX7_chain 161 = .ok (.getfield 16, 3) := by decide +kernel
theorem dX7_chain_164 : decode cX7_chain 164 = .ok (.iload 4, 2) := by decide +kernel
theorem dX7_chain_166 : decode cX7_chain 166 = .ok (.iload_n 3, 1) := by decide +kernel
theorem dX7_chain_167 : decode cX7_chain 167 = .ok (.iastore, 1) := by decide +kernel
theorem dX7_chain_168 : decode cX7_chain 168 = .ok (.iinc 4 1, 3) := by decide +kernel
theorem dX7_chain_171 : decode cX7_chain 171 = .ok (.goto (-114), 3) := by decide +kernel
theorem dX7_chain_174 : decode cX7_chain 174 = .ok (.aload_n 0, 1) := by decide +kernel
theorem dX7_chain_175 : decode cX7_chain 175 = .ok (.getfield 19, 3) := by decide +kernel
theorem dX7_chain_178 : decode cX7_chain 178 = .ok (.ireturn, 1) := by decide +kernel
theorem dX7_price_0 : decode cX7_price 0 = .ok (.aload_n 0, 1) := by decide +kernel
theorem dX7_price_1 : decode cX7_price 1 = .ok (.getfield 7, 3) := by decide +kernel
theorem dX7_price_4 : decode cX7_price 4 = .ok (.bipush 23, 2) := by decide +kernel
theorem dX7_price_6 : decode cX7_price 6 = .ok (.iload_n 1, 1) := by decide +kernel
theorem dX7_price_7 : decode cX7_price 7 = .ok (.iadd, 1) := by decide +kernel
theorem dX7_price_8 : decode cX7_price 8 = .ok (.iaload, 1) := by decide +kernel
theorem dX7_price_9 : decode cX7_price 9 = .ok (.ifCond .le 7, 3) := by decide +kernel
theorem dX7_price_12 : decode cX7_price 12 = .ok (.iconst 1, 1) := by decide +kernel
theorem dX7_price_13 : decode cX7_price 13 = .ok (.goto 5, 3) := by decide +kernel
theorem dX7_price_16 : decode cX7_price 16 = .ok (.bipush 101, 2) := by decide +kernel
theorem dX7_price_18 : decode cX7_price 18 = .ok (.ireturn, 1) := by decide +kernel
set_option maxRecDepth 20000 in
theorem ggX7_wouldMeet_X7_top : GoodIn wsX7_wouldMeet wsX7_top := goodIn_r _ [6, 1, 18, 19, 20, 21, 22, 23, 24, 25, 26, 27, 28, 29, 30, 31, 32] (by decide +kernel) (by decide +kernel)
set_option maxRecDepth 20000 in
theorem gX7_wouldMeet_X7_top : GoodIn wsX7_wouldMeet (wsV RX7 91 RX7 yX7_top wsX7_top) := goodIn_app (goodIn_of _ (by decide +kernel)) ggX7_wouldMeet_X7_top
set_option maxRecDepth 20000 in
theorem ggX7_wouldMeet_X7_apart : GoodIn wsX7_wouldMeet wsX7_apart := goodIn_r _ [9] (by decide +kernel) (by decide +kernel)
set_option maxRecDepth 20000 in
theorem gX7_wouldMeet_X7_apart : GoodIn wsX7_wouldMeet (va_wsS RX7 99 yX7_apart wsX7_apart) := goodIn_app (goodIn_of _ (by decide +kernel)) ggX7_wouldMeet_X7_apart
set_option maxRecDepth 20000 in
theorem ggX7_wouldMeet_X7_meet : GoodIn wsX7_wouldMeet wsX7_meet := goodIn_r _ [13, 14, 15, 16, 5, 17, 1, 18, 19, 20, 21, 22, 23, 24, 25, 26, 27, 28, 29, 30, 31, 32] (by decide +kernel) (by decide +kernel)
set_option maxRecDepth 20000 in
theorem gX7_wouldMeet_X7_meet : GoodIn wsX7_wouldMeet (wsV RX7 95 RX7 yX7_meet wsX7_meet) := goodIn_app (goodIn_of _ (by decide +kernel)) ggX7_wouldMeet_X7_meet
theorem dX7_wouldMeet_0 : decode cX7_wouldMeet 0 = .ok (.aload_n 0, 1) := by decide +kernel
theorem dX7_wouldMeet_1 : decode cX7_wouldMeet 1 = .ok (.getfield 7, 3) := by decide +kernel
theorem dX7_wouldMeet_4 : decode cX7_wouldMeet 4 = .ok (.bipush 23, 2) := by decide +kernel
theorem dX7_wouldMeet_6 : decode cX7_wouldMeet 6 = .ok (.iload_n 1, 1) := by decide +kernel
theorem dX7_wouldMeet_7 : decode cX7_wouldMeet 7 = .ok (.iadd, 1) := by decide +kernel
theorem dX7_wouldMeet_8 : decode cX7_wouldMeet 8 = .ok (.iaload, 1) := by decide +kernel
theorem dX7_wouldMeet_9 : decode cX7_wouldMeet 9 = .ok (.ifCond .le 11, 3) := by decide +kernel
theorem dX7_wouldMeet_12 : decode cX7_wouldMeet 12 = .ok (.aload_n 0, 1) := by decide +kernel
theorem dX7_wouldMeet_13 : decode cX7_wouldMeet 13 = .ok (.iload_n 1, 1) := by decide +kernel
theorem dX7_wouldMeet_14 : decode cX7_wouldMeet 14 = .ok (.invokevirtual 91, 3) := by decide +kernel
theorem dX7_wouldMeet_17 : decode cX7_wouldMeet 17 = .ok (.goto 10, 3) := by decide +kernel
theorem dX7_wouldMeet_20 : decode cX7_wouldMeet 20 = .ok (.aload_n 0, 1) := by decide +kernel
theorem dX7_wouldMeet_21 : decode cX7_wouldMeet 21 = .ok (.iload_n 1, 1) := by decide +kernel
theorem dX7_wouldMeet_22 : decode cX7_wouldMeet 22 = .ok (.invokevirtual 91, 3) := by decide +kernel
theorem dX7_wouldMeet_25 : decode cX7_wouldMeet 25 = .ok (.iload_n 3, 1) := by decide +kernel
theorem dX7_wouldMeet_26 : decode cX7_wouldMeet 26 = .ok (.iadd, 1) := by decide +kernel
theorem dX7_wouldMeet_27 : decode cX7_wouldMeet 27 = .ok (.istore 4, 2) := by decide +kernel
theorem dX7_wouldMeet_29 : decode cX7_wouldMeet 29 = .ok (.aload_n 0, 1) := by decide +kernel
theorem dX7_wouldMeet_30 : decode cX7_wouldMeet 30 = .ok (.getfield 7, 3) := by decide +kernel
theorem dX7_wouldMeet_33 : decode cX7_wouldMeet 33 = .ok (.bipush 23, 2) := by decide +kernel
theorem dX7_wouldMeet_35 : decode cX7_wouldMeet 35 = .ok (.iload_n 2, 1) := by decide +kernel
theorem dX7_wouldMeet_36 : decode cX7_wouldMeet 36 = .ok (.iadd, 1) := by decide +kernel
theorem dX7_wouldMeet_37 : decode cX7_wouldMeet 37 = .ok (.iaload, 1) := by decide +kernel
theorem dX7_wouldMeet_38 : decode cX7_wouldMeet 38 = .ok (.ifCond .le 11, 3) := by decide +kernel
theorem dX7_wouldMeet_41 : decode cX7_wouldMeet 41 = .ok (.aload_n 0, 1) := by decide +kernel
theorem dX7_wouldMeet_42 : decode cX7_wouldMeet 42 = .ok (.iload_n 2, 1) := by decide +kernel
theorem dX7_wouldMeet_43 : decode cX7_wouldMeet 43 = .ok (.invokevirtual 91, 3) := by decide +kernel
theorem dX7_wouldMeet_46 : decode cX7_wouldMeet 46 = .ok (.goto 10, 3) := by decide +kernel
theorem dX7_wouldMeet_49 : decode cX7_wouldMeet 49 = .ok (.aload_n 0, 1) := by decide +kernel
theorem dX7_wouldMeet_50 : decode cX7_wouldMeet 50 = .ok (.iload_n 2, 1) := by decide +kernel
theorem dX7_wouldMeet_51 : decode cX7_wouldMeet 51 = .ok (.invokevirtual 91, 3) := by decide +kernel
theorem dX7_wouldMeet_54 : decode cX7_wouldMeet 54 = .ok (.iload_n 3, 1) := by decide +kernel
theorem dX7_wouldMeet_55 : decode cX7_wouldMeet 55 = .ok (.iadd, 1) := by decide +kernel
theorem dX7_wouldMeet_56 : decode cX7_wouldMeet 56 = .ok (.istore 5, 2) := by decide +kernel
theorem dX7_wouldMeet_58 : decode cX7_wouldMeet 58 = .ok (.iload_n 1, 1) := by decide +kernel
theorem dX7_wouldMeet_59 : decode cX7_wouldMeet 59 = .ok (.iload_n 2, 1) := by decide +kernel
theorem dX7_wouldMeet_60 : decode cX7_wouldMeet 60 = .ok (.if_icmp .eq 34, 3) := by decide +kernel
theorem dX7_wouldMeet_63 : decode cX7_wouldMeet 63 = .ok (.iload_n 1, 1) := by decide +kernel
theorem dX7_wouldMeet_64 : decode cX7_wouldMeet 64 = .ok (.iload_n 2, 1) := by decide +kernel
theorem dX7_wouldMeet_65 : decode cX7_wouldMeet 65 = .ok (.invokestatic 99, 3) := by decide +kernel
theorem dX7_wouldMeet_68 : decode cX7_wouldMeet 68 = .ok (.aload_n 0, 1) := by decide +kernel
theorem dX7_wouldMeet_69 : decode cX7_wouldMeet 69 = .ok (.getfield 7, 3) := by decide +kernel
theorem dX7_wouldMeet_72 : decode cX7_wouldMeet 72 = .ok (.iconst 1, 1) := by decide +kernel
theorem dX7_wouldMeet_73 : decode cX7_wouldMeet 73 = .ok (.iaload, 1) := by decide +kernel
theorem dX7_wouldMeet_74 : decode cX7_wouldMeet 74 = .ok (.if_icmp .gt 20, 3) := by decide +kernel
theorem dX7_wouldMeet_77 : decode cX7_wouldMeet 77 = .ok (.aload_n 0, 1) := by decide +kernel
theorem dX7_wouldMeet_78 : decode cX7_wouldMeet 78 = .ok (.iload_n 1, 1) := by decide +kernel
theorem dX7_wouldMeet_79 : decode cX7_wouldMeet 79 = .ok (.iload 4, 2) := by decide +kernel
theorem dX7_wouldMeet_81 : decode cX7_wouldMeet 81 = .ok (.iload_n 2, 1) := by decide +kernel
theorem dX7_wouldMeet_82 : decode cX7_wouldMeet 82 = .ok (.iload 5, 2) := by decide +kernel
theorem dX7_wouldMeet_84 : decode cX7_wouldMeet 84 = .ok (.invokevirtual 95, 3) := by decide +kernel
theorem dX7_wouldMeet_87 : decode cX7_wouldMeet 87 = .ok (.ifCond .eq 7, 3) := by decide +kernel
theorem dX7_wouldMeet_90 : decode cX7_wouldMeet 90 = .ok (.iconst 1, 1) := by decide +kernel
theorem dX7_wouldMeet_91 : decode cX7_wouldMeet 91 = .ok (.goto 4, 3) := by decide +kernel
theorem dX7_wouldMeet_94 : decode cX7_wouldMeet 94 = .ok (.iconst 0, 1) := by decide +kernel
theorem dX7_wouldMeet_95 : decode cX7_wouldMeet 95 = .ok (.ireturn, 1) := by decide +kernel
set_option maxRecDepth 20000 in
theorem ggX7_prices_X7_price : GoodIn wsX7_prices wsX7_price := goodIn_r _ [7, 2, 27, 28, 29, 30, 31, 32, 33, 34, 35, 36, 37, 38, 39, 40, 41] (by decide +kernel) (by decide +kernel)
set_option maxRecDepth 20000 in
theorem gX7_prices_X7_price : GoodIn wsX7_prices (wsV RX7 124 RX7 yX7_price wsX7_price) := goodIn_app (goodIn_of _ (by decide +kernel)) ggX7_prices_X7_price
set_option maxRecDepth 20000 in
theorem ggX7_prices_X7_wouldMeet : GoodIn wsX7_prices wsX7_wouldMeet := goodIn_r _ [11, 2, 12, 13, 14, 6, 15, 16, 17, 18, 19, 20, 21, 22, 23, 24, 25, 26, 27, 28, 29, 30, 31, 32, 33, 34, 35, 36, 37, 38, 39, 40, 41] (by decide +kernel) (by decide +kernel)
set_option maxRecDepth 20000 in
theorem gX7_prices_X7_wouldMeet : GoodIn wsX7_prices (wsV RX7 127 RX7 yX7_wouldMeet wsX7_wouldMeet) := goodIn_app (goodIn_of _ (by decide +kernel)) ggX7_prices_X7_wouldMeet
theorem dX7_prices_0 : decode cX7_prices 0 = .ok (.iconst 0, 1) := by decide +kernel
theorem dX7_prices_1 : decode cX7_prices 1 = .ok (.istore_n 3, 1) := by decide +kernel
theorem dX7_prices_2 : decode cX7_prices 2 = .ok (.iload_n 3, 1) := by decide +kernel
theorem dX7_prices_3 : decode cX7_prices 3 = .ok (.bipush 20, 2) := by decide +kernel
theorem dX7_prices_5 : decode cX7_prices 5 = .ok (.if_icmp .ge 29, 3) := by decide +kernel
theorem dX7_prices_8 : decode cX7_prices 8 = .ok (.aload_n 0, 1) := by decide +kernel
theorem dX7_prices_9 : decode cX7_prices 9 = .ok (.getfield 32, 3) := by decide +kernel
theorem dX7_prices_12 : decode cX7_prices 12 = .ok (.iload_n 3, 1) := by decide +kernel
theorem dX7_prices_13 : decode cX7_prices 13 = .ok (.iload_n 3, 1) := by decide +kernel
theorem dX7_prices_14 : decode cX7_prices 14 = .ok (.iload_n 1, 1) := by decide +kernel
theorem dX7_prices_15 : decode cX7_prices 15 = .ok (.if_icmp .ne 11, 3) := by decide +kernel
theorem dX7_prices_18 : decode cX7_prices 18 = .ok (.aload_n 0, 1) := by decide +kernel
theorem dX7_prices_19 : decode cX7_prices 19 = .ok (.iload_n 3, 1) := by decide +kernel
theorem dX7_prices_20 : decode cX7_prices 20 = .ok (.invokevirtual 124, 3) := by decide +kernel
theorem dX7_prices_23 : decode cX7_prices 23 = .ok (.goto 4, 3) := by decide +kernel
theorem dX7_prices_26 : decode cX7_prices 26 = .ok (.iconst 0, 1) := by decide +kernel
theorem dX7_prices_27 : decode cX7_prices 27 = .ok (.iastore, 1) := by decide +kernel
theorem dX7_prices_28 : decode cX7_prices 28 = .ok (.iinc 3 1, 3) := by decide +kernel
theorem dX7_prices_31 : decode cX7_prices 31 = .ok (.goto (-29), 3) := by decide +kernel
theorem dX7_prices_34 : decode cX7_prices 34 = .ok (.iconst 1, 1) := by decide +kernel
theorem dX7_prices_35 : decode cX7_prices 35 = .ok (.istore_n 3, 1) := by decide +kernel
theorem dX7_prices_36 : decode cX7_prices 36 = .ok (.iload_n 3, 1) := by decide +kernel
theorem dX7_prices_37 : decode cX7_prices 37 = .ok (.ifCond .eq 174, 3) := by decide +kernel
theorem dX7_prices_40 : decode cX7_prices 40 = .ok (.iconst 0, 1) := by decide +kernel
theorem dX7_prices_41 : decode cX7_prices 41 = .ok (.istore_n 3, 1) := by decide +kernel
theorem dX7_prices_42 : decode cX7_prices 42 = .ok (.iconst 0, 1) := by decide +kernel
theorem dX7_prices_43 : decode cX7_prices 43 = .ok (.istore 4, 2) := by decide +kernel
theorem dX7_prices_45 : decode cX7_prices 45 = .ok (.iload 4, 2) := by decide +kernel
theorem dX7_prices_47 : decode cX7_prices 47 = .ok (.aload_n 0, 1) := by decide +kernel
theorem dX7_prices_48 : decode cX7_prices 48 = .ok (.getfield 7, 3) := by decide +kernel
theorem dX7_prices_51 : decode cX7_prices 51 = .ok (.iconst 0, 1) := by decide +kernel
theorem dX7_prices_52 : decode cX7_prices 52 = .ok (.iaload, 1) := by decide +kernel
theorem dX7_prices_53 : decode cX7_prices 53 = .ok (.if_icmp .ge 155, 3) := by decide +kernel
theorem dX7_prices_56 : decode cX7_prices 56 = .ok (.iconst 0, 1) := by decide +kernel
theorem dX7_prices_57 : decode cX7_prices 57 = .ok (.istore 5, 2) := by decide +kernel
theorem dX7_prices_59 : decode cX7_prices 59 = .ok (.iload 5, 2) := by decide +kernel
theorem dX7_prices_61 : decode cX7_prices 61 = .ok (.aload_n 0, 1) := by decide +kernel
theorem dX7_prices_62 : decode cX7_prices 62 = .ok (.getfield 7, 3) := by decide +kernel
theorem dX7_prices_65 : decode cX7_prices 65 = .ok (.iconst 0, 1) := by decide +kernel
theorem dX7_prices_66 : decode cX7_prices 66 = .ok (.iaload, 1) := by decide +kernel
theorem dX7_prices_67 : decode cX7_prices 67 = .ok (.if_icmp .ge 135, 3) := by decide +kernel
theorem dX7_prices_70 : decode cX7_prices 70 = .ok (.aload_n 0, 1) := by decide +kernel
theorem dX7_prices_71 : decode cX7_prices 71 = .ok (.getfield 32, 3) := by decide +kernel
theorem dX7_prices_74 : decode cX7_prices 74 = .ok (.iload 5, 2) := by decide +kernel
theorem dX7_prices_76 : decode cX7_prices 76 = .ok (.iaload, 1) := by decide +kernel
theorem dX7_prices_77 : decode cX7_prices 77 = .ok (.ifCond .le 19, 3) := by decide +kernel
theorem dX7_prices_80 : decode cX7_prices 80 = .ok (.aload_n 0, 1) := by decide +kernel
theorem dX7_prices_81 : decode cX7_prices 81 = .ok (.iload 4, 2) := by decide +kernel
theorem dX7_prices_83 : decode cX7_prices 83 = .ok (.iload 5, 2) := by decide +kernel
theorem dX7_prices_85 : decode cX7_prices 85 = .ok (.iload_n 2, 1) := by decide +kernel
theorem dX7_prices_86 : decode cX7_prices 86 = .ok (.invokevirtual 127, 3) := by decide +kernel
theorem dX7_prices_89 : decode cX7_prices 89 = .ok (.ifCond .eq 7, 3) := by decide +kernel
theorem dX7_prices_92 : decode cX7_prices 92 = .ok (.iconst 1, 1) := by decide +kernel
theorem dX7_prices_93 : decode cX7_prices 93 = .ok (.goto 4, 3) := by decide +kernel
theorem dX7_prices_96 : decode cX7_prices 96 = .ok (.iconst 0, 1) := by decide +kernel
theorem dX7_prices_97 : decode cX7_prices 97 = .ok (.istore 6, 2) := by decide +kernel
theorem dX7_prices_99 : decode cX7_prices 99 = .ok (.iload 6, 2) := by decide +kernel
theorem dX7_prices_101 : decode cX7_prices 101 = .ok (.ifCond .eq 41, 3) := by decide +kernel
theorem dX7_prices_104 : decode cX7_prices 104 = .ok (.aload_n 0, 1) := by decide +kernel
theorem dX7_prices_105 : decode cX7_prices 105 = .ok (.getfield 32, 3) := by decide +kernel
theorem dX7_prices_108 : decode cX7_prices 108 = .ok (.iload 4, 2) := by decide +kernel
theorem dX7_prices_110 : decode cX7_prices 110 = .ok (.iaload, 1) := by decide +kernel
theorem dX7_prices_111 : decode cX7_prices 111 = .ok (.ifCond .eq 27, 3) := by decide +kernel
theorem dX7_prices_114 : decode cX7_prices 114 = .ok (.aload_n 0, 1) := by decide +kernel
theorem dX7_prices_115 : decode cX7_prices 115 = .ok (.getfield 32, 3) := by decide +kernel
theorem dX7_prices_118 : decode cX7_prices 118 = .ok (.iload 5, 2) := by decide +kernel
theorem dX7_prices_120 : decode cX7_prices 120 = .ok (.iaload, 1) := by decide +kernel
theorem dX7_prices_121 : decode cX7_prices 121 = .ok (.aload_n 0, 1) := by decide +kernel
theorem dX7_prices_122 : decode cX7_prices 122 = .ok (.iload 4, 2) := by decide +kernel
theorem dX7_prices_124 : decode cX7_prices 124 = .ok (.invokevirtual 124, 3) := by decide +kernel
theorem dX7_prices_127 : decode cX7_prices 127 = .ok (.iadd, 1) := by decide +kernel
theorem dX7_prices_128 : decode cX7_prices 128 = .ok (.aload_n 0, 1) := by decide +kernel
theorem dX7_prices_129 : decode cX7_prices 129 = .ok (.getfield 32, 3) := by decide +kernel
theorem dX7_prices_132 : decode cX7_prices 132 = .ok (.iload 4, 2) := by decide +kernel
theorem dX7_prices_134 : decode cX7_prices 134 = .ok (.iaload, 1) := by decide +kernel
theorem dX7_prices_135 : decode cX7_prices 135 = .ok (.if_icmp .ge 7, 3) := by decide +kernel
theorem dX7_prices_138 : decode cX7_prices 138 = .ok (.iconst 1, 1) := by decide +kernel
theorem dX7_prices_139 : decode cX7_prices 139 = .ok (.goto 4, 3) := by decide +kernel
theorem dX7_prices_142 : decode cX7_prices 142 = .ok (.iconst 0, 1) := by decide +kernel
theorem dX7_prices_143 : decode cX7_prices 143 = .ok (.istore 7, 2) := by decide +kernel
theorem dX7_prices_145 : decode cX7_prices 145 = .ok (.aload_n 0, 1) := by decide +kernel
theorem dX7_prices_146 : decode cX7_prices 146 = .ok (.getfield 32, 3) := by decide +kernel
theorem dX7_prices_149 : decode cX7_prices 149 = .ok (.iload 4, 2) := by decide +kernel
theorem dX7_prices_151 : decode cX7_prices 151 = .ok (.iload 7, 2) := by decide +kernel
theorem dX7_prices_153 : decode cX7_prices 153 = .ok (.ifCond .eq 20, 3) := by decide +kernel
theorem dX7_prices_156 : decode cX7_prices 156 = .ok (.aload_n 0, 1) := by decide +kernel
theorem dX7_prices_157 : decode cX7_prices 157 = .ok (.getfield 32, 3) := by decide +kernel
theorem dX7_prices_160 : decode cX7_prices 160 = .ok (.iload 5, 2) := by decide +kernel
theorem dX7_prices_162 : decode cX7_prices 162 = .ok (.iaload, 1) := by decide +kernel
theorem dX7_prices_163 : decode cX7_prices 163 = .ok (.aload_n 0, 1) := by decide +kernel
theorem dX7_prices_164 : decode cX7_prices 164 = .ok (.iload 4, 2) := by decide +kernel
theorem dX7_prices_166 : decode cX7_prices 166 = .ok (.invokevirtual 124, 3) := by decide +kernel
theorem dX7_prices_169 : decode cX7_prices 169 = .ok (.iadd, 1) := by decide +kernel
theorem dX7_prices_170 : decode cX7_prices 170 = .ok (.goto 10, 3) := by decide +kernel
theorem dX7_prices_173 : decode cX7_prices 173 = .ok (.aload_n 0, 1) := by decide +kernel
theorem dX7_prices_174 : decode cX7_prices 174 = .ok (.getfield 32, 3) := by decide +kernel
theorem dX7_prices_177 : decode cX7_prices 177 = .ok (.iload 4, 2) := by decide +kernel
theorem dX7_prices_179 : decode cX7_prices 179 = .ok (.iaload, 1) := by decide +kernel
theorem dX7_prices_180 : decode cX7_prices 180 = .ok (.iastore, 1) := by decide +kernel
theorem dX7_prices_181 : decode cX7_prices 181 = .ok (.iload_n 3, 1) := by decide +kernel
theorem dX7_prices_182 : decode cX7_prices 182 = .ok (.ifCond .ne 8, 3) := by decide +kernel
theorem dX7_prices_185 : decode cX7_prices 185 = .ok (.iload 7, 2) := by decide +kernel
theorem dX7_prices_187 : decode cX7_prices 187 = .ok (.ifCond .eq 7, 3) := by decide +kernel
theorem dX7_prices_190 : decode cX7_prices 190 = .ok (.iconst 1, 1) := by decide +kernel
theorem dX7_prices_191 : decode cX7_prices 191 = .ok (.goto 4, 3) := by decide +kernel
theorem dX7_prices_194 : decode cX7_prices 194 = .ok (.iconst 0, 1) := by decide +kernel
theorem dX7_prices_195 : decode cX7_prices 195 = .ok (.istore_n 3, 1) := by decide +kernel
theorem dX7_prices_196 : decode cX7_prices 196 = .ok (.iinc 5 1, 3) := by decide +kernel
theorem dX7_prices_199 : decode cX7_prices 199 = .ok (.goto (-140), 3) := by decide +kernel
theorem dX7_prices_202 : decode cX7_prices 202 = .ok (.iinc 4 1, 3) := by decide +kernel
theorem dX7_prices_205 : decode cX7_prices 205 = .ok (.goto (-160), 3) := by decide +kernel
theorem dX7_prices_208 : decode cX7_prices 208 = .ok (.goto (-172), 3) := by decide +kernel
theorem dX7_prices_211 : decode cX7_prices 211 = .ok (.return_, 1) := by decide +kernel
set_option maxRecDepth 20000 in
theorem ggX7_newMasts_X7_isStation : GoodIn wsX7_newMasts wsX7_isStation := goodIn_r _ [9, 4, 10, 11, 8, 12, 40, 41, 42, 43, 44, 45, 46, 47, 48, 49, 50, 51, 52, 53, 54] (by decide +kernel) (by decide +kernel)
set_option maxRecDepth 20000 in
theorem gX7_newMasts_X7_isStation : GoodIn wsX7_newMasts (wsV RX7 48 RX7 yX7_isStation wsX7_isStation) := goodIn_app (goodIn_of _ (by decide +kernel)) ggX7_newMasts_X7_isStation
set_option maxRecDepth 20000 in
theorem ggX7_newMasts_X7_in : GoodIn wsX7_newMasts wsX7_in := goodIn_r _ [12] (by decide +kernel) (by decide +kernel)
set_option maxRecDepth 20000 in
theorem gX7_newMasts_X7_in : GoodIn wsX7_newMasts (va_wsS RX7 38 yX7_in wsX7_in) := goodIn_app (goodIn_of _ (by decide +kernel)) ggX7_newMasts_X7_in
set_option maxRecDepth 20000 in
theorem ggX7_newMasts_X7_prices : GoodIn wsX7_newMasts wsX7_prices := goodIn_r _ [16, 1, 4, 17, 18, 19, 8, 20, 21, 22, 23, 24, 25, 26, 27, 28, 29, 30, 31, 32, 33, 34, 35, 36, 37, 38, 39, 40, 41, 42, 43, 44, 45, 46, 47, 48, 49, 50, 51, 52, 53, 54] (by decide +kernel) (by decide +kernel)
set_option maxRecDepth 20000 in
theorem gX7_newMasts_X7_prices : GoodIn wsX7_newMasts (wsV RX7 130 RX7 yX7_prices wsX7_prices) := goodIn_app (goodIn_of _ (by decide +kernel)) ggX7_newMasts_X7_prices
set_option maxRecDepth 20000 in
theorem ggX7_newMasts_X7_price : GoodIn wsX7_newMasts wsX7_price := goodIn_r _ [20, 4, 40, 41, 42, 43, 44, 45, 46, 47, 48, 49, 50, 51, 52, 53, 54] (by decide +kernel) (by decide +kernel)
set_option maxRecDepth 20000 in
theorem gX7_newMasts_X7_price : GoodIn wsX7_newMasts (wsV RX7 124 RX7 yX7_price wsX7_price) := goodIn_app (goodIn_of _ (by decide +kernel)) ggX7_newMasts_X7_price
set_option maxRecDepth 20000 in
theorem ggX7_newMasts_X7_wouldMeet : GoodIn wsX7_newMasts wsX7_wouldMeet := goodIn_r _ [24, 4, 25, 26, 27, 8, 28, 29, 30, 31, 32, 33, 34, 35, 36, 37, 38, 39, 40, 41, 42, 43, 44, 45, 46, 47, 48, 49, 50, 51, 52, 53, 54] (by decide +kernel) (by decide +kernel)
set_option maxRecDepth 20000 in
theorem gX7_newMasts_X7_wouldMeet : GoodIn wsX7_newMasts (wsV RX7 127 RX7 yX7_wouldMeet wsX7_wouldMeet) := goodIn_app (goodIn_of _ (by decide +kernel)) ggX7_newMasts_X7_wouldMeet
theorem dX7_newMasts_0 : decode cX7_newMasts 0 = .ok (.aload_n 0, 1) := by decide +kernel
theorem dX7_newMasts_1 : decode cX7_newMasts 1 = .ok (.iload_n 1, 1) := by decide +kernel
theorem dX7_newMasts_2 : decode cX7_newMasts 2 = .ok (.invokevirtual 48, 3) := by decide +kernel
theorem dX7_newMasts_5 : decode cX7_newMasts 5 = .ok (.ifCond .eq 22, 3) := by decide +kernel
theorem dX7_newMasts_8 : decode cX7_newMasts 8 = .ok (.aload_n 0, 1) := by decide +kernel
theorem dX7_newMasts_9 : decode cX7_newMasts 9 = .ok (.iload_n 2, 1) := by decide +kernel
theorem dX7_newMasts_10 : decode cX7_newMasts 10 = .ok (.invokevirtual 48, 3) := by decide +kernel
theorem dX7_newMasts_13 : decode cX7_newMasts 13 = .ok (.ifCond .eq 14, 3) := by decide +kernel
theorem dX7_newMasts_16 : decode cX7_newMasts 16 = .ok (.iload_n 3, 1) := by decide +kernel
theorem dX7_newMasts_17 : decode cX7_newMasts 17 = .ok (.iconst 1, 1) := by decide +kernel
theorem dX7_newMasts_18 : decode cX7_newMasts 18 = .ok (.sipush 200, 3) := by decide +kernel
theorem dX7_newMasts_21 : decode cX7_newMasts 21 = .ok (.invokestatic 38, 3) := by decide +kernel
theorem dX7_newMasts_24 : decode cX7_newMasts 24 = .ok (.ifCond .ne 6, 3) := by decide +kernel
theorem dX7_newMasts_27 : decode cX7_newMasts 27 = .ok (.bipush (-2), 2) := by decide +kernel
theorem dX7_newMasts_29 : decode cX7_newMasts 29 = .ok (.ireturn, 1) := by decide +kernel
theorem dX7_newMasts_30 : decode cX7_newMasts 30 = .ok (.aload_n 0, 1) := by decide +kernel
theorem dX7_newMasts_31 : decode cX7_newMasts 31 = .ok (.iload_n 2, 1) := by decide +kernel
theorem dX7_newMasts_32 : decode cX7_newMasts 32 = .ok (.iload_n 3, 1) := by decide +kernel
theorem dX7_newMasts_33 : decode cX7_newMasts 33 = .ok (.invokevirtual 130, 3) := by decide +kernel
theorem dX7_newMasts_36 : decode cX7_newMasts 36 = .ok (.aload_n 0, 1) := by decide +kernel
theorem dX7_newMasts_37 : decode cX7_newMasts 37 = .ok (.getfield 32, 3) := by decide +kernel
theorem dX7_newMasts_40 : decode cX7_newMasts 40 = .ok (.iload_n 1, 1) := by decide +kernel
theorem dX7_newMasts_41 : decode cX7_newMasts 41 = .ok (.iaload, 1) := by decide +kernel
theorem dX7_newMasts_42 : decode cX7_newMasts 42 = .ok (.ifCond .ne 5, 3) := by decide +kernel
theorem dX7_newMasts_45 : decode cX7_newMasts 45 = .ok (.iconst (-1), 1) := by decide +kernel
theorem dX7_newMasts_46 : decode cX7_newMasts 46 = .ok (.ireturn, 1) := by decide +kernel
theorem dX7_newMasts_47 : decode cX7_newMasts 47 = .ok (.iload_n 1, 1) := by decide +kernel
theorem dX7_newMasts_48 : decode cX7_newMasts 48 = .ok (.istore 4, 2) := by decide +kernel
theorem dX7_newMasts_50 : decode cX7_newMasts 50 = .ok (.aload_n 0, 1) := by decide +kernel
theorem dX7_newMasts_51 : decode cX7_newMasts 51 = .ok (.iconst 1, 1) := by decide +kernel
theorem dX7_newMasts_52 : decode cX7_newMasts 52 = .ok (.putfield 19, 3) := by decide +kernel
theorem dX7_newMasts_55 : decode cX7_newMasts 55 = .ok (.aload_n 0, 1) := by decide +kernel
theorem dX7_newMasts_56 : decode cX7_newMasts 56 = .ok (.getfield 16, 3) := by decide +kernel
theorem dX7_newMasts_59 : decode cX7_newMasts 59 = .ok (.iconst 0, 1) := by decide +kernel
theorem dX7_newMasts_60 : decode cX7_newMasts 60 = .ok (.iload 4, 2) := by decide +kernel
theorem dX7_newMasts_62 : decode cX7_newMasts 62 = .ok (.iastore, 1) := by decide +kernel
theorem dX7_newMasts_63 : decode cX7_newMasts 63 = .ok (.iload 4, 2) := by decide +kernel
theorem dX7_newMasts_65 : decode cX7_newMasts 65 = .ok (.iload_n 2, 1) := by decide +kernel
theorem dX7_newMasts_66 : decode cX7_newMasts 66 = .ok (.if_icmp .eq 122, 3) := by decide +kernel
theorem dX7_newMasts_69 : decode cX7_newMasts 69 = .ok (.iconst (-1), 1) := by decide +kernel
theorem dX7_newMasts_70 : decode cX7_newMasts 70 = .ok (.istore 5, 2) := by decide +kernel
theorem dX7_newMasts_72 : decode cX7_newMasts 72 = .ok (.aload_n 0, 1) := by decide +kernel
theorem dX7_newMasts_73 : decode cX7_newMasts 73 = .ok (.getfield 7, 3) := by decide +kernel
theorem dX7_newMasts_76 : decode cX7_newMasts 76 = .ok (.iconst 0, 1) := by decide +kernel
theorem dX7_newMasts_77 : decode cX7_newMasts 77 = .ok (.iaload, 1) := by decide +kernel
theorem dX7_newMasts_78 : decode cX7_newMasts 78 = .ok (.iconst 1, 1) := by decide +kernel
theorem dX7_newMasts_79 : decode cX7_newMasts 79 = .ok (.isub, 1) := by decide +kernel
theorem dX7_newMasts_80 : decode cX7_newMasts 80 = .ok (.istore 6, 2) := by decide +kernel
theorem dX7_newMasts_82 : decode cX7_newMasts 82 = .ok (.iload 6, 2) := by decide +kernel
theorem dX7_newMasts_84 : decode cX7_newMasts 84 = .ok (.ifCond .lt 76, 3) := by decide +kernel
theorem dX7_newMasts_87 : decode cX7_newMasts 87 = .ok (.aload_n 0, 1) := by decide +kernel
theorem dX7_newMasts_88 : decode cX7_newMasts 88 = .ok (.getfield 32, 3) := by decide +kernel
theorem dX7_newMasts_91 : decode cX7_newMasts 91 = .ok (.iload 6, 2) := by decide +kernel
theorem dX7_newMasts_93 : decode cX7_newMasts 93 = .ok (.iaload, 1) := by decide +kernel
theorem dX7_newMasts_94 : decode cX7_newMasts 94 = .ok (.ifCond .le 43, 3) := by decide +kernel
theorem dX7_newMasts_97 : decode cX7_newMasts 97 = .ok (.aload_n 0, 1) := by decide +kernel
theorem dX7_newMasts_98 : decode cX7_newMasts 98 = .ok (.getfield 32, 3) := by decide +kernel
theorem dX7_newMasts_101 : decode cX7_newMasts 101 = .ok (.iload 6, 2) := by decide +kernel
theorem dX7_newMasts_103 : decode cX7_newMasts 103 = .ok (.iaload, 1) := by decide +kernel
theorem dX7_newMasts_104 : decode cX7_newMasts 104 = .ok (.aload_n 0, 1) := by decide +kernel
theorem dX7_newMasts_105 : decode cX7_newMasts 105 = .ok (.iload 4, 2) := by decide +kernel
theorem dX7_newMasts_107 : decode cX7_newMasts 107 = .ok (.invokevirtual 124, 3) := by decide +kernel
theorem dX7_newMasts_110 : decode cX7_newMasts 110 = .ok (.iadd, 1) := by decide +kernel
theorem dX7_newMasts_111 : decode cX7_newMasts 111 = .ok (.aload_n 0, 1) := by decide +kernel
theorem dX7_newMasts_112 : decode cX7_newMasts 112 = .ok (.getfield 32, 3) := by decide +kernel
theorem dX7_newMasts_115 : decode cX7_newMasts 115 = .ok (.iload 4, 2) := by decide +kernel
theorem dX7_newMasts_117 : decode cX7_newMasts 117 = .ok (.iaload, 1) := by decide +kernel
theorem dX7_newMasts_118 : decode cX7_newMasts 118 = .ok (.if_icmp .ne 19, 3) := by decide +kernel
theorem dX7_newMasts_121 : decode cX7_newMasts 121 = .ok (.aload_n 0, 1) := by decide +kernel
theorem dX7_newMasts_122 : decode cX7_newMasts 122 = .ok (.iload 4, 2) := by decide +kernel
theorem dX7_newMasts_124 : decode cX7_newMasts 124 = .ok (.iload 6, 2) := by decide +kernel
theorem dX7_newMasts_126 : decode cX7_newMasts 126 = .ok (.iload_n 3, 1) := by decide +kernel
theorem dX7_newMasts_127 : decode cX7_newMasts 127 = .ok (.invokevirtual 127, 3) := by decide +kernel
theorem dX7_newMasts_130 : decode cX7_newMasts 130 = .ok (.ifCond .eq 7, 3) := by decide +kernel
theorem dX7_newMasts_133 : decode cX7_newMasts 133 = .ok (.iconst 1, 1) := by decide +kernel
theorem dX7_newMasts_134 : decode cX7_newMasts 134 = .ok (.goto 4, 3) := by decide +kernel
theorem dX7_newMasts_137 : decode cX7_newMasts 137 = .ok (.iconst 0, 1) := by decide +kernel
theorem dX7_newMasts_138 : decode cX7_newMasts 138 = .ok (.istore 7, 2) := by decide +kernel
theorem dX7_newMasts_140 : decode cX7_newMasts 140 = .ok (.iload 7, 2) := by decide +kernel
theorem dX7_newMasts_142 : decode cX7_newMasts 142 = .ok (.ifCond .eq 8, 3) := by decide +kernel
theorem dX7_newMasts_145 : decode cX7_newMasts 145 = .ok (.iload 6, 2) := by decide +kernel
theorem dX7_newMasts_147 : decode cX7_newMasts 147 = .ok (.goto 5, 3) := by decide +kernel
theorem dX7_newMasts_150 : decode cX7_newMasts 150 = .ok (.iload 5, 2) := by decide +kernel
theorem dX7_newMasts_152 : decode cX7_newMasts 152 = .ok (.istore 5, 2) := by decide +kernel
theorem dX7_newMasts_154 : decode cX7_newMasts 154 = .ok (.iinc 6 (-1), 3) := by decide +kernel
theorem dX7_newMasts_157 : decode cX7_newMasts 157 = .ok (.goto (-75), 3) := by decide +kernel
theorem dX7_newMasts_160 : decode cX7_newMasts 160 = .ok (.iload 5, 2) := by decide +kernel
theorem dX7_newMasts_162 : decode cX7_newMasts 162 = .ok (.istore 4, 2) := by decide +kernel
theorem dX7_newMasts_164 : decode cX7_newMasts 164 = .ok (.aload_n 0, 1) := by decide +kernel
theorem dX7_newMasts_165 : decode cX7_newMasts 165 = .ok (.getfield 16, 3) := by decide +kernel
theorem dX7_newMasts_168 : decode cX7_newMasts 168 = .ok (.aload_n 0, 1) := by decide +kernel
theorem dX7_newMasts_169 : decode cX7_newMasts 169 = .ok (.getfield 19, 3) := by decide +kernel
theorem dX7_newMasts_172 : decode cX7_newMasts 172 = .ok (.iload 4, 2) := by decide +kernel
theorem dX7_newMasts_174 : decode cX7_newMasts 174 = .ok (.iastore, 1) := by decide +kernel
theorem dX7_newMasts_175 : decode cX7_newMasts 175 = .ok (.aload_n 0, 1) := by decide +kernel
theorem dX7_newMasts_176 : decode cX7_newMasts 176 = .ok (.dup, 1) := by decide +kernel
theorem dX7_newMasts_177 : decode cX7_newMasts 177 = .ok (.getfield 19, 3) := by decide +kernel
theorem dX7_newMasts_180 : decode cX7_newMasts 180 = .ok (.iconst 1, 1) := by decide +kernel
theorem dX7_newMasts_181 : decode cX7_newMasts 181 = .ok (.iadd, 1) := by decide +kernel
theorem dX7_newMasts_182 : decode cX7_newMasts 182 = .ok (.putfield 19, 3) := by decide +kernel
theorem dX7_newMasts_185 : decode cX7_newMasts 185 = .ok (.goto (-122), 3) := by decide +kernel
theorem dX7_newMasts_188 : decode cX7_newMasts 188 = .ok (.aload_n 0, 1) := by decide +kernel
theorem dX7_newMasts_189 : decode cX7_newMasts 189 = .ok (.getfield 32, 3) := by decide +kernel
theorem dX7_newMasts_192 : decode cX7_newMasts 192 = .ok (.iload_n 1, 1) := by decide +kernel
theorem dX7_newMasts_193 : decode cX7_newMasts 193 = .ok (.iaload, 1) := by decide +kernel
theorem dX7_newMasts_194 : decode cX7_newMasts 194 = .ok (.bipush 100, 2) := by decide +kernel
theorem dX7_newMasts_196 : decode cX7_newMasts 196 = .ok (.idiv, 1) := by decide +kernel
theorem dX7_newMasts_197 : decode cX7_newMasts 197 = .ok (.ireturn, 1) := by decide +kernel
set_option maxRecDepth 20000 in
theorem ggX7_isChained_X7_ways : GoodIn wsX7_isChained wsX7_ways := goodIn_r _ [6, 1, 7, 8, 9, 10, 5, 11, 12, 13, 14, 15, 16, 17, 18, 19, 20, 21, 22, 23, 24, 25, 26, 27, 28, 29, 30, 31, 32, 33, 34, 35, 36, 37, 38, 39, 40, 41, 42, 43, 44, 45] (by decide +kernel) (by decide +kernel)
set_option maxRecDepth 20000 in
theorem gX7_isChained_X7_ways : GoodIn wsX7_isChained (wsV RX7 121 RX7 yX7_ways wsX7_ways) := goodIn_app (goodIn_of _ (by decide +kernel)) ggX7_isChained_X7_ways
theorem dX7_isChained_0 : decode cX7_isChained 0 = .ok (.aload_n 0, 1) := by decide +kernel
theorem dX7_isChained_1 : decode cX7_isChained 1 = .ok (.iload_n 2, 1) := by decide +kernel
theorem dX7_isChained_2 : decode cX7_isChained 2 = .ok (.invokevirtual 121, 3) := by decide +kernel
theorem dX7_isChained_5 : decode cX7_isChained 5 = .ok (.aload_n 0, 1) := by decide +kernel
theorem dX7_isChained_6 : decode cX7_isChained 6 = .ok (.getfield 32, 3) := by decide +kernel
theorem dX7_isChained_9 : decode cX7_isChained 9 = .ok (.iload_n 1, 1) := by decide +kernel
theorem dX7_isChained_10 : decode cX7_isChained 10 = .ok (.iaload, 1) := by decide +kernel
theorem dX7_isChained_11 : decode cX7_isChained 11 = .ok (.ifCond .le 7, 3) := by decide +kernel
theorem dX7_isChained_14 : decode cX7_isChained 14 = .ok (.iconst 1, 1) := by decide +kernel
theorem dX7_isChained_15 : decode cX7_isChained 15 = .ok (.goto 4, 3) := by decide +kernel
theorem dX7_isChained_18 : decode cX7_isChained 18 = .ok (.iconst 0, 1) := by decide +kernel
theorem dX7_isChained_19 : decode cX7_isChained 19 = .ok (.ireturn, 1) := by decide +kernel
theorem dX7_findsSet_0 : decode cX7_findsSet 0 = .ok (.aload_n 0, 1) := by decide +kernel
theorem dX7_findsSet_1 : decode cX7_findsSet 1 = .ok (.iconst 0, 1) := by decide +kernel
theorem dX7_findsSet_2 : decode cX7_findsSet 2 = .ok (.putfield 19, 3) := by decide +kernel
theorem dX7_findsSet_5 : decode cX7_findsSet 5 = .ok (.iconst 0, 1) := by decide +kernel
theorem dX7_findsSet_6 : decode cX7_findsSet 6 = .ok (.istore_n 2, 1) := by decide +kernel
theorem dX7_findsSet_7 : decode cX7_findsSet 7 = .ok (.iload_n 2, 1) := by decide +kernel
theorem dX7_findsSet_8 : decode cX7_findsSet 8 = .ok (.aload_n 0, 1) := by decide +kernel
theorem dX7_findsSet_9 : decode cX7_findsSet 9 = .ok (.getfield 7, 3) := by decide +kernel
theorem dX7_findsSet_12 : decode cX7_findsSet 12 = .ok (.iconst 0, 1) := by decide +kernel
theorem dX7_findsSet_13 : decode cX7_findsSet 13 = .ok (.iaload, 1) := by decide +kernel
theorem dX7_findsSet_14 : decode cX7_findsSet 14 = .ok (.if_icmp .ge 38, 3) := by decide +kernel
theorem dX7_findsSet_17 : decode cX7_findsSet 17 = .ok (.iload_n 1, 1) := by decide +kernel
theorem dX7_findsSet_18 : decode cX7_findsSet 18 = .ok (.iload_n 2, 1) := by decide +kernel
theorem dX7_findsSet_19 : decode cX7_findsSet 19 = .ok (.ishr, 1) := by decide +kernel
theorem dX7_findsSet_20 : decode cX7_findsSet 20 = .ok (.iconst 1, 1) := by decide +kernel
theorem dX7_findsSet_21 : decode cX7_findsSet 21 = .ok (.iand, 1) := by decide +kernel
theorem dX7_findsSet_22 : decode cX7_findsSet 22 = .ok (.iconst 1, 1) := by decide +kernel
theorem dX7_findsSet_23 : decode cX7_findsSet 23 = .ok (.if_icmp .ne 23, 3) := by decide +kernel
theorem dX7_findsSet_26 : decode cX7_findsSet 26 = .ok (.aload_n 0, 1) := by decide +kernel
theorem dX7_findsSet_27 : decode cX7_findsSet 27 = .ok (.getfield 16, 3) := by decide +kernel
theorem dX7_findsSet_30 : decode cX7_findsSet 30 = .ok (.aload_n 0, 1) := by decide +kernel
theorem dX7_findsSet_31 : decode cX7_findsSet 31 = .ok (.getfield 19, 3) := by decide +kernel
theorem dX7_findsSet_34 : decode cX7_findsSet 34 = .ok (.iload_n 2, 1) := by decide +kernel
theorem dX7_findsSet_35 : decode cX7_findsSet 35 = .ok (.iastore, 1) := by decide +kernel
theorem dX7_findsSet_36 : decode cX7_findsSet 36 = .ok (.aload_n 0, 1) := by decide +kernel
theorem dX7_findsSet_37 : decode cX7_findsSet 37 = .ok (.dup, 1) := by decide +kernel
theorem dX7_findsSet_38 : decode cX7_findsSet 38 = .ok (.getfield 19, 3) := by decide +kernel
theorem dX7_findsSet_41 : decode cX7_findsSet 41 = .ok (.iconst 1, 1) := by decide +kernel
theorem dX7_findsSet_42 : decode cX7_findsSet 42 = .ok (.iadd, 1) := by decide +kernel
theorem dX7_findsSet_43 : decode cX7_findsSet 43 = .ok (.putfield 19, 3) := by decide +kernel
theorem dX7_findsSet_46 : decode cX7_findsSet 46 = .ok (.iinc 2 1, 3) := by decide +kernel
theorem dX7_findsSet_49 : decode cX7_findsSet 49 = .ok (.goto (-42), 3) := by decide +kernel
theorem dX7_findsSet_52 : decode cX7_findsSet 52 = .ok (.return_, 1) := by decide +kernel
set_option maxRecDepth 20000 in
theorem ggX7_vital_X7_isStation : GoodIn wsX7_vital wsX7_isStation := goodIn_r _ [6, 1, 7, 8, 5, 9, 48, 49, 50, 51, 52, 53, 54, 55, 56, 57, 58, 59, 60, 61, 62] (by decide +kernel) (by decide +kernel)
set_option maxRecDepth 20000 in
theorem gX7_vital_X7_isStation : GoodIn wsX7_vital (wsV RX7 48 RX7 yX7_isStation wsX7_isStation) := goodIn_app (goodIn_of _ (by decide +kernel)) ggX7_vital_X7_isStation
set_option maxRecDepth 20000 in
theorem ggX7_vital_X7_isChained : GoodIn wsX7_vital wsX7_isChained := goodIn_r _ [13, 14, 15, 16, 17, 5, 18, 1, 19, 20, 21, 22, 23, 24, 25, 26, 27, 28, 29, 30, 31, 32, 33, 34, 35, 36, 37, 38, 39, 40, 41, 48, 49, 50, 51, 52, 53, 54, 55, 56, 57, 58, 59, 60, 61, 62] (by decide +kernel) (by decide +kernel)
set_option maxRecDepth 20000 in
theorem gX7_vital_X7_isChained : GoodIn wsX7_vital (wsV RX7 134 RX7 yX7_isChained wsX7_isChained) := goodIn_app (goodIn_of _ (by decide +kernel)) ggX7_vital_X7_isChained
set_option maxRecDepth 20000 in
theorem ggX7_vital_X7_findsSet : GoodIn wsX7_vital wsX7_findsSet := goodIn_r _ [45, 46, 1, 47, 48, 49, 50, 51, 52, 53, 54, 55, 56, 57, 58, 59, 60, 61, 62] (by decide +kernel) (by decide +kernel)
set_option maxRecDepth 20000 in
theorem gX7_vital_X7_findsSet : GoodIn wsX7_vital (wsV RX7 137 RX7 yX7_findsSet wsX7_findsSet) := goodIn_app (goodIn_of _ (by decide +kernel)) ggX7_vital_X7_findsSet
theorem dX7_vital_0 : decode cX7_vital 0 = .ok (.aload_n 0, 1) := by decide +kernel
theorem dX7_vital_1 : decode cX7_vital 1 = .ok (.iload_n 1, 1) := by decide +kernel
theorem dX7_vital_2 : decode cX7_vital 2 = .ok (.invokevirtual 48, 3) := by decide +kernel
theorem dX7_vital_5 : decode cX7_vital 5 = .ok (.ifCond .eq 11, 3) := by decide +kernel
theorem dX7_vital_8 : decode cX7_vital 8 = .ok (.aload_n 0, 1) := by decide +kernel
theorem dX7_vital_9 : decode cX7_vital 9 = .ok (.iload_n 2, 1) := by decide +kernel
theorem dX7_vital_10 : decode cX7_vital 10 = .ok (.invokevirtual 48, 3) := by decide +kernel
theorem dX7_vital_13 : decode cX7_vital 13 = .ok (.ifCond .ne 6, 3) := by decide +kernel
theorem dX7_vital_16 : decode cX7_vital 16 = .ok (.bipush (-2), 2) := by decide +kernel
theorem dX7_vital_18 : decode cX7_vital 18 = .ok (.ireturn, 1) := by decide +kernel
theorem dX7_vital_19 : decode cX7_vital 19 = .ok (.aload_n 0, 1) := by decide +kernel
theorem dX7_vital_20 : decode cX7_vital 20 = .ok (.iload_n 1, 1) := by decide +kernel
theorem dX7_vital_21 : decode cX7_vital 21 = .ok (.iload_n 2, 1) := by decide +kernel
theorem dX7_vital_22 : decode cX7_vital 22 = .ok (.invokevirtual 134, 3) := by decide +kernel
theorem dX7_vital_25 : decode cX7_vital 25 = .ok (.ifCond .ne 6, 3) := by decide +kernel
theorem dX7_vital_28 : decode cX7_vital 28 = .ok (.bipush (-3), 2) := by decide +kernel
theorem dX7_vital_30 : decode cX7_vital 30 = .ok (.ireturn, 1) := by decide +kernel
theorem dX7_vital_31 : decode cX7_vital 31 = .ok (.iconst 0, 1) := by decide +kernel
theorem dX7_vital_32 : decode cX7_vital 32 = .ok (.istore_n 3, 1) := by decide +kernel
theorem dX7_vital_33 : decode cX7_vital 33 = .ok (.iconst 0, 1) := by decide +kernel
theorem dX7_vital_34 : decode cX7_vital 34 = .ok (.istore 4, 2) := by decide +kernel
theorem dX7_vital_36 : decode cX7_vital 36 = .ok (.iload 4, 2) := by decide +kernel
theorem dX7_vital_38 : decode cX7_vital 38 = .ok (.aload_n 0, 1) := by decide +kernel
theorem dX7_vital_39 : decode cX7_vital 39 = .ok (.getfield 7, 3) := by decide +kernel
theorem dX7_vital_42 : decode cX7_vital 42 = .ok (.iconst 0, 1) := by decide +kernel
theorem dX7_vital_43 : decode cX7_vital 43 = .ok (.iaload, 1) := by decide +kernel
theorem dX7_vital_44 : decode cX7_vital 44 = .ok (.if_icmp .ge 81, 3) := by decide +kernel
theorem dX7_vital_47 : decode cX7_vital 47 = .ok (.aload_n 0, 1) := by decide +kernel
theorem dX7_vital_48 : decode cX7_vital 48 = .ok (.getfield 7, 3) := by decide +kernel
theorem dX7_vital_51 : decode cX7_vital 51 = .ok (.bipush 23, 2) := by decide +kernel
theorem dX7_vital_53 : decode cX7_vital 53 = .ok (.iload 4, 2) := by decide +kernel
theorem dX7_vital_55 : decode cX7_vital 55 = .ok (.iadd, 1) := by decide +kernel
theorem dX7_vital_56 : decode cX7_vital 56 = .ok (.iaload, 1) := by decide +kernel
theorem dX7_vital_57 : decode cX7_vital 57 = .ok (.istore 5, 2) := by decide +kernel
theorem dX7_vital_59 : decode cX7_vital 59 = .ok (.iload 4, 2) := by decide +kernel
theorem dX7_vital_61 : decode cX7_vital 61 = .ok (.iload_n 1, 1) := by decide +kernel
theorem dX7_vital_62 : decode cX7_vital 62 = .ok (.if_icmp .eq 57, 3) := by decide +kernel
theorem dX7_vital_65 : decode cX7_vital 65 = .ok (.iload 4, 2) := by decide +kernel
theorem dX7_vital_67 : decode cX7_vital 67 = .ok (.iload_n 2, 1) := by decide +kernel
theorem dX7_vital_68 : decode cX7_vital 68 = .ok (.if_icmp .eq 51, 3) := by decide +kernel
theorem dX7_vital_71 : decode cX7_vital 71 = .ok (.iload 5, 2) := by decide +kernel
theorem dX7_vital_73 : decode cX7_vital 73 = .ok (.ifCond .le 46, 3) := by decide +kernel
theorem dX7_vital_76 : decode cX7_vital 76 = .ok (.aload_n 0, 1) := by decide +kernel
theorem dX7_vital_77 : decode cX7_vital 77 = .ok (.getfield 7, 3) := by decide +kernel
theorem dX7_vital_80 : decode cX7_vital 80 = .ok (.bipush 23, 2) := by decide +kernel
theorem dX7_vital_82 : decode cX7_vital 82 = .ok (.iload 4, 2) := by decide +kernel
theorem dX7_vital_84 : decode cX7_vital 84 = .ok (.iadd, 1) := by decide +kernel
theorem dX7_vital_85 : decode cX7_vital 85 = .ok (.iconst 0, 1) := by decide +kernel
theorem dX7_vital_86 : decode cX7_vital 86 = .ok (.iastore, 1) := by decide +kernel
theorem dX7_vital_87 : decode cX7_vital 87 = .ok (.iload_n 3, 1) := by decide +kernel
theorem dX7_vital_88 : decode cX7_vital 88 = .ok (.aload_n 0, 1) := by decide +kernel
theorem dX7_vital_89 : decode cX7_vital 89 = .ok (.iload_n 1, 1) := by decide +kernel
theorem dX7_vital_90 : decode cX7_vital 90 = .ok (.iload_n 2, 1) := by decide +kernel
theorem dX7_vital_91 : decode cX7_vital 91 = .ok (.invokevirtual 134, 3) := by decide +kernel
theorem dX7_vital_94 : decode cX7_vital 94 = .ok (.ifCond .eq 7, 3) := by decide +kernel
theorem dX7_vital_97 : decode cX7_vital 97 = .ok (.iconst 0, 1) := by decide +kernel
theorem dX7_vital_98 : decode cX7_vital 98 = .ok (.goto 7, 3) := by decide +kernel
theorem dX7_vital_101 : decode cX7_vital 101 = .ok (.iconst 1, 1) := by decide +kernel
theorem dX7_vital_102 : decode cX7_vital 102 = .ok (.iload 4, 2) := by decide +kernel
theorem dX7_vital_104 : decode cX7_vital 104 = .ok (.ishl, 1) := by decide +kernel
theorem dX7_vital_105 : decode cX7_vital 105 = .ok (.ior, 1) := by decide +kernel
theorem dX7_vital_106 : decode cX7_vital 106 = .ok (.istore_n 3, 1) := by decide +kernel
theorem dX7_vital_107 : decode cX7_vital 107 = .ok (.aload_n 0, 1) := by decide +kernel
theorem dX7_vital_108 : decode cX7_vital 108 = .ok (.getfield 7, 3) := by decide +kernel
theorem dX7_vital_111 : decode cX7_vital 111 = .ok (.bipush 23, 2) := by decide +kernel
theorem dX7_vital_113 : decode cX7_vital 113 = .ok (.iload 4, 2) := by decide +kernel
theorem dX7_vital_115 : decode cX7_vital 115 = .ok (.iadd, 1) := by decide +kernel
theorem dX7_vital_116 : decode cX7_vital 116 = .ok (.iload 5, 2) := by decide +kernel
theorem dX7_vital_118 : decode cX7_vital 118 = .ok (.iastore, 1) := by decide +kernel
theorem dX7_vital_119 : decode cX7_vital 119 = .ok (.iinc 4 1, 3) := by decide +kernel
theorem dX7_vital_122 : decode cX7_vital 122 = .ok (.goto (-86), 3) := by decide +kernel
theorem dX7_vital_125 : decode cX7_vital 125 = .ok (.aload_n 0, 1) := by decide +kernel
theorem dX7_vital_126 : decode cX7_vital 126 = .ok (.iload_n 3, 1) := by decide +kernel
theorem dX7_vital_127 : decode cX7_vital 127 = .ok (.invokevirtual 137, 3) := by decide +kernel
theorem dX7_vital_130 : decode cX7_vital 130 = .ok (.iload_n 3, 1) := by decide +kernel
theorem dX7_vital_131 : decode cX7_vital 131 = .ok (.ireturn, 1) := by decide +kernel
theorem dX7_finding_0 : decode cX7_finding 0 = .ok (.iload_n 1, 1) := by decide +kernel
theorem dX7_finding_1 : decode cX7_finding 1 = .ok (.iconst (-1), 1) := by decide +kernel
theorem dX7_finding_2 : decode cX7_finding 2 = .ok (.if_icmp .ge 6, 3) := by decide +kernel
theorem dX7_finding_5 : decode cX7_finding 5 = .ok (.bipush (-2), 2) := by decide +kernel
theorem dX7_finding_7 : decode cX7_finding 7 = .ok (.ireturn, 1) := by decide +kernel
theorem dX7_finding_8 : decode cX7_finding 8 = .ok (.aload_n 0, 1) := by decide +kernel
theorem dX7_finding_9 : decode cX7_finding 9 = .ok (.getfield 19, 3) := by decide +kernel
theorem dX7_finding_12 : decode cX7_finding 12 = .ok (.iconst (-1), 1) := by decide +kernel
theorem dX7_finding_13 : decode cX7_finding 13 = .ok (.if_icmp .ne 6, 3) := by decide +kernel
theorem dX7_finding_16 : decode cX7_finding 16 = .ok (.bipush (-3), 2) := by decide +kernel
theorem dX7_finding_18 : decode cX7_finding 18 = .ok (.ireturn, 1) := by decide +kernel
theorem dX7_finding_19 : decode cX7_finding 19 = .ok (.iload_n 1, 1) := by decide +kernel
theorem dX7_finding_20 : decode cX7_finding 20 = .ok (.iconst (-1), 1) := by decide +kernel
theorem dX7_finding_21 : decode cX7_finding 21 = .ok (.if_icmp .ne 10, 3) := by decide +kernel
theorem dX7_finding_24 : decode cX7_finding 24 = .ok (.aload_n 0, 1) := by decide +kernel
theorem dX7_finding_25 : decode cX7_finding 25 = .ok (.getfield 19, 3) := by decide +kernel
theorem dX7_finding_28 : decode cX7_finding 28 = .ok (.goto 21, 3) := by decide +kernel
theorem dX7_finding_31 : decode cX7_finding 31 = .ok (.iload_n 1, 1) := by decide +kernel
theorem dX7_finding_32 : decode cX7_finding 32 = .ok (.aload_n 0, 1) := by decide +kernel
theorem dX7_finding_33 : decode cX7_finding 33 = .ok (.getfield 19, 3) := by decide +kernel
theorem dX7_finding_36 : decode cX7_finding 36 = .ok (.if_icmp .ge 12, 3) := by decide +kernel
theorem dX7_finding_39 : decode cX7_finding 39 = .ok (.aload_n 0, 1) := by decide +kernel
theorem dX7_finding_40 : decode cX7_finding 40 = .ok (.getfield 16, 3) := by decide +kernel
theorem dX7_finding_43 : decode cX7_finding 43 = .ok (.iload_n 1, 1) := by decide +kernel
theorem dX7_finding_44 : decode cX7_finding 44 = .ok (.iaload, 1) := by decide +kernel
theorem dX7_finding_45 : decode cX7_finding 45 = .ok (.goto 4, 3) := by decide +kernel
theorem dX7_finding_48 : decode cX7_finding 48 = .ok (.iconst (-1), 1) := by decide +kernel
theorem dX7_finding_49 : decode cX7_finding 49 = .ok (.ireturn, 1) := by decide +kernel
set_option maxRecDepth 20000 in
theorem ggX7_groups_X7_contacts : GoodIn wsX7_groups wsX7_contacts := goodIn_r _ [6, 1, 7, 8, 9, 5, 10, 11, 12, 13, 14, 15, 16, 17, 18, 19, 20, 21, 22, 23, 24, 25, 26, 27, 28, 29, 30, 31, 32, 33, 34, 35, 36, 37, 38, 39, 40, 41, 42, 43, 44] (by decide +kernel) (by decide +kernel)
set_option maxRecDepth 20000 in
theorem gX7_groups_X7_contacts : GoodIn wsX7_groups (wsV RX7 109 RX7 yX7_contacts wsX7_contacts) := goodIn_app (goodIn_of _ (by decide +kernel)) ggX7_groups_X7_contacts
theorem dX7_groups_0 : decode cX7_groups 0 = .ok (.iconst 1, 1) := by decide +kernel
theorem dX7_groups_1 : decode cX7_groups 1 = .ok (.aload_n 0, 1) := by decide +kernel
theorem dX7_groups_2 : decode cX7_groups 2 = .ok (.getfield 7, 3) := by decide +kernel
theorem dX7_groups_5 : decode cX7_groups 5 = .ok (.iconst 0, 1) := by decide +kernel
theorem dX7_groups_6 : decode cX7_groups 6 = .ok (.iaload, 1) := by decide +kernel
theorem dX7_groups_7 : decode cX7_groups 7 = .ok (.ishl, 1) := by decide +kernel
theorem dX7_groups_8 : decode cX7_groups 8 = .ok (.iconst 1, 1) := by decide +kernel
theorem dX7_groups_9 : decode cX7_groups 9 = .ok (.isub, 1) := by decide +kernel
theorem dX7_groups_10 : decode cX7_groups 10 = .ok (.istore_n 1, 1) := by decide +kernel
theorem dX7_groups_11 : decode cX7_groups 11 = .ok (.iconst 0, 1) := by decide +kernel
theorem dX7_groups_12 : decode cX7_groups 12 = .ok (.istore_n 2, 1) := by decide +kernel
theorem dX7_groups_13 : decode cX7_groups 13 = .ok (.iload_n 1, 1) := by decide +kernel
theorem dX7_groups_14 : decode cX7_groups 14 = .ok (.ifCond .eq 79, 3) := by decide +kernel
theorem dX7_groups_17 : decode cX7_groups 17 = .ok (.iload_n 1, 1) := by decide +kernel
theorem dX7_groups_18 : decode cX7_groups 18 = .ok (.iload_n 1, 1) := by decide +kernel
theorem dX7_groups_19 : decode cX7_groups 19 = .ok (.ineg, 1) := by decide +kernel
theorem dX7_groups_20 : decode cX7_groups 20 = .ok (.iand, 1) := by decide +kernel
theorem dX7_groups_21 : decode cX7_groups 21 = .ok (.istore_n 3, 1) := by decide +kernel
theorem dX7_groups_22 : decode cX7_groups 22 = .ok (.iconst 0, 1) := by decide +kernel
theorem dX7_groups_23 : decode cX7_groups 23 = .ok (.istore 4, 2) := by decide +kernel
theorem dX7_groups_25 : decode cX7_groups 25 = .ok (.iload 4, 2) := by decide +kernel
theorem dX7_groups_27 : decode cX7_groups 27 = .ok (.iload_n 3, 1) := by decide +kernel
theorem dX7_groups_28 : decode cX7_groups 28 = .ok (.if_icmp .eq 53, 3) := by decide +kernel
theorem dX7_groups_31 : decode cX7_groups 31 = .ok (.iload_n 3, 1) := by decide +kernel
theorem dX7_groups_32 : decode cX7_groups 32 = .ok (.istore 4, 2) := by decide +kernel
theorem dX7_groups_34 : decode cX7_groups 34 = .ok (.iconst 0, 1) := by decide +kernel
theorem dX7_groups_35 : decode cX7_groups 35 = .ok (.istore 5, 2) := by decide +kernel
theorem dX7_groups_37 : decode cX7_groups 37 = .ok (.iload 5, 2) := by decide +kernel
theorem dX7_groups_39 : decode cX7_groups 39 = .ok (.aload_n 0, 1) := by decide +kernel
theorem dX7_groups_40 : decode cX7_groups 40 = .ok (.getfield 7, 3) := by decide +kernel
theorem dX7_groups_43 : decode cX7_groups 43 = .ok (.iconst 0, 1) := by decide +kernel
theorem dX7_groups_44 : decode cX7_groups 44 = .ok (.iaload, 1) := by decide +kernel
theorem dX7_groups_45 : decode cX7_groups 45 = .ok (.if_icmp .ge 33, 3) := by decide +kernel
theorem dX7_groups_48 : decode cX7_groups 48 = .ok (.iload_n 3, 1) := by decide +kernel
theorem dX7_groups_49 : decode cX7_groups 49 = .ok (.iload 4, 2) := by decide +kernel
theorem dX7_groups_51 : decode cX7_groups 51 = .ok (.iload 5, 2) := by decide +kernel
theorem dX7_groups_53 : decode cX7_groups 53 = .ok (.ishr, 1) := by decide +kernel
theorem dX7_groups_54 : decode cX7_groups 54 = .ok (.iconst 1, 1) := by decide +kernel
theorem dX7_groups_55 : decode cX7_groups 55 = .ok (.iand, 1) := by decide +kernel
theorem dX7_groups_56 : decode cX7_groups 56 = .ok (.iconst 1, 1) := by decide +kernel
theorem dX7_groups_57 : decode cX7_groups 57 = .ok (.if_icmp .ne 12, 3) := by decide +kernel
theorem dX7_groups_60 : decode cX7_groups 60 = .ok (.aload_n 0, 1) := by decide +kernel
theorem dX7_groups_61 : decode cX7_groups 61 = .ok (.iload 5, 2) := by decide +kernel
theorem dX7_groups_63 : decode cX7_groups 63 = .ok (.invokevirtual 109, 3) := by decide +kernel
theorem dX7_groups_66 : decode cX7_groups 66 = .ok (.goto 4, 3) := by decide +kernel
theorem dX7_groups_69 : decode cX7_groups 69 = .ok (.iconst 0, 1) := by decide +kernel
theorem dX7_groups_70 : decode cX7_groups 70 = .ok (.ior, 1) := by decide +kernel
theorem dX7_groups_71 : decode cX7_groups 71 = .ok (.istore_n 3, 1) := by decide +kernel
theorem dX7_groups_72 : decode cX7_groups 72 = .ok (.iinc 5 1, 3) := by decide +kernel
theorem dX7_groups_75 : decode cX7_groups 75 = .ok (.goto (-38), 3) := by decide +kernel
theorem dX7_groups_78 : decode cX7_groups 78 = .ok (.goto (-53), 3) := by decide +kernel
theorem dX7_groups_81 : decode cX7_groups 81 = .ok (.iload_n 1, 1) := by decide +kernel
theorem dX7_groups_82 : decode cX7_groups 82 = .ok (.iload_n 3, 1) := by decide +kernel
theorem dX7_groups_83 : decode cX7_groups 83 = .ok (.iconst (-1), 1) := by decide +kernel
theorem dX7_groups_84 : decode cX7_groups 84 = .ok (.ixor, 1) := by decide +kernel
theorem dX7_groups_85 : decode cX7_groups 85 = .ok (.iand, 1) := by decide +kernel
theorem dX7_groups_86 : decode cX7_groups 86 = .ok (.istore_n 1, 1) := by decide +kernel
theorem dX7_groups_87 : decode cX7_groups 87 = .ok (.iinc 2 1, 3) := by decide +kernel
theorem dX7_groups_90 : decode cX7_groups 90 = .ok (.goto (-77), 3) := by decide +kernel
theorem dX7_groups_93 : decode cX7_groups 93 = .ok (.iload_n 2, 1) := by decide +kernel
theorem dX7_groups_94 : decode cX7_groups 94 = .ok (.ireturn, 1) := by decide +kernel
theorem dX7_coversAll_0 : decode cX7_coversAll 0 = .ok (.iconst 0, 1) := by decide +kernel
theorem dX7_coversAll_1 : decode cX7_coversAll 1 = .ok (.istore_n 2, 1) := by decide +kernel
theorem dX7_coversAll_2 : decode cX7_coversAll 2 = .ok (.iconst 0, 1) := by decide +kernel
theorem dX7_coversAll_3 : decode cX7_coversAll 3 = .ok (.istore_n 3, 1) := by decide +kernel
theorem dX7_coversAll_4 : decode cX7_coversAll 4 = .ok (.iload_n 3, 1) := by decide +kernel
theorem dX7_coversAll_5 : decode cX7_coversAll 5 = .ok (.aload_n 0, 1) := by decide +kernel
theorem dX7_coversAll_6 : decode cX7_coversAll 6 = .ok (.getfield 7, 3) := by decide +kernel
theorem dX7_coversAll_9 : decode cX7_coversAll 9 = .ok (.iconst 0, 1) := by decide +kernel
theorem dX7_coversAll_10 : decode cX7_coversAll 10 = .ok (.iaload, 1) := by decide +kernel
theorem dX7_coversAll_11 : decode cX7_coversAll 11 = .ok (.if_icmp .ge 31, 3) := by decide +kernel
theorem dX7_coversAll_14 : decode cX7_coversAll 14 = .ok (.iload_n 2, 1) := by decide +kernel
theorem dX7_coversAll_15 : decode cX7_coversAll 15 = .ok (.iload_n 1, 1) := by decide +kernel
theorem dX7_coversAll_16 : decode cX7_coversAll 16 = .ok (.iload_n 3, 1) := by decide +kernel
theorem dX7_coversAll_17 : decode cX7_coversAll 17 = .ok (.ishr, 1) := by decide +kernel
theorem dX7_coversAll_18 : decode cX7_coversAll 18 = .ok (.iconst 1, 1) := by decide +kernel
theorem dX7_coversAll_19 : decode cX7_coversAll 19 = .ok (.iand, 1) := by decide +kernel
theorem dX7_coversAll_20 : decode cX7_coversAll 20 = .ok (.iconst 1, 1) := by decide +kernel
theorem dX7_coversAll_21 : decode cX7_coversAll 21 = .ok (.if_icmp .ne 12, 3) := by decide +kernel
theorem dX7_coversAll_24 : decode cX7_coversAll 24 = .ok (.aload_n 0, 1) := by decide +kernel
theorem dX7_coversAll_25 : decode cX7_coversAll 25 = .ok (.getfield 35, 3) := by decide +kernel
theorem dX7_coversAll_28 : decode cX7_coversAll 28 = .ok (.iload_n 3, 1) := by decide +kernel
theorem dX7_coversAll_29 : decode cX7_coversAll 29 = .ok (.iaload, 1) := by decide +kernel
theorem dX7_coversAll_30 : decode cX7_coversAll 30 = .ok (.goto 4, 3) := by decide +kernel
theorem dX7_coversAll_33 : decode cX7_coversAll 33 = .ok (.iconst 0, 1) := by decide +kernel
theorem dX7_coversAll_34 : decode cX7_coversAll 34 = .ok (.ior, 1) := by decide +kernel
theorem dX7_coversAll_35 : decode cX7_coversAll 35 = .ok (.istore_n 2, 1) := by decide +kernel
theorem dX7_coversAll_36 : decode cX7_coversAll 36 = .ok (.iinc 3 1, 3) := by decide +kernel
theorem dX7_coversAll_39 : decode cX7_coversAll 39 = .ok (.goto (-35), 3) := by decide +kernel
theorem dX7_coversAll_42 : decode cX7_coversAll 42 = .ok (.iload_n 2, 1) := by decide +kernel
theorem dX7_coversAll_43 : decode cX7_coversAll 43 = .ok (.iconst 1, 1) := by decide +kernel
theorem dX7_coversAll_44 : decode cX7_coversAll 44 = .ok (.aload_n 0, 1) := by decide +kernel
theorem dX7_coversAll_45 : decode cX7_coversAll 45 = .ok (.getfield 7, 3) := by decide +kernel
theorem dX7_coversAll_48 : decode cX7_coversAll 48 = .ok (.iconst 0, 1) := by decide +kernel
theorem dX7_coversAll_49 : decode cX7_coversAll 49 = .ok (.iaload, 1) := by decide +kernel
theorem dX7_coversAll_50 : decode cX7_coversAll 50 = .ok (.ishl, 1) := by decide +kernel
theorem dX7_coversAll_51 : decode cX7_coversAll 51 = .ok (.iconst 1, 1) := by decide +kernel
theorem dX7_coversAll_52 : decode cX7_coversAll 52 = .ok (.isub, 1) := by decide +kernel
theorem dX7_coversAll_53 : decode cX7_coversAll 53 = .ok (.if_icmp .ne 7, 3) := by decide +kernel
theorem dX7_coversAll_56 : decode cX7_coversAll 56 = .ok (.iconst 1, 1) := by decide +kernel
theorem dX7_coversAll_57 : decode cX7_coversAll 57 = .ok (.goto 4, 3) := by decide +kernel
theorem dX7_coversAll_60 : decode cX7_coversAll 60 = .ok (.iconst 0, 1) := by decide +kernel
theorem dX7_coversAll_61 : decode cX7_coversAll 61 = .ok (.ireturn, 1) := by decide +kernel
set_option maxRecDepth 20000 in
theorem ggX7_watch_X7_in : GoodIn wsX7_watch wsX7_in := goodIn_r _ [6] (by decide +kernel) (by decide +kernel)
set_option maxRecDepth 20000 in
theorem gX7_watch_X7_in : GoodIn wsX7_watch (va_wsS RX7 38 yX7_in wsX7_in) := goodIn_app (goodIn_of _ (by decide +kernel)) ggX7_watch_X7_in
set_option maxRecDepth 20000 in
theorem ggX7_watch_X7_grounds : GoodIn wsX7_watch wsX7_grounds := goodIn_r _ [10, 1, 11, 12, 13, 5, 14, 15, 16, 17, 18, 29, 30, 31, 32, 33, 34, 35, 36, 37, 38, 39, 40, 41, 42, 43] (by decide +kernel) (by decide +kernel)
set_option maxRecDepth 20000 in
theorem gX7_watch_X7_grounds : GoodIn wsX7_watch (wsV RX7 112 RX7 yX7_grounds wsX7_grounds) := goodIn_app (goodIn_of _ (by decide +kernel)) ggX7_watch_X7_grounds
set_option maxRecDepth 20000 in
theorem ggX7_watch_X7_coversAll : GoodIn wsX7_watch wsX7_coversAll := goodIn_r _ [22, 1, 2, 29, 30, 31, 32, 33, 34, 35, 36, 37, 38, 39, 40, 41, 42, 43] (by decide +kernel) (by decide +kernel)
set_option maxRecDepth 20000 in
theorem gX7_watch_X7_coversAll : GoodIn wsX7_watch (wsV RX7 140 RX7 yX7_coversAll wsX7_coversAll) := goodIn_app (goodIn_of _ (by decide +kernel)) ggX7_watch_X7_coversAll
set_option maxRecDepth 20000 in
theorem ggX7_watch_X7_findsSet : GoodIn wsX7_watch wsX7_findsSet := goodIn_r _ [26, 27, 1, 28, 29, 30, 31, 32, 33, 34, 35, 36, 37, 38, 39, 40, 41, 42, 43] (by decide +kernel) (by decide +kernel)
set_option maxRecDepth 20000 in
theorem gX7_watch_X7_findsSet : GoodIn wsX7_watch (wsV RX7 137 RX7 yX7_findsSet wsX7_findsSet) := goodIn_app (goodIn_of _ (by decide +kernel)) ggX7_watch_X7_findsSet
theorem dX7_watch_0 : decode cX7_watch 0 = .ok (.iload_n 1, 1) := by decide +kernel
theorem dX7_watch_1 : decode cX7_watch 1 = .ok (.iconst 1, 1) := by decide +kernel
theorem dX7_watch_2 : decode cX7_watch 2 = .ok (.sipush 200, 3) := by decide +kernel
theorem dX7_watch_5 : decode cX7_watch 5 = .ok (.invokestatic 38, 3) := by decide +kernel
theorem dX7_watch_8 : decode cX7_watch 8 = .ok (.ifCond .ne 6, 3) := by decide +kernel
theorem dX7_watch_11 : decode cX7_watch 11 = .ok (.bipush (-2), 2) := by decide +kernel
theorem dX7_watch_13 : decode cX7_watch 13 = .ok (.ireturn, 1) := by decide +kernel
theorem dX7_watch_14 : decode cX7_watch 14 = .ok (.iconst 0, 1) := by decide +kernel
theorem dX7_watch_15 : decode cX7_watch 15 = .ok (.istore_n 2, 1) := by decide +kernel
theorem dX7_watch_16 : decode cX7_watch 16 = .ok (.iload_n 2, 1) := by decide +kernel
theorem dX7_watch_17 : decode cX7_watch 17 = .ok (.aload_n 0, 1) := by decide +kernel
theorem dX7_watch_18 : decode cX7_watch 18 = .ok (.getfield 7, 3) := by decide +kernel
theorem dX7_watch_21 : decode cX7_watch 21 = .ok (.iconst 0, 1) := by decide +kernel
theorem dX7_watch_22 : decode cX7_watch 22 = .ok (.iaload, 1) := by decide +kernel
theorem dX7_watch_23 : decode cX7_watch 23 = .ok (.if_icmp .ge 30, 3) := by decide +kernel
theorem dX7_watch_26 : decode cX7_watch 26 = .ok (.aload_n 0, 1) := by decide +kernel
theorem dX7_watch_27 : decode cX7_watch 27 = .ok (.getfield 35, 3) := by decide +kernel
theorem dX7_watch_30 : decode cX7_watch 30 = .ok (.iload_n 2, 1) := by decide +kernel
theorem dX7_watch_31 : decode cX7_watch 31 = .ok (.aload_n 0, 1) := by decide +kernel
theorem dX7_watch_32 : decode cX7_watch 32 = .ok (.iload_n 2, 1) := by decide +kernel
theorem dX7_watch_33 : decode cX7_watch 33 = .ok (.aload_n 0, 1) := by decide +kernel
theorem dX7_watch_34 : decode cX7_watch 34 = .ok (.getfield 7, 3) := by decide +kernel
theorem dX7_watch_37 : decode cX7_watch 37 = .ok (.iconst 3, 1) := by decide +kernel
theorem dX7_watch_38 : decode cX7_watch 38 = .ok (.iload_n 2, 1) := by decide +kernel
theorem dX7_watch_39 : decode cX7_watch 39 = .ok (.iadd, 1) := by decide +kernel
theorem dX7_watch_40 : decode cX7_watch 40 = .ok (.iaload, 1) := by decide +kernel
theorem dX7_watch_41 : decode cX7_watch 41 = .ok (.iload_n 1, 1) := by decide +kernel
theorem dX7_watch_42 : decode cX7_watch 42 = .ok (.iadd, 1) := by decide +kernel
theorem dX7_watch_43 : decode cX7_watch 43 = .ok (.invokevirtual 112, 3) := by decide +kernel
theorem dX7_watch_46 : decode cX7_watch 46 = .ok (.iastore, 1) := by decide +kernel
theorem dX7_watch_47 : decode cX7_watch 47 = .ok (.iinc 2 1, 3) := by decide +kernel
theorem dX7_watch_50 : decode cX7_watch 50 = .ok (.goto (-34), 3) := by decide +kernel
theorem dX7_watch_53 : decode cX7_watch 53 = .ok (.iconst 1, 1) := by decide +kernel
theorem dX7_watch_54 : decode cX7_watch 54 = .ok (.istore_n 2, 1) := by decide +kernel
theorem dX7_watch_55 : decode cX7_watch 55 = .ok (.iload_n 2, 1) := by decide +kernel
theorem dX7_watch_56 : decode cX7_watch 56 = .ok (.aload_n 0, 1) := by decide +kernel
theorem dX7_watch_57 : decode cX7_watch 57 = .ok (.getfield 7, 3) := by decide +kernel
theorem dX7_watch_60 : decode cX7_watch 60 = .ok (.iconst 0, 1) := by decide +kernel
theorem dX7_watch_61 : decode cX7_watch 61 = .ok (.iaload, 1) := by decide +kernel
theorem dX7_watch_62 : decode cX7_watch 62 = .ok (.if_icmp .gt 70, 3) := by decide +kernel
theorem dX7_watch_65 : decode cX7_watch 65 = .ok (.iconst 1, 1) := by decide +kernel
theorem dX7_watch_66 : decode cX7_watch 66 = .ok (.iload_n 2, 1) := by decide +kernel
theorem dX7_watch_67 : decode cX7_watch 67 = .ok (.ishl, 1) := by decide +kernel
theorem dX7_watch_68 : decode cX7_watch 68 = .ok (.iconst 1, 1) := by decide +kernel
theorem dX7_watch_69 : decode cX7_watch 69 = .ok (.isub, 1) := by decide +kernel
theorem dX7_watch_70 : decode cX7_watch 70 = .ok (.istore_n 3, 1) := by decide +kernel
theorem dX7_watch_71 : decode cX7_watch 71 = .ok (.iload_n 3, 1) := by decide +kernel
theorem dX7_watch_72 : decode cX7_watch 72 = .ok (.iconst 1, 1) := by decide +kernel
theorem dX7_watch_73 : decode cX7_watch 73 = .ok (.aload_n 0, 1) := by decide +kernel
theorem dX7_watch_74 : decode cX7_watch 74 = .ok (.getfield 7, 3) := by decide +kernel
theorem dX7_watch_77 : decode cX7_watch 77 = .ok (.iconst 0, 1) := by decide +kernel
theorem dX7_watch_78 : decode cX7_watch 78 = .ok (.iaload, 1) := by decide +kernel
theorem dX7_watch_79 : decode cX7_watch 79 = .ok (.ishl, 1) := by decide +kernel
theorem dX7_watch_80 : decode cX7_watch 80 = .ok (.if_icmp .ge 46, 3) := by decide +kernel
theorem dX7_watch_83 : decode cX7_watch 83 = .ok (.aload_n 0, 1) := by decide +kernel
theorem dX7_watch_84 : decode cX7_watch 84 = .ok (.iload_n 3, 1) := by decide +kernel
theorem dX7_watch_85 : decode cX7_watch 85 = .ok (.invokevirtual 140, 3) := by decide +kernel
theorem dX7_watch_88 : decode cX7_watch 88 = .ok (.ifCond .eq 10, 3) := by decide +kernel
theorem dX7_watch_91 : decode cX7_watch 91 = .ok (.aload_n 0, 1) := by decide +kernel
theorem dX7_watch_92 : decode cX7_watch 92 = .ok (.iload_n 3, 1) := by decide +kernel
theorem dX7_watch_93 : decode cX7_watch 93 = .ok (.invokevirtual 137, 3) := by decide +kernel
theorem dX7_watch_96 : decode cX7_watch 96 = .ok (.iload_n 3, 1) := by decide +kernel
theorem dX7_watch_97 : decode cX7_watch 97 = .ok (.ireturn, 1) := by decide +kernel
theorem dX7_watch_98 : decode cX7_watch 98 = .ok (.iload_n 3, 1) := by decide +kernel
theorem dX7_watch_99 : decode cX7_watch 99 = .ok (.iload_n 3, 1) := by decide +kernel
theorem dX7_watch_100 : decode cX7_watch 100 = .ok (.ineg, 1) := by decide +kernel
theorem dX7_watch_101 : decode cX7_watch 101 = .ok (.iand, 1) := by decide +kernel
theorem dX7_watch_102 : decode cX7_watch 102 = .ok (.istore 4, 2) := by decide +kernel
theorem dX7_watch_104 : decode cX7_watch 104 = .ok (.iload_n 3, 1) := by decide +kernel
theorem dX7_watch_105 : decode cX7_watch 105 = .ok (.iload 4, 2) := by decide +kernel
theorem dX7_watch_107 : decode cX7_watch 107 = .ok (.iadd, 1) := by decide +kernel
theorem dX7_watch_108 : decode cX7_watch 108 = .ok (.istore 5, 2) := by decide +kernel
theorem dX7_watch_110 : decode cX7_watch 110 = .ok (.iload 5, 2) := by decide +kernel
theorem dX7_watch_112 : decode cX7_watch 112 = .ok (.iload_n 3, 1) := by decide +kernel
theorem dX7_watch_113 : decode cX7_watch 113 = .ok (.iload 5, 2) := by decide +kernel
theorem dX7_watch_115 : decode cX7_watch 115 = .ok (.ixor, 1) := by decide +kernel
theorem dX7_watch_116 : decode cX7_watch 116 = .ok (.iload 4, 2) := by decide +kernel
theorem dX7_watch_118 : decode cX7_watch 118 = .ok (.idiv, 1) := by decide +kernel
theorem dX7_watch_119 : decode cX7_watch 119 = .ok (.iconst 2, 1) := by decide +kernel
theorem dX7_watch_120 : decode cX7_watch 120 = .ok (.ishr, 1) := by decide +kernel
theorem dX7_watch_121 : decode cX7_watch 121 = .ok (.ior, 1) := by decide +kernel
theorem dX7_watch_122 : decode cX7_watch 122 = .ok (.istore_n 3, 1) := by decide +kernel
theorem dX7_watch_123 : decode cX7_watch 123 = .ok (.goto (-52), 3) := by decide +kernel
theorem dX7_watch_126 : decode cX7_watch 126 = .ok (.iinc 2 1, 3) := by decide +kernel
theorem dX7_watch_129 : decode cX7_watch 129 = .ok (.goto (-74), 3) := by decide +kernel
theorem dX7_watch_132 : decode cX7_watch 132 = .ok (.bipush (-2), 2) := by decide +kernel
theorem dX7_watch_134 : decode cX7_watch 134 = .ok (.ireturn, 1) := by decide +kernel
set_option maxRecDepth 20000 in
theorem ggX7_watched_X7_top : GoodIn wsX7_watched wsX7_top := goodIn_r _ [6, 1, 19, 20, 21, 22, 23, 24, 25, 26, 27, 28, 29, 30, 31, 32, 33] (by decide +kernel) (by decide +kernel)
set_option maxRecDepth 20000 in
theorem gX7_watched_X7_top : GoodIn wsX7_watched (wsV RX7 91 RX7 yX7_top wsX7_top) := goodIn_app (goodIn_of _ (by decide +kernel)) ggX7_watched_X7_top
set_option maxRecDepth 20000 in
theorem ggX7_watched_X7_grounds : GoodIn wsX7_watched wsX7_grounds := goodIn_r _ [10, 1, 11, 12, 13, 5, 14, 15, 16, 17, 18, 19, 20, 21, 22, 23, 24, 25, 26, 27, 28, 29, 30, 31, 32, 33] (by decide +kernel) (by decide +kernel)
set_option maxRecDepth 20000 in
theorem gX7_watched_X7_grounds : GoodIn wsX7_watched (wsV RX7 112 RX7 yX7_grounds wsX7_grounds) := goodIn_app (goodIn_of _ (by decide +kernel)) ggX7_watched_X7_grounds
theorem dX7_watched_0 : decode cX7_watched 0 = .ok (.iload_n 1, 1) := by decide +kernel
theorem dX7_watched_1 : decode cX7_watched 1 = .ok (.ifCond .lt 14, 3) := by decide +kernel
theorem dX7_watched_4 : decode cX7_watched 4 = .ok (.iload_n 1, 1) := by decide +kernel
theorem dX7_watched_5 : decode cX7_watched 5 = .ok (.aload_n 0, 1) := by decide +kernel
theorem dX7_watched_6 : decode cX7_watched 6 = .ok (.getfield 7, 3) := by decide +kernel
theorem dX7_watched_9 : decode cX7_watched 9 = .ok (.iconst 0, 1) := by decide +kernel
theorem dX7_watched_10 : decode cX7_watched 10 = .ok (.iaload, 1) := by decide +kernel
theorem dX7_watched_11 : decode cX7_watched 11 = .ok (.ishr, 1) := by decide +kernel
theorem dX7_watched_12 : decode cX7_watched 12 = .ok (.ifCond .eq 6, 3) := by decide +kernel
theorem dX7_watched_15 : decode cX7_watched 15 = .ok (.bipush (-2), 2) := by decide +kernel
theorem dX7_watched_17 : decode cX7_watched 17 = .ok (.ireturn, 1) := by decide +kernel
theorem dX7_watched_18 : decode cX7_watched 18 = .ok (.iconst 0, 1) := by decide +kernel
theorem dX7_watched_19 : decode cX7_watched 19 = .ok (.istore_n 2, 1) := by decide +kernel
theorem dX7_watched_20 : decode cX7_watched 20 = .ok (.iconst 0, 1) := by decide +kernel
theorem dX7_watched_21 : decode cX7_watched 21 = .ok (.istore_n 3, 1) := by decide +kernel
theorem dX7_watched_22 : decode cX7_watched 22 = .ok (.iconst 0, 1) := by decide +kernel
theorem dX7_watched_23 : decode cX7_watched 23 = .ok (.istore 4, 2) := by decide +kernel
theorem dX7_watched_25 : decode cX7_watched 25 = .ok (.iload 4, 2) := by decide +kernel
theorem dX7_watched_27 : decode cX7_watched 27 = .ok (.aload_n 0, 1) := by decide +kernel
theorem dX7_watched_28 : decode cX7_watched 28 = .ok (.getfield 7, 3) := by decide +kernel
theorem dX7_watched_31 : decode cX7_watched 31 = .ok (.iconst 0, 1) := by decide +kernel
theorem dX7_watched_32 : decode cX7_watched 32 = .ok (.iaload, 1) := by decide +kernel
theorem dX7_watched_33 : decode cX7_watched 33 = .ok (.if_icmp .ge 38, 3) := by decide +kernel
theorem dX7_watched_36 : decode cX7_watched 36 = .ok (.iload_n 2, 1) := by decide +kernel
theorem dX7_watched_37 : decode cX7_watched 37 = .ok (.iload_n 1, 1) := by decide +kernel
theorem dX7_watched_38 : decode cX7_watched 38 = .ok (.iload 4, 2) := by decide +kernel
theorem dX7_watched_40 : decode cX7_watched 40 = .ok (.ishr, 1) := by decide +kernel
theorem dX7_watched_41 : decode cX7_watched 41 = .ok (.iconst 1, 1) := by decide +kernel
theorem dX7_watched_42 : decode cX7_watched 42 = .ok (.iand, 1) := by decide +kernel
theorem dX7_watched_43 : decode cX7_watched 43 = .ok (.iconst 1, 1) := by decide +kernel
theorem dX7_watched_44 : decode cX7_watched 44 = .ok (.if_icmp .ne 18, 3) := by decide +kernel
theorem dX7_watched_47 : decode cX7_watched 47 = .ok (.aload_n 0, 1) := by decide +kernel
theorem dX7_watched_48 : decode cX7_watched 48 = .ok (.iload 4, 2) := by decide +kernel
theorem dX7_watched_50 : decode cX7_watched 50 = .ok (.aload_n 0, 1) := by decide +kernel
theorem dX7_watched_51 : decode cX7_watched 51 = .ok (.iload 4, 2) := by decide +kernel
theorem dX7_watched_53 : decode cX7_watched 53 = .ok (.invokevirtual 91, 3) := by decide +kernel
theorem dX7_watched_56 : decode cX7_watched 56 = .ok (.invokevirtual 112, 3) := by decide +kernel
theorem dX7_watched_59 : decode cX7_watched 59 = .ok (.goto 4, 3) := by decide +kernel
theorem dX7_watched_62 : decode cX7_watched 62 = .ok (.iconst 0, 1) := by decide +kernel
theorem dX7_watched_63 : decode cX7_watched 63 = .ok (.ior, 1) := by decide +kernel
theorem dX7_watched_64 : decode cX7_watched 64 = .ok (.istore_n 2, 1) := by decide +kernel
theorem dX7_watched_65 : decode cX7_watched 65 = .ok (.iinc 4 1, 3) := by decide +kernel
theorem dX7_watched_68 : decode cX7_watched 68 = .ok (.goto (-43), 3) := by decide +kernel
theorem dX7_watched_71 : decode cX7_watched 71 = .ok (.iconst 0, 1) := by decide +kernel
theorem dX7_watched_72 : decode cX7_watched 72 = .ok (.istore 4, 2) := by decide +kernel
theorem dX7_watched_74 : decode cX7_watched 74 = .ok (.iload 4, 2) := by decide +kernel
theorem dX7_watched_76 : decode cX7_watched 76 = .ok (.aload_n 0, 1) := by decide +kernel
theorem dX7_watched_77 : decode cX7_watched 77 = .ok (.getfield 7, 3) := by decide +kernel
theorem dX7_watched_80 : decode cX7_watched 80 = .ok (.iconst 0, 1) := by decide +kernel
theorem dX7_watched_81 : decode cX7_watched 81 = .ok (.iaload, 1) := by decide +kernel
theorem dX7_watched_82 : decode cX7_watched 82 = .ok (.if_icmp .ge 18, 3) := by decide +kernel
theorem dX7_watched_85 : decode cX7_watched 85 = .ok (.iload_n 3, 1) := by decide +kernel
theorem dX7_watched_86 : decode cX7_watched 86 = .ok (.iload_n 2, 1) := by decide +kernel
theorem dX7_watched_87 : decode cX7_watched 87 = .ok (.iload 4, 2) := by decide +kernel
theorem dX7_watched_89 : decode cX7_watched 89 = .ok (.ishr, 1) := by decide +kernel
theorem dX7_watched_90 : decode cX7_watched 90 = .ok (.iconst 1, 1) := by decide +kernel
theorem dX7_watched_91 : decode cX7_watched 91 = .ok (.iand, 1) := by decide +kernel
theorem dX7_watched_92 : decode cX7_watched 92 = .ok (.iadd, 1) := by decide +kernel
theorem dX7_watched_93 : decode cX7_watched 93 = .ok (.istore_n 3, 1) := by decide +kernel
theorem dX7_watched_94 : decode cX7_watched 94 = .ok (.iinc 4 1, 3) := by decide +kernel
theorem dX7_watched_97 : decode cX7_watched 97 = .ok (.goto (-23), 3) := by decide +kernel
theorem dX7_watched_100 : decode cX7_watched 100 = .ok (.iload_n 3, 1) := by decide +kernel
theorem dX7_watched_101 : decode cX7_watched 101 = .ok (.ireturn, 1) := by decide +kernel
theorem dX7_masts_0 : decode cX7_masts 0 = .ok (.iconst 0, 1) := by decide +kernel
theorem dX7_masts_1 : decode cX7_masts 1 = .ok (.istore_n 2, 1) := by decide +kernel
theorem dX7_masts_2 : decode cX7_masts 2 = .ok (.iconst 0, 1) := by decide +kernel
theorem dX7_masts_3 : decode cX7_masts 3 = .ok (.istore_n 3, 1) := by decide +kernel
theorem dX7_masts_4 : decode cX7_masts 4 = .ok (.iload_n 3, 1) := by decide +kernel
theorem dX7_masts_5 : decode cX7_masts 5 = .ok (.aload_n 0, 1) := by decide +kernel
theorem dX7_masts_6 : decode cX7_masts 6 = .ok (.getfield 7, 3) := by decide +kernel
theorem dX7_masts_9 : decode cX7_masts 9 = .ok (.iconst 0, 1) := by decide +kernel
theorem dX7_masts_10 : decode cX7_masts 10 = .ok (.iaload, 1) := by decide +kernel
theorem dX7_masts_11 : decode cX7_masts 11 = .ok (.if_icmp .ge 45, 3) := by decide +kernel
theorem dX7_masts_14 : decode cX7_masts 14 = .ok (.iload_n 2, 1) := by decide +kernel
theorem dX7_masts_15 : decode cX7_masts 15 = .ok (.iload_n 1, 1) := by decide +kernel
theorem dX7_masts_16 : decode cX7_masts 16 = .ok (.ifCond .eq 15, 3) := by decide +kernel
theorem dX7_masts_19 : decode cX7_masts 19 = .ok (.aload_n 0, 1) := by decide +kernel
theorem dX7_masts_20 : decode cX7_masts 20 = .ok (.getfield 7, 3) := by decide +kernel
theorem dX7_masts_23 : decode cX7_masts 23 = .ok (.bipush 23, 2) := by decide +kernel
theorem dX7_masts_25 : decode cX7_masts 25 = .ok (.iload_n 3, 1) := by decide +kernel
theorem dX7_masts_26 : decode cX7_masts 26 = .ok (.iadd, 1) := by decide +kernel
theorem dX7_masts_27 : decode cX7_masts 27 = .ok (.iaload, 1) := by decide +kernel
theorem dX7_masts_28 : decode cX7_masts 28 = .ok (.goto 20, 3) := by decide +kernel
theorem dX7_masts_31 : decode cX7_masts 31 = .ok (.aload_n 0, 1) := by decide +kernel
theorem dX7_masts_32 : decode cX7_masts 32 = .ok (.getfield 7, 3) := by decide +kernel
theorem dX7_masts_35 : decode cX7_masts 35 = .ok (.bipush 23, 2) := by decide +kernel
theorem dX7_masts_37 : decode cX7_masts 37 = .ok (.iload_n 3, 1) := by decide +kernel
theorem dX7_masts_38 : decode cX7_masts 38 = .ok (.iadd, 1) := by decide +kernel
theorem dX7_masts_39 : decode cX7_masts 39 = .ok (.iaload, 1) := by decide +kernel
theorem dX7_masts_40 : decode cX7_masts 40 = .ok (.ifCond .le 7, 3) := by decide +kernel
theorem dX7_masts_43 : decode cX7_masts 43 = .ok (.iconst 1, 1) := by decide +kernel
theorem dX7_masts_44 : decode cX7_masts 44 = .ok (.goto 4, 3) := by decide +kernel
theorem dX7_masts_47 : decode cX7_masts 47 = .ok (.iconst 0, 1) := by decide +kernel
theorem dX7_masts_48 : decode cX7_masts 48 = .ok (.iadd, 1) := by decide +kernel
theorem dX7_masts_49 : decode cX7_masts 49 = .ok (.istore_n 2, 1) := by decide +kernel
theorem dX7_masts_50 : decode cX7_masts 50 = .ok (.iinc 3 1, 3) := by decide +kernel
theorem dX7_masts_53 : decode cX7_masts 53 = .ok (.goto (-49), 3) := by decide +kernel
theorem dX7_masts_56 : decode cX7_masts 56 = .ok (.iload_n 2, 1) := by decide +kernel
theorem dX7_masts_57 : decode cX7_masts 57 = .ok (.ireturn, 1) := by decide +kernel
set_option maxRecDepth 20000 in
theorem ggX7_pairs_X7_see : GoodIn wsX7_pairs wsX7_see := goodIn_r _ [6, 7, 8, 9, 5, 10, 1, 11, 12, 13, 14, 15, 16, 17, 18, 19, 20, 21, 22, 23, 24, 25, 26, 27, 28, 29, 30, 31, 32, 33] (by decide +kernel) (by decide +kernel)
set_option maxRecDepth 20000 in
theorem gX7_pairs_X7_see : GoodIn wsX7_pairs (wsV RX7 102 RX7 yX7_see wsX7_see) := goodIn_app (goodIn_of _ (by decide +kernel)) ggX7_pairs_X7_see
theorem dX7_pairs_0 : decode cX7_pairs 0 = .ok (.iconst 0, 1) := by decide +kernel
theorem dX7_pairs_1 : decode cX7_pairs 1 = .ok (.istore_n 2, 1) := by decide +kernel
theorem dX7_pairs_2 : decode cX7_pairs 2 = .ok (.iconst 0, 1) := by decide +kernel
theorem dX7_pairs_3 : decode cX7_pairs 3 = .ok (.istore_n 3, 1) := by decide +kernel
theorem dX7_pairs_4 : decode cX7_pairs 4 = .ok (.iload_n 3, 1) := by decide +kernel
theorem dX7_pairs_5 : decode cX7_pairs 5 = .ok (.aload_n 0, 1) := by decide +kernel
theorem dX7_pairs_6 : decode cX7_pairs 6 = .ok (.getfield 7, 3) := by decide +kernel
theorem dX7_pairs_9 : decode cX7_pairs 9 = .ok (.iconst 0, 1) := by decide +kernel
theorem dX7_pairs_10 : decode cX7_pairs 10 = .ok (.iaload, 1) := by decide +kernel
theorem dX7_pairs_11 : decode cX7_pairs 11 = .ok (.if_icmp .ge 66, 3) := by decide +kernel
theorem dX7_pairs_14 : decode cX7_pairs 14 = .ok (.iload_n 3, 1) := by decide +kernel
theorem dX7_pairs_15 : decode cX7_pairs 15 = .ok (.iconst 1, 1) := by decide +kernel
theorem dX7_pairs_16 : decode cX7_pairs 16 = .ok (.iadd, 1) := by decide +kernel
theorem dX7_pairs_17 : decode cX7_pairs 17 = .ok (.istore 4, 2) := by decide +kernel
theorem dX7_pairs_19 : decode cX7_pairs 19 = .ok (.iload 4, 2) := by decide +kernel
theorem dX7_pairs_21 : decode cX7_pairs 21 = .ok (.aload_n 0, 1) := by decide +kernel
theorem dX7_pairs_22 : decode cX7_pairs 22 = .ok (.getfield 7, 3) := by decide +kernel
theorem dX7_pairs_25 : decode cX7_pairs 25 = .ok (.iconst 0, 1) := by decide +kernel
theorem dX7_pairs_26 : decode cX7_pairs 26 = .ok (.iaload, 1) := by decide +kernel
theorem dX7_pairs_27 : decode cX7_pairs 27 = .ok (.if_icmp .ge 44, 3) := by decide +kernel
theorem dX7_pairs_30 : decode cX7_pairs 30 = .ok (.iload_n 2, 1) := by decide +kernel
theorem dX7_pairs_31 : decode cX7_pairs 31 = .ok (.aload_n 0, 1) := by decide +kernel
theorem dX7_pairs_32 : decode cX7_pairs 32 = .ok (.iload_n 3, 1) := by decide +kernel
theorem dX7_pairs_33 : decode cX7_pairs 33 = .ok (.iload 4, 2) := by decide +kernel
theorem dX7_pairs_35 : decode cX7_pairs 35 = .ok (.invokevirtual 102, 3) := by decide +kernel
theorem dX7_pairs_38 : decode cX7_pairs 38 = .ok (.ifCond .eq 24, 3) := by decide +kernel
theorem dX7_pairs_41 : decode cX7_pairs 41 = .ok (.iload_n 1, 1) := by decide +kernel
theorem dX7_pairs_42 : decode cX7_pairs 42 = .ok (.ifCond .eq 16, 3) := by decide +kernel
theorem dX7_pairs_45 : decode cX7_pairs 45 = .ok (.iload 4, 2) := by decide +kernel
theorem dX7_pairs_47 : decode cX7_pairs 47 = .ok (.iload_n 3, 1) := by decide +kernel
theorem dX7_pairs_48 : decode cX7_pairs 48 = .ok (.isub, 1) := by decide +kernel
theorem dX7_pairs_49 : decode cX7_pairs 49 = .ok (.aload_n 0, 1) := by decide +kernel
theorem dX7_pairs_50 : decode cX7_pairs 50 = .ok (.getfield 7, 3) := by decide +kernel
theorem dX7_pairs_53 : decode cX7_pairs 53 = .ok (.iconst 1, 1) := by decide +kernel
theorem dX7_pairs_54 : decode cX7_pairs 54 = .ok (.iaload, 1) := by decide +kernel
theorem dX7_pairs_55 : decode cX7_pairs 55 = .ok (.if_icmp .gt 7, 3) := by decide +kernel
theorem dX7_pairs_58 : decode cX7_pairs 58 = .ok (.iconst 1, 1) := by decide +kernel
theorem dX7_pairs_59 : decode cX7_pairs 59 = .ok (.goto 4, 3) := by decide +kernel
theorem dX7_pairs_62 : decode cX7_pairs 62 = .ok (.iconst 0, 1) := by decide +kernel
theorem dX7_pairs_63 : decode cX7_pairs 63 = .ok (.iadd, 1) := by decide +kernel
theorem dX7_pairs_64 : decode cX7_pairs 64 = .ok (.istore_n 2, 1) := by decide +kernel
theorem dX7_pairs_65 : decode cX7_pairs 65 = .ok (.iinc 4 1, 3) := by decide +kernel
theorem dX7_pairs_68 : decode cX7_pairs 68 = .ok (.goto (-49), 3) := by decide +kernel
theorem dX7_pairs_71 : decode cX7_pairs 71 = .ok (.iinc 3 1, 3) := by decide +kernel
theorem dX7_pairs_74 : decode cX7_pairs 74 = .ok (.goto (-70), 3) := by decide +kernel
theorem dX7_pairs_77 : decode cX7_pairs 77 = .ok (.iload_n 2, 1) := by decide +kernel
theorem dX7_pairs_78 : decode cX7_pairs 78 = .ok (.ireturn, 1) := by decide +kernel
set_option maxRecDepth 20000 in
theorem ggX7_count_X7_masts : GoodIn wsX7_count wsX7_masts := goodIn_r _ [8, 1, 29, 30, 31, 32, 33, 34, 35, 36, 37, 38, 39, 40, 41, 42, 43] (by decide +kernel) (by decide +kernel)
set_option maxRecDepth 20000 in
theorem gX7_count_X7_masts : GoodIn wsX7_count (wsV RX7 143 RX7 yX7_masts wsX7_masts) := goodIn_app (goodIn_of _ (by decide +kernel)) ggX7_count_X7_masts
set_option maxRecDepth 20000 in
theorem ggX7_count_X7_pairs : GoodIn wsX7_count wsX7_pairs := goodIn_r _ [12, 1, 13, 14, 15, 7, 16, 17, 18, 19, 20, 21, 22, 23, 24, 25, 26, 27, 28, 29, 30, 31, 32, 33, 34, 35, 36, 37, 38, 39, 40, 41, 42, 43] (by decide +kernel) (by decide +kernel)
set_option maxRecDepth 20000 in
theorem gX7_count_X7_pairs : GoodIn wsX7_count (wsV RX7 147 RX7 yX7_pairs wsX7_pairs) := goodIn_app (goodIn_of _ (by decide +kernel)) ggX7_count_X7_pairs
theorem dX7_count_0 : decode cX7_count 0 = .ok (.iload_n 1, 1) := by decide +kernel
theorem dX7_count_1 : decode cX7_count 1 = .ok (.tableswitch 106 0 8 #[51, 58, 64, 71, 78, 84, 90, 95, 100], 51) := by decide +kernel
theorem dX7_count_52 : decode cX7_count 52 = .ok (.aload_n 0, 1) := by decide +kernel
theorem dX7_count_53 : decode cX7_count 53 = .ok (.getfield 7, 3) := by decide +kernel
theorem dX7_count_56 : decode cX7_count 56 = .ok (.iconst 0, 1) := by decide +kernel
theorem dX7_count_57 : decode cX7_count 57 = .ok (.iaload, 1) := by decide +kernel
theorem dX7_count_58 : decode cX7_count 58 = .ok (.ireturn, 1) := by decide +kernel
theorem dX7_count_59 : decode cX7_count 59 = .ok (.aload_n 0, 1) := by decide +kernel
theorem dX7_count_60 : decode cX7_count 60 = .ok (.iconst 0, 1) := by decide +kernel
theorem dX7_count_61 : decode cX7_count 61 = .ok (.invokevirtual 143, 3) := by decide +kernel
theorem dX7_count_64 : decode cX7_count 64 = .ok (.ireturn, 1) := by decide +kernel
theorem dX7_count_65 : decode cX7_count 65 = .ok (.aload_n 0, 1) := by decide +kernel
theorem dX7_count_66 : decode cX7_count 66 = .ok (.getfield 7, 3) := by decide +kernel
theorem dX7_count_69 : decode cX7_count 69 = .ok (.iconst 1, 1) := by decide +kernel
theorem dX7_count_70 : decode cX7_count 70 = .ok (.iaload, 1) := by decide +kernel
theorem dX7_count_71 : decode cX7_count 71 = .ok (.ireturn, 1) := by decide +kernel
theorem dX7_count_72 : decode cX7_count 72 = .ok (.aload_n 0, 1) := by decide +kernel
theorem dX7_count_73 : decode cX7_count 73 = .ok (.getfield 7, 3) := by decide +kernel
theorem dX7_count_76 : decode cX7_count 76 = .ok (.iconst 2, 1) := by decide +kernel
theorem dX7_count_77 : decode cX7_count 77 = .ok (.iaload, 1) := by decide +kernel
theorem dX7_count_78 : decode cX7_count 78 = .ok (.ireturn, 1) := by decide +kernel
theorem dX7_count_79 : decode cX7_count 79 = .ok (.aload_n 0, 1) := by decide +kernel
theorem dX7_count_80 : decode cX7_count 80 = .ok (.iconst 0, 1) := by decide +kernel
theorem dX7_count_81 : decode cX7_count 81 = .ok (.invokevirtual 147, 3) := by decide +kernel
theorem dX7_count_84 : decode cX7_count 84 = .ok (.ireturn, 1) := by decide +kernel
theorem dX7_count_85 : decode cX7_count 85 = .ok (.aload_n 0, 1) := by decide +kernel
theorem dX7_count_86 : decode cX7_count 86 = .ok (.iconst 1, 1) := by decide +kernel
theorem dX7_count_87 : decode cX7_count 87 = .ok (.invokevirtual 147, 3) := by decide +kernel
theorem dX7_count_90 : decode cX7_count 90 = .ok (.ireturn, 1) := by decide +kernel
theorem dX7_count_91 : decode cX7_count 91 = .ok (.aload_n 0, 1) := by decide +kernel
theorem dX7_count_92 : decode cX7_count 92 = .ok (.getfield 42, 3) := by decide +kernel
theorem dX7_count_95 : decode cX7_count 95 = .ok (.ireturn, 1) := by decide +kernel
theorem dX7_count_96 : decode cX7_count 96 = .ok (.aload_n 0, 1) := by decide +kernel
theorem dX7_count_97 : decode cX7_count 97 = .ok (.getfield 52, 3) := by decide +kernel
theorem dX7_count_100 : decode cX7_count 100 = .ok (.ireturn, 1) := by decide +kernel
theorem dX7_count_101 : decode cX7_count 101 = .ok (.aload_n 0, 1) := by decide +kernel
theorem dX7_count_102 : decode cX7_count 102 = .ok (.iconst 1, 1) := by decide +kernel
theorem dX7_count_103 : decode cX7_count 103 = .ok (.invokevirtual 143, 3) := by decide +kernel
theorem dX7_count_106 : decode cX7_count 106 = .ok (.ireturn, 1) := by decide +kernel
theorem dX7_count_107 : decode cX7_count 107 = .ok (.bipush (-2), 2) := by decide +kernel
theorem dX7_count_109 : decode cX7_count 109 = .ok (.ireturn, 1) := by decide +kernel
theorem dX7_mixes_0 : decode cX7_mixes 0 = .ok (.aload_n 0, 1) := by decide +kernel
theorem dX7_mixes_1 : decode cX7_mixes 1 = .ok (.ldc2_w 150, 3) := by decide +kernel
theorem dX7_mixes_4 : decode cX7_mixes 4 = .ok (.aload_n 0, 1) := by decide +kernel
theorem dX7_mixes_5 : decode cX7_mixes 5 = .ok (.getfield 152, 3) := by decide +kernel
theorem dX7_mixes_8 : decode cX7_mixes 8 = .ok (.lmul, 1) := by decide +kernel
theorem dX7_mixes_9 : decode cX7_mixes 9 = .ok (.iload_n 1, 1) := by decide +kernel
theorem dX7_mixes_10 : decode cX7_mixes 10 = .ok (.i2l, 1) := by decide +kernel
theorem dX7_mixes_11 : decode cX7_mixes 11 = .ok (.ladd, 1) := by decide +kernel
theorem dX7_mixes_12 : decode cX7_mixes 12 = .ok (.putfield 152, 3) := by decide +kernel
theorem dX7_mixes_15 : decode cX7_mixes 15 = .ok (.return_, 1) := by decide +kernel
set_option maxRecDepth 20000 in
theorem ggX7_digest_X7_count : GoodIn wsX7_digest wsX7_count := goodIn_r _ [12, 3, 13, 6, 14, 15, 16, 11, 17, 18, 19, 20, 21, 22, 23, 24, 25, 26, 27, 28, 29, 30, 31, 32, 33, 34, 35, 36, 37, 81, 82, 83, 84, 85, 86, 87, 88, 89, 90, 91, 92, 93, 94, 95] (by decide +kernel) (by decide +kernel)
set_option maxRecDepth 20000 in
theorem gX7_digest_X7_count : GoodIn wsX7_digest (wsV RX7 158 RX7 yX7_count wsX7_count) := goodIn_app (goodIn_of _ (by decide +kernel)) ggX7_digest_X7_count
set_option maxRecDepth 20000 in
theorem ggX7_digest_X7_mixes : GoodIn wsX7_digest wsX7_mixes := goodIn_r _ [41, 42, 2, 81, 82, 83, 84, 85, 86, 87, 88, 89, 90, 91, 92, 93, 94, 95] (by decide +kernel) (by decide +kernel)
set_option maxRecDepth 20000 in
theorem gX7_digest_X7_mixes : GoodIn wsX7_digest (wsV RX7 161 RX7 yX7_mixes wsX7_mixes) := goodIn_app (goodIn_of _ (by decide +kernel)) ggX7_digest_X7_mixes
set_option maxRecDepth 20000 in
theorem ggX7_digest_X7_station_ : GoodIn wsX7_digest wsX7_station_ := goodIn_r _ [46, 3, 47, 48, 49, 11, 50, 51, 52, 53, 26, 27, 28, 29, 54, 55, 56, 57, 58, 59, 60, 61, 62, 63, 64, 22, 23, 24, 25, 30, 31, 32, 33, 34, 35, 36, 37, 65, 66, 67, 68, 69, 70, 71, 72, 81, 82, 83, 84, 85, 86, 87, 88, 89, 90, 91, 92, 93, 94, 95] (by decide +kernel) (by decide +kernel)
set_option maxRecDepth 20000 in
theorem gX7_digest_X7_station_ : GoodIn wsX7_digest (wsV RX7 164 RX7 yX7_station_ wsX7_station_) := goodIn_app (goodIn_of _ (by decide +kernel)) ggX7_digest_X7_station_
set_option maxRecDepth 20000 in
theorem ggX7_digest_X7_groups : GoodIn wsX7_digest wsX7_groups := goodIn_r _ [76, 3, 54, 55, 56, 11, 57, 58, 59, 60, 61, 62, 63, 64, 22, 23, 24, 25, 26, 27, 28, 29, 30, 31, 32, 33, 34, 35, 36, 37, 81, 82, 83, 84, 85, 86, 87, 88, 89, 90, 91, 92, 93, 94, 95] (by decide +kernel) (by decide +kernel)
set_option maxRecDepth 20000 in
theorem gX7_digest_X7_groups : GoodIn wsX7_digest (wsV RX7 166 RX7 yX7_groups wsX7_groups) := goodIn_app (goodIn_of _ (by decide +kernel)) ggX7_digest_X7_groups
set_option maxRecDepth 20000 in
theorem ggX7_digest_X7_farthest : GoodIn wsX7_digest wsX7_farthest := goodIn_r _ [80, 3, 58, 59, 60, 11, 61, 62, 63, 64, 22, 23, 24, 25, 26, 27, 28, 29, 30, 31, 32, 33, 34, 35, 36, 37, 81, 82, 83, 84, 85, 86, 87, 88, 89, 90, 91, 92, 93, 94, 95] (by decide +kernel) (by decide +kernel)
set_option maxRecDepth 20000 in
theorem gX7_digest_X7_farthest : GoodIn wsX7_digest (wsV RX7 169 RX7 yX7_farthest wsX7_farthest) := goodIn_app (goodIn_of _ (by decide +kernel)) ggX7_digest_X7_farthest
theorem dX7_digest_0 : decode cX7_digest 0 = .ok (.aload_n 0, 1) := by decide +kernel
theorem dX7_digest_1 : decode cX7_digest 1 = .ok (.ldc2_w 156, 3) := by decide +kernel
theorem dX7_digest_4 : decode cX7_digest 4 = .ok (.putfield 152, 3) := by decide +kernel
theorem dX7_digest_7 : decode cX7_digest 7 = .ok (.iconst 0, 1) := by decide +kernel
theorem dX7_digest_8 : decode cX7_digest 8 = .ok (.istore_n 1, 1) := by decide +kernel
theorem dX7_digest_9 : decode cX7_digest 9 = .ok (.iload_n 1, 1) := by decide +kernel
theorem dX7_digest_10 : decode cX7_digest 10 = .ok (.bipush 9, 2) := by decide +kernel
theorem dX7_digest_12 : decode cX7_digest 12 = .ok (.if_icmp .ge 18, 3) := by decide +kernel
theorem dX7_digest_15 : decode cX7_digest 15 = .ok (.aload_n 0, 1) := by decide +kernel
theorem dX7_digest_16 : decode cX7_digest 16 = .ok (.aload_n 0, 1) := by decide +kernel
theorem dX7_digest_17 : decode cX7_digest 17 = .ok (.iload_n 1, 1) := by decide +kernel
theorem dX7_digest_18 : decode cX7_digest 18 = .ok (.invokevirtual 158, 3) := by decide +kernel
theorem dX7_digest_21 : decode cX7_digest 21 = .ok (.invokevirtual 161, 3) := by decide +kernel
theorem dX7_digest_24 : decode cX7_digest 24 = .ok (.iinc 1 1, 3) := by decide +kernel
theorem dX7_digest_27 : decode cX7_digest 27 = .ok (.goto (-18), 3) := by decide +kernel
theorem dX7_digest_30 : decode cX7_digest 30 = .ok (.iconst 0, 1) := by decide +kernel
theorem dX7_digest_31 : decode cX7_digest 31 = .ok (.istore_n 1, 1) := by decide +kernel
theorem dX7_digest_32 : decode cX7_digest 32 = .ok (.iload_n 1, 1) := by decide +kernel
theorem dX7_digest_33 : decode cX7_digest 33 = .ok (.bipush 6, 2) := by decide +kernel
theorem dX7_digest_35 : decode cX7_digest 35 = .ok (.aload_n 0, 1) := by decide +kernel
theorem dX7_digest_36 : decode cX7_digest 36 = .ok (.getfield 7, 3) := by decide +kernel
theorem dX7_digest_39 : decode cX7_digest 39 = .ok (.iconst 0, 1) := by decide +kernel
theorem dX7_digest_40 : decode cX7_digest 40 = .ok (.iaload, 1) := by decide +kernel
theorem dX7_digest_41 : decode cX7_digest 41 = .ok (.imul, 1) := by decide +kernel
theorem dX7_digest_42 : decode cX7_digest 42 = .ok (.if_icmp .ge 25, 3) := by decide +kernel
theorem dX7_digest_45 : decode cX7_digest 45 = .ok (.aload_n 0, 1) := by decide +kernel
theorem dX7_digest_46 : decode cX7_digest 46 = .ok (.aload_n 0, 1) := by decide +kernel
theorem dX7_digest_47 : decode cX7_digest 47 = .ok (.iload_n 1, 1) := by decide +kernel
theorem dX7_digest_48 : decode cX7_digest 48 = .ok (.bipush 6, 2) := by decide +kernel
theorem dX7_digest_50 : decode cX7_digest 50 = .ok (.idiv, 1) := by decide +kernel
theorem dX7_digest_51 : decode cX7_digest 51 = .ok (.iload_n 1, 1) := by decide +kernel
theorem dX7_digest_52 : decode cX7_digest 52 = .ok (.bipush 6, 2) := by decide +kernel
theorem dX7_digest_54 : decode cX7_digest 54 = .ok (.irem, 1) := by decide +kernel
theorem dX7_digest_55 : decode cX7_digest 55 = .ok (.invokevirtual 164, 3) := by decide +kernel
theorem dX7_digest_58 : decode cX7_digest 58 = .ok (.invokevirtual 161, 3) := by decide +kernel
theorem dX7_digest_61 : decode cX7_digest 61 = .ok (.iinc 1 1, 3) := by decide +kernel
theorem dX7_digest_64 : decode cX7_digest 64 = .ok (.goto (-32), 3) := by decide +kernel
theorem dX7_digest_67 : decode cX7_digest 67 = .ok (.aload_n 0, 1) := by decide +kernel
theorem dX7_digest_68 : decode cX7_digest 68 = .ok (.aload_n 0, 1) := by decide +kernel
theorem dX7_digest_69 : decode cX7_digest 69 = .ok (.invokevirtual 166, 3) := by decide +kernel
theorem dX7_digest_72 : decode cX7_digest 72 = .ok (.invokevirtual 161, 3) := by decide +kernel
theorem dX7_digest_75 : decode cX7_digest 75 = .ok (.aload_n 0, 1) := by decide +kernel
theorem dX7_digest_76 : decode cX7_digest 76 = .ok (.aload_n 0, 1) := by decide +kernel
theorem dX7_digest_77 : decode cX7_digest 77 = .ok (.invokevirtual 169, 3) := by decide +kernel
theorem dX7_digest_80 : decode cX7_digest 80 = .ok (.invokevirtual 161, 3) := by decide +kernel
theorem dX7_digest_83 : decode cX7_digest 83 = .ok (.iconst 0, 1) := by decide +kernel
theorem dX7_digest_84 : decode cX7_digest 84 = .ok (.istore_n 1, 1) := by decide +kernel
theorem dX7_digest_85 : decode cX7_digest 85 = .ok (.iload_n 1, 1) := by decide +kernel
theorem dX7_digest_86 : decode cX7_digest 86 = .ok (.aload_n 0, 1) := by decide +kernel
theorem dX7_digest_87 : decode cX7_digest 87 = .ok (.getfield 19, 3) := by decide +kernel
theorem dX7_digest_90 : decode cX7_digest 90 = .ok (.if_icmp .ge 19, 3) := by decide +kernel
theorem dX7_digest_93 : decode cX7_digest 93 = .ok (.aload_n 0, 1) := by decide +kernel
theorem dX7_digest_94 : decode cX7_digest 94 = .ok (.aload_n 0, 1) := by decide +kernel
theorem dX7_digest_95 : decode cX7_digest 95 = .ok (.getfield 16, 3) := by decide +kernel
theorem dX7_digest_98 : decode cX7_digest 98 = .ok (.iload_n 1, 1) := by decide +kernel
theorem dX7_digest_99 : decode cX7_digest 99 = .ok (.iaload, 1) := by decide +kernel
theorem dX7_digest_100 : decode cX7_digest 100 = .ok (.invokevirtual 161, 3) := by decide +kernel
theorem dX7_digest_103 : decode cX7_digest 103 = .ok (.iinc 1 1, 3) := by decide +kernel
theorem dX7_digest_106 : decode cX7_digest 106 = .ok (.goto (-21), 3) := by decide +kernel
theorem dX7_digest_109 : decode cX7_digest 109 = .ok (.iconst 0, 1) := by decide +kernel
theorem dX7_digest_110 : decode cX7_digest 110 = .ok (.istore_n 1, 1) := by decide +kernel
theorem dX7_digest_111 : decode cX7_digest 111 = .ok (.iload_n 1, 1) := by decide +kernel
theorem dX7_digest_112 : decode cX7_digest 112 = .ok (.aload_n 0, 1) := by decide +kernel
theorem dX7_digest_113 : decode cX7_digest 113 = .ok (.getfield 52, 3) := by decide +kernel
theorem dX7_digest_116 : decode cX7_digest 116 = .ok (.if_icmp .ge 19, 3) := by decide +kernel
theorem dX7_digest_119 : decode cX7_digest 119 = .ok (.aload_n 0, 1) := by decide +kernel
theorem dX7_digest_120 : decode cX7_digest 120 = .ok (.aload_n 0, 1) := by decide +kernel
theorem dX7_digest_121 : decode cX7_digest 121 = .ok (.getfield 23, 3) := by decide +kernel
theorem dX7_digest_124 : decode cX7_digest 124 = .ok (.iload_n 1, 1) := by decide +kernel
theorem dX7_digest_125 : decode cX7_digest 125 = .ok (.iaload, 1) := by decide +kernel
theorem dX7_digest_126 : decode cX7_digest 126 = .ok (.invokevirtual 161, 3) := by decide +kernel
theorem dX7_digest_129 : decode cX7_digest 129 = .ok (.iinc 1 1, 3) := by decide +kernel
theorem dX7_digest_132 : decode cX7_digest 132 = .ok (.goto (-21), 3) := by decide +kernel
theorem dX7_digest_135 : decode cX7_digest 135 = .ok (.aload_n 0, 1) := by decide +kernel
theorem dX7_digest_136 : decode cX7_digest 136 = .ok (.getfield 152, 3) := by decide +kernel
theorem dX7_digest_139 : decode cX7_digest 139 = .ok (.lreturn, 1) := by decide +kernel
