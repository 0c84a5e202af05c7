theorem dL_cell_0 : decode cL_cell 0 = .ok (.iload_n 1, 1) := by decide +kernel
theorem dL_cell_1 : decode cL_cell 1 = .ok (.aload_n 0, 1) := by decide +kernel
theorem dL_cell_2 : decode cL_cell 2 = .ok (.arraylength, 1) := by decide +kernel
theorem dL_cell_3 : decode cL_cell 3 = .ok (.if_icmp .ge 9, 3) := by decide +kernel
theorem dL_cell_6 : decode cL_cell 6 = .ok (.aload_n 0, 1) := by decide +kernel
theorem dL_cell_7 : decode cL_cell 7 = .ok (.iload_n 1, 1) := by decide +kernel
theorem dL_cell_8 : decode cL_cell 8 = .ok (.iaload, 1) := by decide +kernel
theorem dL_cell_9 : decode cL_cell 9 = .ok (.goto 9, 3) := by decide +kernel
theorem dL_cell_12 : decode cL_cell 12 = .ok (.ldc 7, 2) := by decide +kernel
theorem dL_cell_14 : decode cL_cell 14 = .ok (.iload_n 1, 1) := by decide +kernel
theorem dL_cell_15 : decode cL_cell 15 = .ok (.iconst 1, 1) := by decide +kernel
theorem dL_cell_16 : decode cL_cell 16 = .ok (.iadd, 1) := by decide +kernel
theorem dL_cell_17 : decode cL_cell 17 = .ok (.imul, 1) := by decide +kernel
theorem dL_cell_18 : decode cL_cell 18 = .ok (.ireturn, 1) := by decide +kernel
theorem dL_low_0 : decode cL_low 0 = .ok (.iload_n 0, 1) := by decide +kernel
theorem dL_low_1 : decode cL_low 1 = .ok (.ldc 8, 2) := by decide +kernel
theorem dL_low_3 : decode cL_low 3 = .ok (.iand, 1) := by decide +kernel
theorem dL_low_4 : decode cL_low 4 = .ok (.iload_n 1, 1) := by decide +kernel
theorem dL_low_5 : decode cL_low 5 = .ok (.irem, 1) := by decide +kernel
theorem dL_low_6 : decode cL_low 6 = .ok (.ireturn, 1) := by decide +kernel
theorem dL_top_0 : decode cL_top 0 = .ok (.aload_n 0, 1) := by decide +kernel
theorem dL_top_1 : decode cL_top 1 = .ok (.iload_n 1, 1) := by decide +kernel
theorem dL_top_2 : decode cL_top 2 = .ok (.iaload, 1) := by decide +kernel
theorem dL_top_3 : decode cL_top 3 = .ok (.aload_n 0, 1) := by decide +kernel
theorem dL_top_4 : decode cL_top 4 = .ok (.bipush 8, 2) := by decide +kernel
theorem dL_top_6 : decode cL_top 6 = .ok (.iload_n 1, 1) := by decide +kernel
theorem dL_top_7 : decode cL_top 7 = .ok (.iadd, 1) := by decide +kernel
theorem dL_top_8 : decode cL_top 8 = .ok (.iaload, 1) := by decide +kernel
theorem dL_top_9 : decode cL_top 9 = .ok (.iadd, 1) := by decide +kernel
theorem dL_top_10 : decode cL_top 10 = .ok (.ireturn, 1) := by decide +kernel
theorem dL_meet_0 : decode cL_meet 0 = .ok (.iconst 1, 1) := by decide +kernel
theorem dL_meet_1 : decode cL_meet 1 = .ok (.istore 5, 2) := by decide +kernel
theorem dL_meet_3 : decode cL_meet 3 = .ok (.iload_n 1, 1) := by decide +kernel
theorem dL_meet_4 : decode cL_meet 4 = .ok (.iload_n 3, 1) := by decide +kernel
theorem dL_meet_5 : decode cL_meet 5 = .ok (.if_icmp .ge 9, 3) := by decide +kernel
theorem dL_meet_8 : decode cL_meet 8 = .ok (.iload_n 3, 1) := by decide +kernel
theorem dL_meet_9 : decode cL_meet 9 = .ok (.iload_n 1, 1) := by decide +kernel
theorem dL_meet_10 : decode cL_meet 10 = .ok (.isub, 1) := by decide +kernel
theorem dL_meet_11 : decode cL_meet 11 = .ok (.goto 6, 3) := by decide +kernel
theorem dL_meet_14 : decode cL_meet 14 = .ok (.iload_n 1, 1) := by decide +kernel
theorem dL_meet_15 : decode cL_meet 15 = .ok (.iload_n 3, 1) := by decide +kernel
theorem dL_meet_16 : decode cL_meet 16 = .ok (.isub, 1) := by decide +kernel
theorem dL_meet_17 : decode cL_meet 17 = .ok (.istore 6, 2) := by decide +kernel
theorem dL_meet_19 : decode cL_meet 19 = .ok (.iconst 1, 1) := by decide +kernel
theorem dL_meet_20 : decode cL_meet 20 = .ok (.istore 7, 2) := by decide +kernel
theorem dL_meet_22 : decode cL_meet 22 = .ok (.iload 7, 2) := by decide +kernel
theorem dL_meet_24 : decode cL_meet 24 = .ok (.iload 6, 2) := by decide +kernel
theorem dL_meet_26 : decode cL_meet 26 = .ok (.if_icmp .ge 77, 3) := by decide +kernel
theorem dL_meet_29 : decode cL_meet 29 = .ok (.iload_n 1, 1) := by decide +kernel
theorem dL_meet_30 : decode cL_meet 30 = .ok (.iload_n 3, 1) := by decide +kernel
theorem dL_meet_31 : decode cL_meet 31 = .ok (.if_icmp .ge 10, 3) := by decide +kernel
theorem dL_meet_34 : decode cL_meet 34 = .ok (.iload_n 1, 1) := by decide +kernel
theorem dL_meet_35 : decode cL_meet 35 = .ok (.iload 7, 2) := by decide +kernel
theorem dL_meet_37 : decode cL_meet 37 = .ok (.iadd, 1) := by decide +kernel
theorem dL_meet_38 : decode cL_meet 38 = .ok (.goto 7, 3) := by decide +kernel
theorem dL_meet_41 : decode cL_meet 41 = .ok (.iload_n 1, 1) := by decide +kernel
theorem dL_meet_42 : decode cL_meet 42 = .ok (.iload 7, 2) := by decide +kernel
theorem dL_meet_44 : decode cL_meet 44 = .ok (.isub, 1) := by decide +kernel
theorem dL_meet_45 : decode cL_meet 45 = .ok (.istore 8, 2) := by decide +kernel
theorem dL_meet_47 : decode cL_meet 47 = .ok (.iload 6, 2) := by decide +kernel
theorem dL_meet_49 : decode cL_meet 49 = .ok (.iload_n 2, 1) := by decide +kernel
theorem dL_meet_50 : decode cL_meet 50 = .ok (.imul, 1) := by decide +kernel
theorem dL_meet_51 : decode cL_meet 51 = .ok (.iload 4, 2) := by decide +kernel
theorem dL_meet_53 : decode cL_meet 53 = .ok (.iload_n 2, 1) := by decide +kernel
theorem dL_meet_54 : decode cL_meet 54 = .ok (.isub, 1) := by decide +kernel
theorem dL_meet_55 : decode cL_meet 55 = .ok (.iload 7, 2) := by decide +kernel
theorem dL_meet_57 : decode cL_meet 57 = .ok (.imul, 1) := by decide +kernel
theorem dL_meet_58 : decode cL_meet 58 = .ok (.iadd, 1) := by decide +kernel
theorem dL_meet_59 : decode cL_meet 59 = .ok (.istore 9, 2) := by decide +kernel
theorem dL_meet_61 : decode cL_meet 61 = .ok (.iload 5, 2) := by decide +kernel
theorem dL_meet_63 : decode cL_meet 63 = .ok (.iload 9, 2) := by decide +kernel
theorem dL_meet_65 : decode cL_meet 65 = .ok (.iload 6, 2) := by decide +kernel
theorem dL_meet_67 : decode cL_meet 67 = .ok (.aload_n 0, 1) := by decide +kernel
theorem dL_meet_68 : decode cL_meet 68 = .ok (.iload 8, 2) := by decide +kernel
theorem dL_meet_70 : decode cL_meet 70 = .ok (.iaload, 1) := by decide +kernel
theorem dL_meet_71 : decode cL_meet 71 = .ok (.aload_n 0, 1) := by decide +kernel
theorem dL_meet_72 : decode cL_meet 72 = .ok (.bipush 18, 2) := by decide +kernel
theorem dL_meet_74 : decode cL_meet 74 = .ok (.iaload, 1) := by decide +kernel
theorem dL_meet_75 : decode cL_meet 75 = .ok (.iload 7, 2) := by decide +kernel
theorem dL_meet_77 : decode cL_meet 77 = .ok (.imul, 1) := by decide +kernel
theorem dL_meet_78 : decode cL_meet 78 = .ok (.iload 6, 2) := by decide +kernel
theorem dL_meet_80 : decode cL_meet 80 = .ok (.iload 7, 2) := by decide +kernel
theorem dL_meet_82 : decode cL_meet 82 = .ok (.isub, 1) := by decide +kernel
theorem dL_meet_83 : decode cL_meet 83 = .ok (.imul, 1) := by decide +kernel
theorem dL_meet_84 : decode cL_meet 84 = .ok (.iadd, 1) := by decide +kernel
theorem dL_meet_85 : decode cL_meet 85 = .ok (.imul, 1) := by decide +kernel
theorem dL_meet_86 : decode cL_meet 86 = .ok (.if_icmp .lt 7, 3) := by decide +kernel
theorem dL_meet_89 : decode cL_meet 89 = .ok (.iconst 1, 1) := by decide +kernel
theorem dL_meet_90 : decode cL_meet 90 = .ok (.goto 4, 3) := by decide +kernel
theorem dL_meet_93 : decode cL_meet 93 = .ok (.iconst 0, 1) := by decide +kernel
theorem dL_meet_94 : decode cL_meet 94 = .ok (.iand, 1) := by decide +kernel
theorem dL_meet_95 : decode cL_meet 95 = .ok (.istore 5, 2) := by decide +kernel
theorem dL_meet_97 : decode cL_meet 97 = .ok (.iinc 7 1, 3) := by decide +kernel
theorem dL_meet_100 : decode cL_meet 100 = .ok (.goto (-78), 3) := by decide +kernel
theorem dL_meet_103 : decode cL_meet 103 = .ok (.iload 5, 2) := by decide +kernel
theorem dL_meet_105 : decode cL_meet 105 = .ok (.ireturn, 1) := by decide +kernel
theorem dL_sees_0 : decode cL_sees 0 = .ok (.aload_n 0, 1) := by decide +kernel
theorem dL_sees_1 : decode cL_sees 1 = .ok (.iload_n 1, 1) := by decide +kernel
theorem dL_sees_2 : decode cL_sees 2 = .ok (.aload_n 0, 1) := by decide +kernel
theorem dL_sees_3 : decode cL_sees 3 = .ok (.iload_n 1, 1) := by decide +kernel
theorem dL_sees_4 : decode cL_sees 4 = .ok (.invokestatic 9, 3) := by decide +kernel
theorem dL_sees_7 : decode cL_sees 7 = .ok (.iload_n 2, 1) := by decide +kernel
theorem dL_sees_8 : decode cL_sees 8 = .ok (.aload_n 0, 1) := by decide +kernel
theorem dL_sees_9 : decode cL_sees 9 = .ok (.iload_n 2, 1) := by decide +kernel
theorem dL_sees_10 : decode cL_sees 10 = .ok (.invokestatic 9, 3) := by decide +kernel
theorem dL_sees_13 : decode cL_sees 13 = .ok (.invokestatic 15, 3) := by decide +kernel
theorem dL_sees_16 : decode cL_sees 16 = .ok (.ireturn, 1) := by decide +kernel
theorem dL_contact_0 : decode cL_contact 0 = .ok (.iload_n 1, 1) := by decide +kernel
theorem dL_contact_1 : decode cL_contact 1 = .ok (.iload_n 2, 1) := by decide +kernel
theorem dL_contact_2 : decode cL_contact 2 = .ok (.if_icmp .ge 9, 3) := by decide +kernel
theorem dL_contact_5 : decode cL_contact 5 = .ok (.iload_n 2, 1) := by decide +kernel
theorem dL_contact_6 : decode cL_contact 6 = .ok (.iload_n 1, 1) := by decide +kernel
theorem dL_contact_7 : decode cL_contact 7 = .ok (.isub, 1) := by decide +kernel
theorem dL_contact_8 : decode cL_contact 8 = .ok (.goto 6, 3) := by decide +kernel
theorem dL_contact_11 : decode cL_contact 11 = .ok (.iload_n 1, 1) := by decide +kernel
theorem dL_contact_12 : decode cL_contact 12 = .ok (.iload_n 2, 1) := by decide +kernel
theorem dL_contact_13 : decode cL_contact 13 = .ok (.isub, 1) := by decide +kernel
theorem dL_contact_14 : decode cL_contact 14 = .ok (.istore_n 3, 1) := by decide +kernel
theorem dL_contact_15 : decode cL_contact 15 = .ok (.iload_n 3, 1) := by decide +kernel
theorem dL_contact_16 : decode cL_contact 16 = .ok (.ifCond .le 24, 3) := by decide +kernel
theorem dL_contact_19 : decode cL_contact 19 = .ok (.iload_n 3, 1) := by decide +kernel
theorem dL_contact_20 : decode cL_contact 20 = .ok (.aload_n 0, 1) := by decide +kernel
theorem dL_contact_21 : decode cL_contact 21 = .ok (.bipush 17, 2) := by decide +kernel
theorem dL_contact_23 : decode cL_contact 23 = .ok (.iaload, 1) := by decide +kernel
theorem dL_contact_24 : decode cL_contact 24 = .ok (.if_icmp .gt 16, 3) := by decide +kernel
theorem dL_contact_27 : decode cL_contact 27 = .ok (.aload_n 0, 1) := by decide +kernel
theorem dL_contact_28 : decode cL_contact 28 = .ok (.iload_n 1, 1) := by decide +kernel
theorem dL_contact_29 : decode cL_contact 29 = .ok (.iload_n 2, 1) := by decide +kernel
theorem dL_contact_30 : decode cL_contact 30 = .ok (.invokestatic 19, 3) := by decide +kernel
theorem dL_contact_33 : decode cL_contact 33 = .ok (.ifCond .eq 7, 3) := by decide +kernel
theorem dL_contact_36 : decode cL_contact 36 = .ok (.iconst 1, 1) := by decide +kernel
theorem dL_contact_37 : decode cL_contact 37 = .ok (.goto 4, 3) := by decide +kernel
theorem dL_contact_40 : decode cL_contact 40 = .ok (.iconst 0, 1) := by decide +kernel
theorem dL_contact_41 : decode cL_contact 41 = .ok (.ireturn, 1) := by decide +kernel
theorem dL_grows_0 : decode cL_grows 0 = .ok (.aload_n 2, 1) := by decide +kernel
theorem dL_grows_1 : decode cL_grows 1 = .ok (.iload_n 3, 1) := by decide +kernel
theorem dL_grows_2 : decode cL_grows 2 = .ok (.invokestatic 23, 3) := by decide +kernel
theorem dL_grows_5 : decode cL_grows 5 = .ok (.istore 5, 2) := by decide +kernel
theorem dL_grows_7 : decode cL_grows 7 = .ok (.aload_n 1, 1) := by decide +kernel
theorem dL_grows_8 : decode cL_grows 8 = .ok (.bipush 16, 2) := by decide +kernel
theorem dL_grows_10 : decode cL_grows 10 = .ok (.iconst 2, 1) := by decide +kernel
theorem dL_grows_11 : decode cL_grows 11 = .ok (.iload 5, 2) := by decide +kernel
theorem dL_grows_13 : decode cL_grows 13 = .ok (.iload 4, 2) := by decide +kernel
theorem dL_grows_15 : decode cL_grows 15 = .ok (.iconst 1, 1) := by decide +kernel
theorem dL_grows_16 : decode cL_grows 16 = .ok (.isub, 1) := by decide +kernel
theorem dL_grows_17 : decode cL_grows 17 = .ok (.invokestatic 26, 3) := by decide +kernel
theorem dL_grows_20 : decode cL_grows 20 = .ok (.iadd, 1) := by decide +kernel
theorem dL_grows_21 : decode cL_grows 21 = .ok (.iastore, 1) := by decide +kernel
theorem dL_grows_22 : decode cL_grows 22 = .ok (.aload_n 1, 1) := by decide +kernel
theorem dL_grows_23 : decode cL_grows 23 = .ok (.bipush 17, 2) := by decide +kernel
theorem dL_grows_25 : decode cL_grows 25 = .ok (.iload 5, 2) := by decide +kernel
theorem dL_grows_27 : decode cL_grows 27 = .ok (.iconst 4, 1) := by decide +kernel
theorem dL_grows_28 : decode cL_grows 28 = .ok (.ishr, 1) := by decide +kernel
theorem dL_grows_29 : decode cL_grows 29 = .ok (.iconst 3, 1) := by decide +kernel
theorem dL_grows_30 : decode cL_grows 30 = .ok (.invokestatic 26, 3) := by decide +kernel
theorem dL_grows_33 : decode cL_grows 33 = .ok (.ifCond .ne 17, 3) := by decide +kernel
theorem dL_grows_36 : decode cL_grows 36 = .ok (.iconst 1, 1) := by decide +kernel
theorem dL_grows_37 : decode cL_grows 37 = .ok (.iload 5, 2) := by decide +kernel
theorem dL_grows_39 : decode cL_grows 39 = .ok (.bipush 6, 2) := by decide +kernel
theorem dL_grows_41 : decode cL_grows 41 = .ok (.ishr, 1) := by decide +kernel
theorem dL_grows_42 : decode cL_grows 42 = .ok (.iconst 4, 1) := by decide +kernel
theorem dL_grows_43 : decode cL_grows 43 = .ok (.invokestatic 26, 3) := by decide +kernel
theorem dL_grows_46 : decode cL_grows 46 = .ok (.iadd, 1) := by decide +kernel
theorem dL_grows_47 : decode cL_grows 47 = .ok (.goto 5, 3) := by decide +kernel
theorem dL_grows_50 : decode cL_grows 50 = .ok (.bipush 19, 2) := by decide +kernel
theorem dL_grows_52 : decode cL_grows 52 = .ok (.iastore, 1) := by decide +kernel
theorem dL_grows_53 : decode cL_grows 53 = .ok (.aload_n 1, 1) := by decide +kernel
theorem dL_grows_54 : decode cL_grows 54 = .ok (.bipush 18, 2) := by decide +kernel
theorem dL_grows_56 : decode cL_grows 56 = .ok (.iload 5, 2) := by decide +kernel
theorem dL_grows_58 : decode cL_grows 58 = .ok (.bipush 9, 2) := by decide +kernel
theorem dL_grows_60 : decode cL_grows 60 = .ok (.ishr, 1) := by decide +kernel
theorem dL_grows_61 : decode cL_grows 61 = .ok (.iconst 3, 1) := by decide +kernel
theorem dL_grows_62 : decode cL_grows 62 = .ok (.invokestatic 26, 3) := by decide +kernel
theorem dL_grows_65 : decode cL_grows 65 = .ok (.ifCond .ne 16, 3) := by decide +kernel
theorem dL_grows_68 : decode cL_grows 68 = .ok (.iload 5, 2) := by decide +kernel
theorem dL_grows_70 : decode cL_grows 70 = .ok (.bipush 11, 2) := by decide +kernel
theorem dL_grows_72 : decode cL_grows 72 = .ok (.ishr, 1) := by decide +kernel
theorem dL_grows_73 : decode cL_grows 73 = .ok (.bipush 6, 2) := by decide +kernel
theorem dL_grows_75 : decode cL_grows 75 = .ok (.invokestatic 26, 3) := by decide +kernel
theorem dL_grows_78 : decode cL_grows 78 = .ok (.goto 4, 3) := by decide +kernel
theorem dL_grows_81 : decode cL_grows 81 = .ok (.iconst 0, 1) := by decide +kernel
theorem dL_grows_82 : decode cL_grows 82 = .ok (.iastore, 1) := by decide +kernel
theorem dL_grows_83 : decode cL_grows 83 = .ok (.aload_n 0, 1) := by decide +kernel
theorem dL_grows_84 : decode cL_grows 84 = .ok (.aload_n 1, 1) := by decide +kernel
theorem dL_grows_85 : decode cL_grows 85 = .ok (.bipush 16, 2) := by decide +kernel
theorem dL_grows_87 : decode cL_grows 87 = .ok (.iaload, 1) := by decide +kernel
theorem dL_grows_88 : decode cL_grows 88 = .ok (.bipush 50, 2) := by decide +kernel
theorem dL_grows_90 : decode cL_grows 90 = .ok (.invokevirtual 30, 3) := by decide +kernel
theorem dL_grows_93 : decode cL_grows 93 = .ok (.aload_n 1, 1) := by decide +kernel
theorem dL_grows_94 : decode cL_grows 94 = .ok (.bipush 16, 2) := by decide +kernel
theorem dL_grows_96 : decode cL_grows 96 = .ok (.iaload, 1) := by decide +kernel
theorem dL_grows_97 : decode cL_grows 97 = .ok (.if_icmp .ne 27, 3) := by decide +kernel
theorem dL_grows_100 : decode cL_grows 100 = .ok (.aload_n 0, 1) := by decide +kernel
theorem dL_grows_101 : decode cL_grows 101 = .ok (.aload_n 1, 1) := by decide +kernel
theorem dL_grows_102 : decode cL_grows 102 = .ok (.bipush 17, 2) := by decide +kernel
theorem dL_grows_104 : decode cL_grows 104 = .ok (.iaload, 1) := by decide +kernel
theorem dL_grows_105 : decode cL_grows 105 = .ok (.invokevirtual 35, 3) := by decide +kernel
theorem dL_grows_108 : decode cL_grows 108 = .ok (.bipush 19, 2) := by decide +kernel
theorem dL_grows_110 : decode cL_grows 110 = .ok (.if_icmp .ne 14, 3) := by decide +kernel
theorem dL_grows_113 : decode cL_grows 113 = .ok (.aload_n 0, 1) := by decide +kernel
theorem dL_grows_114 : decode cL_grows 114 = .ok (.aload_n 1, 1) := by decide +kernel
theorem dL_grows_115 : decode cL_grows 115 = .ok (.bipush 18, 2) := by decide +kernel
theorem dL_grows_117 : decode cL_grows 117 = .ok (.iaload, 1) := by decide +kernel
theorem dL_grows_118 : decode cL_grows 118 = .ok (.invokevirtual 39, 3) := by decide +kernel
theorem dL_grows_121 : decode cL_grows 121 = .ok (.ifCond .eq 5, 3) := by decide +kernel
theorem dL_grows_124 : decode cL_grows 124 = .ok (.iconst 0, 1) := by decide +kernel
theorem dL_grows_125 : decode cL_grows 125 = .ok (.ireturn, 1) := by decide +kernel
theorem dL_grows_126 : decode cL_grows 126 = .ok (.iconst 0, 1) := by decide +kernel
theorem dL_grows_127 : decode cL_grows 127 = .ok (.istore 6, 2) := by decide +kernel
theorem dL_grows_129 : decode cL_grows 129 = .ok (.iload 6, 2) := by decide +kernel
theorem dL_grows_131 : decode cL_grows 131 = .ok (.aload_n 1, 1) := by decide +kernel
theorem dL_grows_132 : decode cL_grows 132 = .ok (.bipush 16, 2) := by decide +kernel
theorem dL_grows_134 : decode cL_grows 134 = .ok (.iaload, 1) := by decide +kernel
theorem dL_grows_135 : decode cL_grows 135 = .ok (.if_icmp .ge 118, 3) := by decide +kernel
theorem dL_grows_138 : decode cL_grows 138 = .ok (.aload_n 2, 1) := by decide +kernel
theorem dL_grows_139 : decode cL_grows 139 = .ok (.iload_n 3, 1) := by decide +kernel
theorem dL_grows_140 : decode cL_grows 140 = .ok (.iconst 1, 1) := by decide +kernel
theorem dL_grows_141 : decode cL_grows 141 = .ok (.iadd, 1) := by decide +kernel
theorem dL_grows_142 : decode cL_grows 142 = .ok (.iload 6, 2) := by decide +kernel
theorem dL_grows_144 : decode cL_grows 144 = .ok (.iadd, 1) := by decide +kernel
theorem dL_grows_145 : decode cL_grows 145 = .ok (.invokestatic 23, 3) := by decide +kernel
theorem dL_grows_148 : decode cL_grows 148 = .ok (.istore 7, 2) := by decide +kernel
theorem dL_grows_150 : decode cL_grows 150 = .ok (.aload_n 1, 1) := by decide +kernel
theorem dL_grows_151 : decode cL_grows 151 = .ok (.iload 6, 2) := by decide +kernel
theorem dL_grows_153 : decode cL_grows 153 = .ok (.iload 7, 2) := by decide +kernel
theorem dL_grows_155 : decode cL_grows 155 = .ok (.iload 7, 2) := by decide +kernel
theorem dL_grows_157 : decode cL_grows 157 = .ok (.bipush 20, 2) := by decide +kernel
theorem dL_grows_159 : decode cL_grows 159 = .ok (.ishr, 1) := by decide +kernel
theorem dL_grows_160 : decode cL_grows 160 = .ok (.iconst 3, 1) := by decide +kernel
theorem dL_grows_161 : decode cL_grows 161 = .ok (.invokestatic 26, 3) := by decide +kernel
theorem dL_grows_164 : decode cL_grows 164 = .ok (.ifCond .ne 9, 3) := by decide +kernel
theorem dL_grows_167 : decode cL_grows 167 = .ok (.sipush 300, 3) := by decide +kernel
theorem dL_grows_170 : decode cL_grows 170 = .ok (.goto 5, 3) := by decide +kernel
theorem dL_grows_173 : decode cL_grows 173 = .ok (.bipush 60, 2) := by decide +kernel
theorem dL_grows_175 : decode cL_grows 175 = .ok (.invokestatic 26, 3) := by decide +kernel
theorem dL_grows_178 : decode cL_grows 178 = .ok (.iastore, 1) := by decide +kernel
theorem dL_grows_179 : decode cL_grows 179 = .ok (.aload_n 1, 1) := by decide +kernel
theorem dL_grows_180 : decode cL_grows 180 = .ok (.bipush 8, 2) := by decide +kernel
theorem dL_grows_182 : decode cL_grows 182 = .ok (.iload 6, 2) := by decide +kernel
theorem dL_grows_184 : decode cL_grows 184 = .ok (.iadd, 1) := by decide +kernel
theorem dL_grows_185 : decode cL_grows 185 = .ok (.iload 7, 2) := by decide +kernel
theorem dL_grows_187 : decode cL_grows 187 = .ok (.bipush 10, 2) := by decide +kernel
theorem dL_grows_189 : decode cL_grows 189 = .ok (.ishr, 1) := by decide +kernel
theorem dL_grows_190 : decode cL_grows 190 = .ok (.iconst 3, 1) := by decide +kernel
theorem dL_grows_191 : decode cL_grows 191 = .ok (.invokestatic 26, 3) := by decide +kernel
theorem dL_grows_194 : decode cL_grows 194 = .ok (.ifCond .ne 7, 3) := by decide +kernel
theorem dL_grows_197 : decode cL_grows 197 = .ok (.iconst 0, 1) := by decide +kernel
theorem dL_grows_198 : decode cL_grows 198 = .ok (.goto 15, 3) := by decide +kernel
theorem dL_grows_201 : decode cL_grows 201 = .ok (.iconst 1, 1) := by decide +kernel
theorem dL_grows_202 : decode cL_grows 202 = .ok (.iload 7, 2) := by decide +kernel
theorem dL_grows_204 : decode cL_grows 204 = .ok (.bipush 12, 2) := by decide +kernel
theorem dL_grows_206 : decode cL_grows 206 = .ok (.ishr, 1) := by decide +kernel
theorem dL_grows_207 : decode cL_grows 207 = .ok (.bipush 80, 2) := by decide +kernel
theorem dL_grows_209 : decode cL_grows 209 = .ok (.invokestatic 26, 3) := by decide +kernel
theorem dL_grows_212 : decode cL_grows 212 = .ok (.iadd, 1) := by decide +kernel
theorem dL_grows_213 : decode cL_grows 213 = .ok (.iastore, 1) := by decide +kernel
theorem dL_grows_214 : decode cL_grows 214 = .ok (.aload_n 0, 1) := by decide +kernel
theorem dL_grows_215 : decode cL_grows 215 = .ok (.iload 6, 2) := by decide +kernel
theorem dL_grows_217 : decode cL_grows 217 = .ok (.aload_n 1, 1) := by decide +kernel
theorem dL_grows_218 : decode cL_grows 218 = .ok (.iload 6, 2) := by decide +kernel
theorem dL_grows_220 : decode cL_grows 220 = .ok (.iaload, 1) := by decide +kernel
theorem dL_grows_221 : decode cL_grows 221 = .ok (.invokevirtual 42, 3) := by decide +kernel
theorem dL_grows_224 : decode cL_grows 224 = .ok (.bipush 50, 2) := by decide +kernel
theorem dL_grows_226 : decode cL_grows 226 = .ok (.if_icmp .ne 19, 3) := by decide +kernel
theorem dL_grows_229 : decode cL_grows 229 = .ok (.aload_n 0, 1) := by decide +kernel
theorem dL_grows_230 : decode cL_grows 230 = .ok (.iload 6, 2) := by decide +kernel
theorem dL_grows_232 : decode cL_grows 232 = .ok (.aload_n 1, 1) := by decide +kernel
theorem dL_grows_233 : decode cL_grows 233 = .ok (.bipush 8, 2) := by decide +kernel
theorem dL_grows_235 : decode cL_grows 235 = .ok (.iload 6, 2) := by decide +kernel
theorem dL_grows_237 : decode cL_grows 237 = .ok (.iadd, 1) := by decide +kernel
theorem dL_grows_238 : decode cL_grows 238 = .ok (.iaload, 1) := by decide +kernel
theorem dL_grows_239 : decode cL_grows 239 = .ok (.invokevirtual 45, 3) := by decide +kernel
theorem dL_grows_242 : decode cL_grows 242 = .ok (.ifCond .eq 5, 3) := by decide +kernel
theorem dL_grows_245 : decode cL_grows 245 = .ok (.iconst 0, 1) := by decide +kernel
theorem dL_grows_246 : decode cL_grows 246 = .ok (.ireturn, 1) := by decide +kernel
theorem dL_grows_247 : decode cL_grows 247 = .ok (.iinc 6 1, 3) := by decide +kernel
