theorem dL_grows_250 : decode cL_grows 250 = .ok (.goto (-121), 3) := by decide +kernel
theorem dL_grows_253 : decode cL_grows 253 = .ok (.aload_n 0, 1) := by decide +kernel
theorem dL_grows_254 : decode cL_grows 254 = .ok (.iconst 0, 1) := by decide +kernel
theorem dL_grows_255 : decode cL_grows 255 = .ok (.invokevirtual 48, 3) := by decide +kernel
theorem dL_grows_258 : decode cL_grows 258 = .ok (.aload_n 1, 1) := by decide +kernel
theorem dL_grows_259 : decode cL_grows 259 = .ok (.bipush 16, 2) := by decide +kernel
theorem dL_grows_261 : decode cL_grows 261 = .ok (.iaload, 1) := by decide +kernel
theorem dL_grows_262 : decode cL_grows 262 = .ok (.if_icmp .ne 7, 3) := by decide +kernel
theorem dL_grows_265 : decode cL_grows 265 = .ok (.iconst 1, 1) := by decide +kernel
theorem dL_grows_266 : decode cL_grows 266 = .ok (.goto 4, 3) := by decide +kernel
theorem dL_grows_269 : decode cL_grows 269 = .ok (.iconst 0, 1) := by decide +kernel
theorem dL_grows_270 : decode cL_grows 270 = .ok (.ireturn, 1) := by decide +kernel
theorem dL_grounds_0 : decode cL_grounds 0 = .ok (.iconst 0, 1) := by decide +kernel
theorem dL_grounds_1 : decode cL_grounds 1 = .ok (.istore_n 2, 1) := by decide +kernel
theorem dL_grounds_2 : decode cL_grounds 2 = .ok (.iconst 0, 1) := by decide +kernel
theorem dL_grounds_3 : decode cL_grounds 3 = .ok (.istore_n 3, 1) := by decide +kernel
theorem dL_grounds_4 : decode cL_grounds 4 = .ok (.iload_n 3, 1) := by decide +kernel
theorem dL_grounds_5 : decode cL_grounds 5 = .ok (.aload_n 0, 1) := by decide +kernel
theorem dL_grounds_6 : decode cL_grounds 6 = .ok (.bipush 16, 2) := by decide +kernel
theorem dL_grounds_8 : decode cL_grounds 8 = .ok (.iaload, 1) := by decide +kernel
theorem dL_grounds_9 : decode cL_grounds 9 = .ok (.if_icmp .ge 41, 3) := by decide +kernel
theorem dL_grounds_12 : decode cL_grounds 12 = .ok (.iload_n 2, 1) := by decide +kernel
theorem dL_grounds_13 : decode cL_grounds 13 = .ok (.iload_n 1, 1) := by decide +kernel
theorem dL_grounds_14 : decode cL_grounds 14 = .ok (.iload_n 3, 1) := by decide +kernel
theorem dL_grounds_15 : decode cL_grounds 15 = .ok (.if_icmp .eq 20, 3) := by decide +kernel
theorem dL_grounds_18 : decode cL_grounds 18 = .ok (.aload_n 0, 1) := by decide +kernel
theorem dL_grounds_19 : decode cL_grounds 19 = .ok (.iload_n 1, 1) := by decide +kernel
theorem dL_grounds_20 : decode cL_grounds 20 = .ok (.aload_n 0, 1) := by decide +kernel
theorem dL_grounds_21 : decode cL_grounds 21 = .ok (.iload_n 1, 1) := by decide +kernel
theorem dL_grounds_22 : decode cL_grounds 22 = .ok (.invokestatic 9, 3) := by decide +kernel
theorem dL_grounds_25 : decode cL_grounds 25 = .ok (.iload_n 3, 1) := by decide +kernel
theorem dL_grounds_26 : decode cL_grounds 26 = .ok (.aload_n 0, 1) := by decide +kernel
theorem dL_grounds_27 : decode cL_grounds 27 = .ok (.iload_n 3, 1) := by decide +kernel
theorem dL_grounds_28 : decode cL_grounds 28 = .ok (.iaload, 1) := by decide +kernel
theorem dL_grounds_29 : decode cL_grounds 29 = .ok (.invokestatic 15, 3) := by decide +kernel
theorem dL_grounds_32 : decode cL_grounds 32 = .ok (.ifCond .eq 9, 3) := by decide +kernel
theorem dL_grounds_35 : decode cL_grounds 35 = .ok (.iconst 1, 1) := by decide +kernel
theorem dL_grounds_36 : decode cL_grounds 36 = .ok (.iload_n 3, 1) := by decide +kernel
theorem dL_grounds_37 : decode cL_grounds 37 = .ok (.ishl, 1) := by decide +kernel
theorem dL_grounds_38 : decode cL_grounds 38 = .ok (.goto 4, 3) := by decide +kernel
theorem dL_grounds_41 : decode cL_grounds 41 = .ok (.iconst 0, 1) := by decide +kernel
theorem dL_grounds_42 : decode cL_grounds 42 = .ok (.ior, 1) := by decide +kernel
theorem dL_grounds_43 : decode cL_grounds 43 = .ok (.istore_n 2, 1) := by decide +kernel
theorem dL_grounds_44 : decode cL_grounds 44 = .ok (.iinc 3 1, 3) := by decide +kernel
theorem dL_grounds_47 : decode cL_grounds 47 = .ok (.goto (-43), 3) := by decide +kernel
theorem dL_grounds_50 : decode cL_grounds 50 = .ok (.iload_n 2, 1) := by decide +kernel
theorem dL_grounds_51 : decode cL_grounds 51 = .ok (.ireturn, 1) := by decide +kernel
theorem dL_isObstacle_0 : decode cL_isObstacle 0 = .ok (.iload_n 2, 1) := by decide +kernel
theorem dL_isObstacle_1 : decode cL_isObstacle 1 = .ok (.iload_n 3, 1) := by decide +kernel
theorem dL_isObstacle_2 : decode cL_isObstacle 2 = .ok (.if_icmp .ne 21, 3) := by decide +kernel
theorem dL_isObstacle_5 : decode cL_isObstacle 5 = .ok (.aload_n 0, 1) := by decide +kernel
theorem dL_isObstacle_6 : decode cL_isObstacle 6 = .ok (.iload_n 2, 1) := by decide +kernel
theorem dL_isObstacle_7 : decode cL_isObstacle 7 = .ok (.iload_n 3, 1) := by decide +kernel
theorem dL_isObstacle_8 : decode cL_isObstacle 8 = .ok (.iconst 0, 1) := by decide +kernel
theorem dL_isObstacle_9 : decode cL_isObstacle 9 = .ok (.invokevirtual 51, 3) := by decide +kernel
theorem dL_isObstacle_12 : decode cL_isObstacle 12 = .ok (.bipush (-2), 2) := by decide +kernel
theorem dL_isObstacle_14 : decode cL_isObstacle 14 = .ok (.if_icmp .ne 7, 3) := by decide +kernel
theorem dL_isObstacle_17 : decode cL_isObstacle 17 = .ok (.iconst 1, 1) := by decide +kernel
theorem dL_isObstacle_18 : decode cL_isObstacle 18 = .ok (.goto 4, 3) := by decide +kernel
theorem dL_isObstacle_21 : decode cL_isObstacle 21 = .ok (.iconst 0, 1) := by decide +kernel
theorem dL_isObstacle_22 : decode cL_isObstacle 22 = .ok (.ireturn, 1) := by decide +kernel
theorem dL_isObstacle_23 : decode cL_isObstacle 23 = .ok (.iload_n 2, 1) := by decide +kernel
theorem dL_isObstacle_24 : decode cL_isObstacle 24 = .ok (.iload_n 3, 1) := by decide +kernel
theorem dL_isObstacle_25 : decode cL_isObstacle 25 = .ok (.if_icmp .ge 9, 3) := by decide +kernel
theorem dL_isObstacle_28 : decode cL_isObstacle 28 = .ok (.iload_n 3, 1) := by decide +kernel
theorem dL_isObstacle_29 : decode cL_isObstacle 29 = .ok (.iload_n 2, 1) := by decide +kernel
theorem dL_isObstacle_30 : decode cL_isObstacle 30 = .ok (.isub, 1) := by decide +kernel
theorem dL_isObstacle_31 : decode cL_isObstacle 31 = .ok (.goto 6, 3) := by decide +kernel
theorem dL_isObstacle_34 : decode cL_isObstacle 34 = .ok (.iload_n 2, 1) := by decide +kernel
theorem dL_isObstacle_35 : decode cL_isObstacle 35 = .ok (.iload_n 3, 1) := by decide +kernel
theorem dL_isObstacle_36 : decode cL_isObstacle 36 = .ok (.isub, 1) := by decide +kernel
theorem dL_isObstacle_37 : decode cL_isObstacle 37 = .ok (.istore 4, 2) := by decide +kernel
theorem dL_isObstacle_39 : decode cL_isObstacle 39 = .ok (.iconst (-1), 1) := by decide +kernel
theorem dL_isObstacle_40 : decode cL_isObstacle 40 = .ok (.istore 5, 2) := by decide +kernel
theorem dL_isObstacle_42 : decode cL_isObstacle 42 = .ok (.iconst 0, 1) := by decide +kernel
theorem dL_isObstacle_43 : decode cL_isObstacle 43 = .ok (.istore 6, 2) := by decide +kernel
theorem dL_isObstacle_45 : decode cL_isObstacle 45 = .ok (.aload_n 1, 1) := by decide +kernel
theorem dL_isObstacle_46 : decode cL_isObstacle 46 = .ok (.bipush 16, 2) := by decide +kernel
theorem dL_isObstacle_48 : decode cL_isObstacle 48 = .ok (.iaload, 1) := by decide +kernel
theorem dL_isObstacle_49 : decode cL_isObstacle 49 = .ok (.iconst 1, 1) := by decide +kernel
theorem dL_isObstacle_50 : decode cL_isObstacle 50 = .ok (.isub, 1) := by decide +kernel
theorem dL_isObstacle_51 : decode cL_isObstacle 51 = .ok (.istore 7, 2) := by decide +kernel
theorem dL_isObstacle_53 : decode cL_isObstacle 53 = .ok (.iload 7, 2) := by decide +kernel
theorem dL_isObstacle_55 : decode cL_isObstacle 55 = .ok (.ifCond .lt 158, 3) := by decide +kernel
theorem dL_isObstacle_58 : decode cL_isObstacle 58 = .ok (.iload 7, 2) := by decide +kernel
theorem dL_isObstacle_60 : decode cL_isObstacle 60 = .ok (.iload_n 2, 1) := by decide +kernel
theorem dL_isObstacle_61 : decode cL_isObstacle 61 = .ok (.if_icmp .le 9, 3) := by decide +kernel
theorem dL_isObstacle_64 : decode cL_isObstacle 64 = .ok (.iload 7, 2) := by decide +kernel
theorem dL_isObstacle_66 : decode cL_isObstacle 66 = .ok (.iload_n 3, 1) := by decide +kernel
theorem dL_isObstacle_67 : decode cL_isObstacle 67 = .ok (.if_icmp .lt 15, 3) := by decide +kernel
theorem dL_isObstacle_70 : decode cL_isObstacle 70 = .ok (.iload 7, 2) := by decide +kernel
theorem dL_isObstacle_72 : decode cL_isObstacle 72 = .ok (.iload_n 3, 1) := by decide +kernel
theorem dL_isObstacle_73 : decode cL_isObstacle 73 = .ok (.if_icmp .le 13, 3) := by decide +kernel
theorem dL_isObstacle_76 : decode cL_isObstacle 76 = .ok (.iload 7, 2) := by decide +kernel
theorem dL_isObstacle_78 : decode cL_isObstacle 78 = .ok (.iload_n 2, 1) := by decide +kernel
theorem dL_isObstacle_79 : decode cL_isObstacle 79 = .ok (.if_icmp .ge 7, 3) := by decide +kernel
theorem dL_isObstacle_82 : decode cL_isObstacle 82 = .ok (.iconst 1, 1) := by decide +kernel
theorem dL_isObstacle_83 : decode cL_isObstacle 83 = .ok (.goto 4, 3) := by decide +kernel
theorem dL_isObstacle_86 : decode cL_isObstacle 86 = .ok (.iconst 0, 1) := by decide +kernel
theorem dL_isObstacle_87 : decode cL_isObstacle 87 = .ok (.istore 8, 2) := by decide +kernel
theorem dL_isObstacle_89 : decode cL_isObstacle 89 = .ok (.iload_n 2, 1) := by decide +kernel
theorem dL_isObstacle_90 : decode cL_isObstacle 90 = .ok (.iload 7, 2) := by decide +kernel
theorem dL_isObstacle_92 : decode cL_isObstacle 92 = .ok (.if_icmp .ge 10, 3) := by decide +kernel
theorem dL_isObstacle_95 : decode cL_isObstacle 95 = .ok (.iload 7, 2) := by decide +kernel
theorem dL_isObstacle_97 : decode cL_isObstacle 97 = .ok (.iload_n 2, 1) := by decide +kernel
theorem dL_isObstacle_98 : decode cL_isObstacle 98 = .ok (.isub, 1) := by decide +kernel
theorem dL_isObstacle_99 : decode cL_isObstacle 99 = .ok (.goto 7, 3) := by decide +kernel
theorem dL_isObstacle_102 : decode cL_isObstacle 102 = .ok (.iload_n 2, 1) := by decide +kernel
theorem dL_isObstacle_103 : decode cL_isObstacle 103 = .ok (.iload 7, 2) := by decide +kernel
theorem dL_isObstacle_105 : decode cL_isObstacle 105 = .ok (.isub, 1) := by decide +kernel
theorem dL_isObstacle_106 : decode cL_isObstacle 106 = .ok (.istore 9, 2) := by decide +kernel
theorem dL_isObstacle_108 : decode cL_isObstacle 108 = .ok (.iload 4, 2) := by decide +kernel
theorem dL_isObstacle_110 : decode cL_isObstacle 110 = .ok (.aload_n 1, 1) := by decide +kernel
theorem dL_isObstacle_111 : decode cL_isObstacle 111 = .ok (.iload_n 2, 1) := by decide +kernel
theorem dL_isObstacle_112 : decode cL_isObstacle 112 = .ok (.invokestatic 9, 3) := by decide +kernel
theorem dL_isObstacle_115 : decode cL_isObstacle 115 = .ok (.imul, 1) := by decide +kernel
theorem dL_isObstacle_116 : decode cL_isObstacle 116 = .ok (.aload_n 1, 1) := by decide +kernel
theorem dL_isObstacle_117 : decode cL_isObstacle 117 = .ok (.iload_n 3, 1) := by decide +kernel
theorem dL_isObstacle_118 : decode cL_isObstacle 118 = .ok (.invokestatic 9, 3) := by decide +kernel
theorem dL_isObstacle_121 : decode cL_isObstacle 121 = .ok (.aload_n 1, 1) := by decide +kernel
theorem dL_isObstacle_122 : decode cL_isObstacle 122 = .ok (.iload_n 2, 1) := by decide +kernel
theorem dL_isObstacle_123 : decode cL_isObstacle 123 = .ok (.invokestatic 9, 3) := by decide +kernel
theorem dL_isObstacle_126 : decode cL_isObstacle 126 = .ok (.isub, 1) := by decide +kernel
theorem dL_isObstacle_127 : decode cL_isObstacle 127 = .ok (.iload 9, 2) := by decide +kernel
theorem dL_isObstacle_129 : decode cL_isObstacle 129 = .ok (.imul, 1) := by decide +kernel
theorem dL_isObstacle_130 : decode cL_isObstacle 130 = .ok (.iadd, 1) := by decide +kernel
theorem dL_isObstacle_131 : decode cL_isObstacle 131 = .ok (.iload 4, 2) := by decide +kernel
theorem dL_isObstacle_133 : decode cL_isObstacle 133 = .ok (.aload_n 1, 1) := by decide +kernel
theorem dL_isObstacle_134 : decode cL_isObstacle 134 = .ok (.iload 7, 2) := by decide +kernel
theorem dL_isObstacle_136 : decode cL_isObstacle 136 = .ok (.iaload, 1) := by decide +kernel
theorem dL_isObstacle_137 : decode cL_isObstacle 137 = .ok (.aload_n 1, 1) := by decide +kernel
theorem dL_isObstacle_138 : decode cL_isObstacle 138 = .ok (.bipush 18, 2) := by decide +kernel
theorem dL_isObstacle_140 : decode cL_isObstacle 140 = .ok (.iaload, 1) := by decide +kernel
theorem dL_isObstacle_141 : decode cL_isObstacle 141 = .ok (.iload 9, 2) := by decide +kernel
theorem dL_isObstacle_143 : decode cL_isObstacle 143 = .ok (.imul, 1) := by decide +kernel
theorem dL_isObstacle_144 : decode cL_isObstacle 144 = .ok (.iload 4, 2) := by decide +kernel
theorem dL_isObstacle_146 : decode cL_isObstacle 146 = .ok (.iload 9, 2) := by decide +kernel
theorem dL_isObstacle_148 : decode cL_isObstacle 148 = .ok (.isub, 1) := by decide +kernel
theorem dL_isObstacle_149 : decode cL_isObstacle 149 = .ok (.imul, 1) := by decide +kernel
theorem dL_isObstacle_150 : decode cL_isObstacle 150 = .ok (.iadd, 1) := by decide +kernel
theorem dL_isObstacle_151 : decode cL_isObstacle 151 = .ok (.imul, 1) := by decide +kernel
theorem dL_isObstacle_152 : decode cL_isObstacle 152 = .ok (.isub, 1) := by decide +kernel
theorem dL_isObstacle_153 : decode cL_isObstacle 153 = .ok (.istore 10, 2) := by decide +kernel
theorem dL_isObstacle_155 : decode cL_isObstacle 155 = .ok (.iload 8, 2) := by decide +kernel
theorem dL_isObstacle_157 : decode cL_isObstacle 157 = .ok (.ifCond .eq 19, 3) := by decide +kernel
theorem dL_isObstacle_160 : decode cL_isObstacle 160 = .ok (.iload 5, 2) := by decide +kernel
theorem dL_isObstacle_162 : decode cL_isObstacle 162 = .ok (.ifCond .lt 10, 3) := by decide +kernel
theorem dL_isObstacle_165 : decode cL_isObstacle 165 = .ok (.iload 10, 2) := by decide +kernel
theorem dL_isObstacle_167 : decode cL_isObstacle 167 = .ok (.iload 6, 2) := by decide +kernel
theorem dL_isObstacle_169 : decode cL_isObstacle 169 = .ok (.if_icmp .gt 7, 3) := by decide +kernel
theorem dL_isObstacle_172 : decode cL_isObstacle 172 = .ok (.iconst 1, 1) := by decide +kernel
theorem dL_isObstacle_173 : decode cL_isObstacle 173 = .ok (.goto 4, 3) := by decide +kernel
theorem dL_isObstacle_176 : decode cL_isObstacle 176 = .ok (.iconst 0, 1) := by decide +kernel
theorem dL_isObstacle_177 : decode cL_isObstacle 177 = .ok (.istore 11, 2) := by decide +kernel
theorem dL_isObstacle_179 : decode cL_isObstacle 179 = .ok (.iload 11, 2) := by decide +kernel
theorem dL_isObstacle_181 : decode cL_isObstacle 181 = .ok (.ifCond .eq 8, 3) := by decide +kernel
theorem dL_isObstacle_184 : decode cL_isObstacle 184 = .ok (.iload 7, 2) := by decide +kernel
theorem dL_isObstacle_186 : decode cL_isObstacle 186 = .ok (.goto 5, 3) := by decide +kernel
theorem dL_isObstacle_189 : decode cL_isObstacle 189 = .ok (.iload 5, 2) := by decide +kernel
theorem dL_isObstacle_191 : decode cL_isObstacle 191 = .ok (.istore 5, 2) := by decide +kernel
theorem dL_isObstacle_193 : decode cL_isObstacle 193 = .ok (.iload 11, 2) := by decide +kernel
theorem dL_isObstacle_195 : decode cL_isObstacle 195 = .ok (.ifCond .eq 8, 3) := by decide +kernel
theorem dL_isObstacle_198 : decode cL_isObstacle 198 = .ok (.iload 10, 2) := by decide +kernel
theorem dL_isObstacle_200 : decode cL_isObstacle 200 = .ok (.goto 5, 3) := by decide +kernel
theorem dL_isObstacle_203 : decode cL_isObstacle 203 = .ok (.iload 6, 2) := by decide +kernel
theorem dL_isObstacle_205 : decode cL_isObstacle 205 = .ok (.istore 6, 2) := by decide +kernel
theorem dL_isObstacle_207 : decode cL_isObstacle 207 = .ok (.iinc 7 (-1), 3) := by decide +kernel
theorem dL_isObstacle_210 : decode cL_isObstacle 210 = .ok (.goto (-157), 3) := by decide +kernel
theorem dL_isObstacle_213 : decode cL_isObstacle 213 = .ok (.aload_n 0, 1) := by decide +kernel
theorem dL_isObstacle_214 : decode cL_isObstacle 214 = .ok (.iload_n 2, 1) := by decide +kernel
theorem dL_isObstacle_215 : decode cL_isObstacle 215 = .ok (.iload_n 3, 1) := by decide +kernel
theorem dL_isObstacle_216 : decode cL_isObstacle 216 = .ok (.iconst 0, 1) := by decide +kernel
theorem dL_isObstacle_217 : decode cL_isObstacle 217 = .ok (.invokevirtual 51, 3) := by decide +kernel
theorem dL_isObstacle_220 : decode cL_isObstacle 220 = .ok (.iload 5, 2) := by decide +kernel
theorem dL_isObstacle_222 : decode cL_isObstacle 222 = .ok (.if_icmp .ne 40, 3) := by decide +kernel
theorem dL_isObstacle_225 : decode cL_isObstacle 225 = .ok (.aload_n 0, 1) := by decide +kernel
theorem dL_isObstacle_226 : decode cL_isObstacle 226 = .ok (.iload_n 2, 1) := by decide +kernel
theorem dL_isObstacle_227 : decode cL_isObstacle 227 = .ok (.iload_n 3, 1) := by decide +kernel
theorem dL_isObstacle_228 : decode cL_isObstacle 228 = .ok (.iconst 1, 1) := by decide +kernel
theorem dL_isObstacle_229 : decode cL_isObstacle 229 = .ok (.invokevirtual 51, 3) := by decide +kernel
theorem dL_isObstacle_232 : decode cL_isObstacle 232 = .ok (.iload 5, 2) := by decide +kernel
theorem dL_isObstacle_234 : decode cL_isObstacle 234 = .ok (.ifCond .ge 7, 3) := by decide +kernel
theorem dL_isObstacle_237 : decode cL_isObstacle 237 = .ok (.iconst (-1), 1) := by decide +kernel
theorem dL_isObstacle_238 : decode cL_isObstacle 238 = .ok (.goto 5, 3) := by decide +kernel
theorem dL_isObstacle_241 : decode cL_isObstacle 241 = .ok (.iload 6, 2) := by decide +kernel
theorem dL_isObstacle_243 : decode cL_isObstacle 243 = .ok (.if_icmp .ne 19, 3) := by decide +kernel
theorem dL_isObstacle_246 : decode cL_isObstacle 246 = .ok (.aload_n 0, 1) := by decide +kernel
theorem dL_isObstacle_247 : decode cL_isObstacle 247 = .ok (.iload_n 2, 1) := by decide +kernel
theorem dL_isObstacle_248 : decode cL_isObstacle 248 = .ok (.iload_n 3, 1) := by decide +kernel
theorem dL_isObstacle_249 : decode cL_isObstacle 249 = .ok (.iconst 2, 1) := by decide +kernel
theorem dL_isObstacle_250 : decode cL_isObstacle 250 = .ok (.invokevirtual 51, 3) := by decide +kernel
theorem dL_isObstacle_253 : decode cL_isObstacle 253 = .ok (.bipush (-2), 2) := by decide +kernel
theorem dL_isObstacle_255 : decode cL_isObstacle 255 = .ok (.if_icmp .ne 7, 3) := by decide +kernel
theorem dL_isObstacle_258 : decode cL_isObstacle 258 = .ok (.iconst 1, 1) := by decide +kernel
theorem dL_isObstacle_259 : decode cL_isObstacle 259 = .ok (.goto 4, 3) := by decide +kernel
theorem dL_isObstacle_262 : decode cL_isObstacle 262 = .ok (.iconst 0, 1) := by decide +kernel
theorem dL_isObstacle_263 : decode cL_isObstacle 263 = .ok (.istore 7, 2) := by decide +kernel
theorem dL_isObstacle_265 : decode cL_isObstacle 265 = .ok (.iload 7, 2) := by decide +kernel
theorem dL_isObstacle_267 : decode cL_isObstacle 267 = .ok (.ifCond .eq 40, 3) := by decide +kernel
theorem dL_isObstacle_270 : decode cL_isObstacle 270 = .ok (.aload_n 0, 1) := by decide +kernel
theorem dL_isObstacle_271 : decode cL_isObstacle 271 = .ok (.iload_n 2, 1) := by decide +kernel
theorem dL_isObstacle_272 : decode cL_isObstacle 272 = .ok (.iload_n 3, 1) := by decide +kernel
theorem dL_isObstacle_273 : decode cL_isObstacle 273 = .ok (.invokevirtual 55, 3) := by decide +kernel
theorem dL_isObstacle_276 : decode cL_isObstacle 276 = .ok (.iconst 1, 1) := by decide +kernel
theorem dL_isObstacle_277 : decode cL_isObstacle 277 = .ok (.if_icmp .ne 7, 3) := by decide +kernel
theorem dL_isObstacle_280 : decode cL_isObstacle 280 = .ok (.iconst 1, 1) := by decide +kernel
theorem dL_isObstacle_281 : decode cL_isObstacle 281 = .ok (.goto 4, 3) := by decide +kernel
theorem dL_isObstacle_284 : decode cL_isObstacle 284 = .ok (.iconst 0, 1) := by decide +kernel
theorem dL_isObstacle_285 : decode cL_isObstacle 285 = .ok (.iload 5, 2) := by decide +kernel
theorem dL_isObstacle_287 : decode cL_isObstacle 287 = .ok (.ifCond .lt 8, 3) := by decide +kernel
theorem dL_isObstacle_290 : decode cL_isObstacle 290 = .ok (.iload 6, 2) := by decide +kernel
theorem dL_isObstacle_292 : decode cL_isObstacle 292 = .ok (.ifCond .lt 7, 3) := by decide +kernel
theorem dL_isObstacle_295 : decode cL_isObstacle 295 = .ok (.iconst 1, 1) := by decide +kernel
theorem dL_isObstacle_296 : decode cL_isObstacle 296 = .ok (.goto 4, 3) := by decide +kernel
theorem dL_isObstacle_299 : decode cL_isObstacle 299 = .ok (.iconst 0, 1) := by decide +kernel
theorem dL_isObstacle_300 : decode cL_isObstacle 300 = .ok (.if_icmp .ne 7, 3) := by decide +kernel
theorem dL_isObstacle_303 : decode cL_isObstacle 303 = .ok (.iconst 1, 1) := by decide +kernel
theorem dL_isObstacle_304 : decode cL_isObstacle 304 = .ok (.goto 4, 3) := by decide +kernel
theorem dL_isObstacle_307 : decode cL_isObstacle 307 = .ok (.iconst 0, 1) := by decide +kernel
theorem dL_isObstacle_308 : decode cL_isObstacle 308 = .ok (.ireturn, 1) := by decide +kernel
theorem dL_areShadows_0 : decode cL_areShadows 0 = .ok (.aload_n 1, 1) := by decide +kernel
theorem dL_areShadows_1 : decode cL_areShadows 1 = .ok (.iload_n 2, 1) := by decide +kernel
theorem dL_areShadows_2 : decode cL_areShadows 2 = .ok (.invokestatic 57, 3) := by decide +kernel
theorem dL_areShadows_5 : decode cL_areShadows 5 = .ok (.istore_n 3, 1) := by decide +kernel
theorem dL_areShadows_6 : decode cL_areShadows 6 = .ok (.iconst 0, 1) := by decide +kernel
theorem dL_areShadows_7 : decode cL_areShadows 7 = .ok (.istore 4, 2) := by decide +kernel
theorem dL_areShadows_9 : decode cL_areShadows 9 = .ok (.iconst (-1), 1) := by decide +kernel
theorem dL_areShadows_10 : decode cL_areShadows 10 = .ok (.istore 5, 2) := by decide +kernel
theorem dL_areShadows_12 : decode cL_areShadows 12 = .ok (.iconst 0, 1) := by decide +kernel
theorem dL_areShadows_13 : decode cL_areShadows 13 = .ok (.istore 6, 2) := by decide +kernel
theorem dL_areShadows_15 : decode cL_areShadows 15 = .ok (.iload 6, 2) := by decide +kernel
theorem dL_areShadows_17 : decode cL_areShadows 17 = .ok (.aload_n 1, 1) := by decide +kernel
theorem dL_areShadows_18 : decode cL_areShadows 18 = .ok (.bipush 16, 2) := by decide +kernel
theorem dL_areShadows_20 : decode cL_areShadows 20 = .ok (.iaload, 1) := by decide +kernel
theorem dL_areShadows_21 : decode cL_areShadows 21 = .ok (.if_icmp .gt 99, 3) := by decide +kernel
theorem dL_areShadows_24 : decode cL_areShadows 24 = .ok (.iload 6, 2) := by decide +kernel
theorem dL_areShadows_26 : decode cL_areShadows 26 = .ok (.aload_n 1, 1) := by decide +kernel
theorem dL_areShadows_27 : decode cL_areShadows 27 = .ok (.bipush 16, 2) := by decide +kernel
theorem dL_areShadows_29 : decode cL_areShadows 29 = .ok (.iaload, 1) := by decide +kernel
theorem dL_areShadows_30 : decode cL_areShadows 30 = .ok (.if_icmp .ge 16, 3) := by decide +kernel
theorem dL_areShadows_33 : decode cL_areShadows 33 = .ok (.iload_n 3, 1) := by decide +kernel
theorem dL_areShadows_34 : decode cL_areShadows 34 = .ok (.iload 6, 2) := by decide +kernel
theorem dL_areShadows_36 : decode cL_areShadows 36 = .ok (.ishr, 1) := by decide +kernel
theorem dL_areShadows_37 : decode cL_areShadows 37 = .ok (.iconst 1, 1) := by decide +kernel
theorem dL_areShadows_38 : decode cL_areShadows 38 = .ok (.iand, 1) := by decide +kernel
theorem dL_areShadows_39 : decode cL_areShadows 39 = .ok (.ifCond .ne 7, 3) := by decide +kernel
theorem dL_areShadows_42 : decode cL_areShadows 42 = .ok (.iconst 1, 1) := by decide +kernel
theorem dL_areShadows_43 : decode cL_areShadows 43 = .ok (.goto 4, 3) := by decide +kernel
theorem dL_areShadows_46 : decode cL_areShadows 46 = .ok (.iconst 0, 1) := by decide +kernel
theorem dL_areShadows_47 : decode cL_areShadows 47 = .ok (.istore 7, 2) := by decide +kernel
theorem dL_areShadows_49 : decode cL_areShadows 49 = .ok (.iload 7, 2) := by decide +kernel
theorem dL_areShadows_51 : decode cL_areShadows 51 = .ok (.ifCond .ne 44, 3) := by decide +kernel
theorem dL_areShadows_54 : decode cL_areShadows 54 = .ok (.iload 5, 2) := by decide +kernel
theorem dL_areShadows_56 : decode cL_areShadows 56 = .ok (.ifCond .lt 39, 3) := by decide +kernel
theorem dL_areShadows_59 : decode cL_areShadows 59 = .ok (.aload_n 0, 1) := by decide +kernel
theorem dL_areShadows_60 : decode cL_areShadows 60 = .ok (.iload_n 2, 1) := by decide +kernel
theorem dL_areShadows_61 : decode cL_areShadows 61 = .ok (.iload 4, 2) := by decide +kernel
theorem dL_areShadows_63 : decode cL_areShadows 63 = .ok (.iconst 0, 1) := by decide +kernel
theorem dL_areShadows_64 : decode cL_areShadows 64 = .ok (.invokevirtual 60, 3) := by decide +kernel
theorem dL_areShadows_67 : decode cL_areShadows 67 = .ok (.iload 5, 2) := by decide +kernel
theorem dL_areShadows_69 : decode cL_areShadows 69 = .ok (.if_icmp .ne 18, 3) := by decide +kernel
theorem dL_areShadows_72 : decode cL_areShadows 72 = .ok (.aload_n 0, 1) := by decide +kernel
theorem dL_areShadows_73 : decode cL_areShadows 73 = .ok (.iload_n 2, 1) := by decide +kernel
theorem dL_areShadows_74 : decode cL_areShadows 74 = .ok (.iload 4, 2) := by decide +kernel
theorem dL_areShadows_76 : decode cL_areShadows 76 = .ok (.iconst 1, 1) := by decide +kernel
theorem dL_areShadows_77 : decode cL_areShadows 77 = .ok (.invokevirtual 60, 3) := by decide +kernel
theorem dL_areShadows_80 : decode cL_areShadows 80 = .ok (.iload 6, 2) := by decide +kernel
theorem dL_areShadows_82 : decode cL_areShadows 82 = .ok (.iconst 1, 1) := by decide +kernel
theorem dL_areShadows_83 : decode cL_areShadows 83 = .ok (.isub, 1) := by decide +kernel
theorem dL_areShadows_84 : decode cL_areShadows 84 = .ok (.if_icmp .eq 5, 3) := by decide +kernel
theorem dL_areShadows_87 : decode cL_areShadows 87 = .ok (.iconst 0, 1) := by decide +kernel
theorem dL_areShadows_88 : decode cL_areShadows 88 = .ok (.ireturn, 1) := by decide +kernel
theorem dL_areShadows_89 : decode cL_areShadows 89 = .ok (.iinc 4 1, 3) := by decide +kernel
theorem dL_areShadows_92 : decode cL_areShadows 92 = .ok (.iconst (-1), 1) := by decide +kernel
theorem dL_areShadows_93 : decode cL_areShadows 93 = .ok (.istore 5, 2) := by decide +kernel
theorem dL_areShadows_95 : decode cL_areShadows 95 = .ok (.iload 7, 2) := by decide +kernel
