theorem dL_areShadows_97 : decode cL_areShadows 97 = .ok (.ifCond .eq 13, 3) := by decide +kernel
theorem dL_areShadows_100 : decode cL_areShadows 100 = .ok (.iload 5, 2) := by decide +kernel
theorem dL_areShadows_102 : decode cL_areShadows 102 = .ok (.ifCond .ge 8, 3) := by decide +kernel
theorem dL_areShadows_105 : decode cL_areShadows 105 = .ok (.iload 6, 2) := by decide +kernel
theorem dL_areShadows_107 : decode cL_areShadows 107 = .ok (.goto 5, 3) := by decide +kernel
theorem dL_areShadows_110 : decode cL_areShadows 110 = .ok (.iload 5, 2) := by decide +kernel
theorem dL_areShadows_112 : decode cL_areShadows 112 = .ok (.istore 5, 2) := by decide +kernel
theorem dL_areShadows_114 : decode cL_areShadows 114 = .ok (.iinc 6 1, 3) := by decide +kernel
theorem dL_areShadows_117 : decode cL_areShadows 117 = .ok (.goto (-102), 3) := by decide +kernel
theorem dL_areShadows_120 : decode cL_areShadows 120 = .ok (.aload_n 0, 1) := by decide +kernel
theorem dL_areShadows_121 : decode cL_areShadows 121 = .ok (.iload_n 2, 1) := by decide +kernel
theorem dL_areShadows_122 : decode cL_areShadows 122 = .ok (.iload 4, 2) := by decide +kernel
theorem dL_areShadows_124 : decode cL_areShadows 124 = .ok (.iconst 0, 1) := by decide +kernel
theorem dL_areShadows_125 : decode cL_areShadows 125 = .ok (.invokevirtual 60, 3) := by decide +kernel
theorem dL_areShadows_128 : decode cL_areShadows 128 = .ok (.iconst (-1), 1) := by decide +kernel
theorem dL_areShadows_129 : decode cL_areShadows 129 = .ok (.if_icmp .ne 31, 3) := by decide +kernel
theorem dL_areShadows_132 : decode cL_areShadows 132 = .ok (.aload_n 0, 1) := by decide +kernel
theorem dL_areShadows_133 : decode cL_areShadows 133 = .ok (.iload_n 2, 1) := by decide +kernel
theorem dL_areShadows_134 : decode cL_areShadows 134 = .ok (.iconst (-1), 1) := by decide +kernel
theorem dL_areShadows_135 : decode cL_areShadows 135 = .ok (.iconst 0, 1) := by decide +kernel
theorem dL_areShadows_136 : decode cL_areShadows 136 = .ok (.invokevirtual 60, 3) := by decide +kernel
theorem dL_areShadows_139 : decode cL_areShadows 139 = .ok (.bipush (-2), 2) := by decide +kernel
theorem dL_areShadows_141 : decode cL_areShadows 141 = .ok (.if_icmp .ne 19, 3) := by decide +kernel
theorem dL_areShadows_144 : decode cL_areShadows 144 = .ok (.aload_n 0, 1) := by decide +kernel
theorem dL_areShadows_145 : decode cL_areShadows 145 = .ok (.iload_n 2, 1) := by decide +kernel
theorem dL_areShadows_146 : decode cL_areShadows 146 = .ok (.iconst 0, 1) := by decide +kernel
theorem dL_areShadows_147 : decode cL_areShadows 147 = .ok (.iconst 2, 1) := by decide +kernel
theorem dL_areShadows_148 : decode cL_areShadows 148 = .ok (.invokevirtual 60, 3) := by decide +kernel
theorem dL_areShadows_151 : decode cL_areShadows 151 = .ok (.bipush (-2), 2) := by decide +kernel
theorem dL_areShadows_153 : decode cL_areShadows 153 = .ok (.if_icmp .ne 7, 3) := by decide +kernel
theorem dL_areShadows_156 : decode cL_areShadows 156 = .ok (.iconst 1, 1) := by decide +kernel
theorem dL_areShadows_157 : decode cL_areShadows 157 = .ok (.goto 4, 3) := by decide +kernel
theorem dL_areShadows_160 : decode cL_areShadows 160 = .ok (.iconst 0, 1) := by decide +kernel
theorem dL_areShadows_161 : decode cL_areShadows 161 = .ok (.ireturn, 1) := by decide +kernel
theorem dL_isTold_0 : decode cL_isTold 0 = .ok (.iconst 0, 1) := by decide +kernel
theorem dL_isTold_1 : decode cL_isTold 1 = .ok (.istore_n 2, 1) := by decide +kernel
theorem dL_isTold_2 : decode cL_isTold 2 = .ok (.iconst 0, 1) := by decide +kernel
theorem dL_isTold_3 : decode cL_isTold 3 = .ok (.istore_n 3, 1) := by decide +kernel
theorem dL_isTold_4 : decode cL_isTold 4 = .ok (.iconst 0, 1) := by decide +kernel
theorem dL_isTold_5 : decode cL_isTold 5 = .ok (.istore 4, 2) := by decide +kernel
theorem dL_isTold_7 : decode cL_isTold 7 = .ok (.iconst 0, 1) := by decide +kernel
theorem dL_isTold_8 : decode cL_isTold 8 = .ok (.istore 5, 2) := by decide +kernel
theorem dL_isTold_10 : decode cL_isTold 10 = .ok (.iconst 0, 1) := by decide +kernel
theorem dL_isTold_11 : decode cL_isTold 11 = .ok (.istore 6, 2) := by decide +kernel
theorem dL_isTold_13 : decode cL_isTold 13 = .ok (.iconst 0, 1) := by decide +kernel
theorem dL_isTold_14 : decode cL_isTold 14 = .ok (.istore 7, 2) := by decide +kernel
theorem dL_isTold_16 : decode cL_isTold 16 = .ok (.iconst 0, 1) := by decide +kernel
theorem dL_isTold_17 : decode cL_isTold 17 = .ok (.istore 8, 2) := by decide +kernel
theorem dL_isTold_19 : decode cL_isTold 19 = .ok (.bipush 8, 2) := by decide +kernel
theorem dL_isTold_21 : decode cL_isTold 21 = .ok (.newarray .int, 2) := by decide +kernel
theorem dL_isTold_23 : decode cL_isTold 23 = .ok (.astore 9, 2) := by decide +kernel
theorem dL_isTold_25 : decode cL_isTold 25 = .ok (.aload_n 1, 1) := by decide +kernel
theorem dL_isTold_26 : decode cL_isTold 26 = .ok (.bipush 16, 2) := by decide +kernel
theorem dL_isTold_28 : decode cL_isTold 28 = .ok (.iaload, 1) := by decide +kernel
theorem dL_isTold_29 : decode cL_isTold 29 = .ok (.iconst 1, 1) := by decide +kernel
theorem dL_isTold_30 : decode cL_isTold 30 = .ok (.isub, 1) := by decide +kernel
theorem dL_isTold_31 : decode cL_isTold 31 = .ok (.istore 10, 2) := by decide +kernel
theorem dL_isTold_33 : decode cL_isTold 33 = .ok (.iload 10, 2) := by decide +kernel
theorem dL_isTold_35 : decode cL_isTold 35 = .ok (.ifCond .lt 409, 3) := by decide +kernel
theorem dL_isTold_38 : decode cL_isTold 38 = .ok (.aload 9, 2) := by decide +kernel
theorem dL_isTold_40 : decode cL_isTold 40 = .ok (.iload 10, 2) := by decide +kernel
theorem dL_isTold_42 : decode cL_isTold 42 = .ok (.iconst 1, 1) := by decide +kernel
theorem dL_isTold_43 : decode cL_isTold 43 = .ok (.iload 10, 2) := by decide +kernel
theorem dL_isTold_45 : decode cL_isTold 45 = .ok (.ishl, 1) := by decide +kernel
theorem dL_isTold_46 : decode cL_isTold 46 = .ok (.iastore, 1) := by decide +kernel
theorem dL_isTold_47 : decode cL_isTold 47 = .ok (.iconst 0, 1) := by decide +kernel
theorem dL_isTold_48 : decode cL_isTold 48 = .ok (.istore 11, 2) := by decide +kernel
theorem dL_isTold_50 : decode cL_isTold 50 = .ok (.iconst 0, 1) := by decide +kernel
theorem dL_isTold_51 : decode cL_isTold 51 = .ok (.istore 12, 2) := by decide +kernel
theorem dL_isTold_53 : decode cL_isTold 53 = .ok (.iload 12, 2) := by decide +kernel
theorem dL_isTold_55 : decode cL_isTold 55 = .ok (.aload_n 1, 1) := by decide +kernel
theorem dL_isTold_56 : decode cL_isTold 56 = .ok (.bipush 16, 2) := by decide +kernel
theorem dL_isTold_58 : decode cL_isTold 58 = .ok (.iaload, 1) := by decide +kernel
theorem dL_isTold_59 : decode cL_isTold 59 = .ok (.if_icmp .ge 181, 3) := by decide +kernel
theorem dL_isTold_62 : decode cL_isTold 62 = .ok (.aload_n 1, 1) := by decide +kernel
theorem dL_isTold_63 : decode cL_isTold 63 = .ok (.iload 10, 2) := by decide +kernel
theorem dL_isTold_65 : decode cL_isTold 65 = .ok (.iload 12, 2) := by decide +kernel
theorem dL_isTold_67 : decode cL_isTold 67 = .ok (.invokestatic 19, 3) := by decide +kernel
theorem dL_isTold_70 : decode cL_isTold 70 = .ok (.istore 13, 2) := by decide +kernel
theorem dL_isTold_72 : decode cL_isTold 72 = .ok (.aload_n 1, 1) := by decide +kernel
theorem dL_isTold_73 : decode cL_isTold 73 = .ok (.iload 10, 2) := by decide +kernel
theorem dL_isTold_75 : decode cL_isTold 75 = .ok (.iload 12, 2) := by decide +kernel
theorem dL_isTold_77 : decode cL_isTold 77 = .ok (.invokestatic 63, 3) := by decide +kernel
theorem dL_isTold_80 : decode cL_isTold 80 = .ok (.istore 14, 2) := by decide +kernel
theorem dL_isTold_82 : decode cL_isTold 82 = .ok (.aload_n 0, 1) := by decide +kernel
theorem dL_isTold_83 : decode cL_isTold 83 = .ok (.iload 10, 2) := by decide +kernel
theorem dL_isTold_85 : decode cL_isTold 85 = .ok (.iload 12, 2) := by decide +kernel
theorem dL_isTold_87 : decode cL_isTold 87 = .ok (.invokevirtual 55, 3) := by decide +kernel
theorem dL_isTold_90 : decode cL_isTold 90 = .ok (.iload 13, 2) := by decide +kernel
theorem dL_isTold_92 : decode cL_isTold 92 = .ok (.ifCond .eq 7, 3) := by decide +kernel
theorem dL_isTold_95 : decode cL_isTold 95 = .ok (.iconst 1, 1) := by decide +kernel
theorem dL_isTold_96 : decode cL_isTold 96 = .ok (.goto 4, 3) := by decide +kernel
theorem dL_isTold_99 : decode cL_isTold 99 = .ok (.iconst 0, 1) := by decide +kernel
theorem dL_isTold_100 : decode cL_isTold 100 = .ok (.if_icmp .eq 5, 3) := by decide +kernel
theorem dL_isTold_103 : decode cL_isTold 103 = .ok (.iconst 0, 1) := by decide +kernel
theorem dL_isTold_104 : decode cL_isTold 104 = .ok (.ireturn, 1) := by decide +kernel
theorem dL_isTold_105 : decode cL_isTold 105 = .ok (.iload 11, 2) := by decide +kernel
theorem dL_isTold_107 : decode cL_isTold 107 = .ok (.iload 14, 2) := by decide +kernel
theorem dL_isTold_109 : decode cL_isTold 109 = .ok (.ifCond .eq 10, 3) := by decide +kernel
theorem dL_isTold_112 : decode cL_isTold 112 = .ok (.iconst 1, 1) := by decide +kernel
theorem dL_isTold_113 : decode cL_isTold 113 = .ok (.iload 12, 2) := by decide +kernel
theorem dL_isTold_115 : decode cL_isTold 115 = .ok (.ishl, 1) := by decide +kernel
theorem dL_isTold_116 : decode cL_isTold 116 = .ok (.goto 4, 3) := by decide +kernel
theorem dL_isTold_119 : decode cL_isTold 119 = .ok (.iconst 0, 1) := by decide +kernel
theorem dL_isTold_120 : decode cL_isTold 120 = .ok (.ior, 1) := by decide +kernel
theorem dL_isTold_121 : decode cL_isTold 121 = .ok (.istore 11, 2) := by decide +kernel
theorem dL_isTold_123 : decode cL_isTold 123 = .ok (.iload_n 2, 1) := by decide +kernel
theorem dL_isTold_124 : decode cL_isTold 124 = .ok (.iload 12, 2) := by decide +kernel
theorem dL_isTold_126 : decode cL_isTold 126 = .ok (.iload 10, 2) := by decide +kernel
theorem dL_isTold_128 : decode cL_isTold 128 = .ok (.if_icmp .le 12, 3) := by decide +kernel
theorem dL_isTold_131 : decode cL_isTold 131 = .ok (.iload 13, 2) := by decide +kernel
theorem dL_isTold_133 : decode cL_isTold 133 = .ok (.ifCond .eq 7, 3) := by decide +kernel
theorem dL_isTold_136 : decode cL_isTold 136 = .ok (.iconst 1, 1) := by decide +kernel
theorem dL_isTold_137 : decode cL_isTold 137 = .ok (.goto 4, 3) := by decide +kernel
theorem dL_isTold_140 : decode cL_isTold 140 = .ok (.iconst 0, 1) := by decide +kernel
theorem dL_isTold_141 : decode cL_isTold 141 = .ok (.iadd, 1) := by decide +kernel
theorem dL_isTold_142 : decode cL_isTold 142 = .ok (.istore_n 2, 1) := by decide +kernel
theorem dL_isTold_143 : decode cL_isTold 143 = .ok (.iload_n 3, 1) := by decide +kernel
theorem dL_isTold_144 : decode cL_isTold 144 = .ok (.iload 12, 2) := by decide +kernel
theorem dL_isTold_146 : decode cL_isTold 146 = .ok (.iload 10, 2) := by decide +kernel
theorem dL_isTold_148 : decode cL_isTold 148 = .ok (.if_icmp .le 12, 3) := by decide +kernel
theorem dL_isTold_151 : decode cL_isTold 151 = .ok (.iload 14, 2) := by decide +kernel
theorem dL_isTold_153 : decode cL_isTold 153 = .ok (.ifCond .eq 7, 3) := by decide +kernel
theorem dL_isTold_156 : decode cL_isTold 156 = .ok (.iconst 1, 1) := by decide +kernel
theorem dL_isTold_157 : decode cL_isTold 157 = .ok (.goto 4, 3) := by decide +kernel
theorem dL_isTold_160 : decode cL_isTold 160 = .ok (.iconst 0, 1) := by decide +kernel
theorem dL_isTold_161 : decode cL_isTold 161 = .ok (.iadd, 1) := by decide +kernel
theorem dL_isTold_162 : decode cL_isTold 162 = .ok (.istore_n 3, 1) := by decide +kernel
theorem dL_isTold_163 : decode cL_isTold 163 = .ok (.iload 12, 2) := by decide +kernel
theorem dL_isTold_165 : decode cL_isTold 165 = .ok (.iload 10, 2) := by decide +kernel
theorem dL_isTold_167 : decode cL_isTold 167 = .ok (.if_icmp .le 29, 3) := by decide +kernel
theorem dL_isTold_170 : decode cL_isTold 170 = .ok (.iload 14, 2) := by decide +kernel
theorem dL_isTold_172 : decode cL_isTold 172 = .ok (.ifCond .eq 24, 3) := by decide +kernel
theorem dL_isTold_175 : decode cL_isTold 175 = .ok (.iload 12, 2) := by decide +kernel
theorem dL_isTold_177 : decode cL_isTold 177 = .ok (.iload 10, 2) := by decide +kernel
theorem dL_isTold_179 : decode cL_isTold 179 = .ok (.isub, 1) := by decide +kernel
theorem dL_isTold_180 : decode cL_isTold 180 = .ok (.iload 6, 2) := by decide +kernel
theorem dL_isTold_182 : decode cL_isTold 182 = .ok (.if_icmp .lt 14, 3) := by decide +kernel
theorem dL_isTold_185 : decode cL_isTold 185 = .ok (.bipush 100, 2) := by decide +kernel
theorem dL_isTold_187 : decode cL_isTold 187 = .ok (.iload 10, 2) := by decide +kernel
theorem dL_isTold_189 : decode cL_isTold 189 = .ok (.imul, 1) := by decide +kernel
theorem dL_isTold_190 : decode cL_isTold 190 = .ok (.iload 12, 2) := by decide +kernel
theorem dL_isTold_192 : decode cL_isTold 192 = .ok (.iadd, 1) := by decide +kernel
theorem dL_isTold_193 : decode cL_isTold 193 = .ok (.goto 5, 3) := by decide +kernel
theorem dL_isTold_196 : decode cL_isTold 196 = .ok (.iload 8, 2) := by decide +kernel
theorem dL_isTold_198 : decode cL_isTold 198 = .ok (.istore 8, 2) := by decide +kernel
theorem dL_isTold_200 : decode cL_isTold 200 = .ok (.iload 12, 2) := by decide +kernel
theorem dL_isTold_202 : decode cL_isTold 202 = .ok (.iload 10, 2) := by decide +kernel
theorem dL_isTold_204 : decode cL_isTold 204 = .ok (.if_icmp .le 26, 3) := by decide +kernel
theorem dL_isTold_207 : decode cL_isTold 207 = .ok (.iload 14, 2) := by decide +kernel
theorem dL_isTold_209 : decode cL_isTold 209 = .ok (.ifCond .eq 21, 3) := by decide +kernel
theorem dL_isTold_212 : decode cL_isTold 212 = .ok (.iload 12, 2) := by decide +kernel
theorem dL_isTold_214 : decode cL_isTold 214 = .ok (.iload 10, 2) := by decide +kernel
theorem dL_isTold_216 : decode cL_isTold 216 = .ok (.isub, 1) := by decide +kernel
theorem dL_isTold_217 : decode cL_isTold 217 = .ok (.iload 6, 2) := by decide +kernel
theorem dL_isTold_219 : decode cL_isTold 219 = .ok (.if_icmp .le 11, 3) := by decide +kernel
theorem dL_isTold_222 : decode cL_isTold 222 = .ok (.iload 12, 2) := by decide +kernel
theorem dL_isTold_224 : decode cL_isTold 224 = .ok (.iload 10, 2) := by decide +kernel
theorem dL_isTold_226 : decode cL_isTold 226 = .ok (.isub, 1) := by decide +kernel
theorem dL_isTold_227 : decode cL_isTold 227 = .ok (.goto 5, 3) := by decide +kernel
theorem dL_isTold_230 : decode cL_isTold 230 = .ok (.iload 6, 2) := by decide +kernel
theorem dL_isTold_232 : decode cL_isTold 232 = .ok (.istore 6, 2) := by decide +kernel
theorem dL_isTold_234 : decode cL_isTold 234 = .ok (.iinc 12 1, 3) := by decide +kernel
theorem dL_isTold_237 : decode cL_isTold 237 = .ok (.goto (-184), 3) := by decide +kernel
theorem dL_isTold_240 : decode cL_isTold 240 = .ok (.aload_n 1, 1) := by decide +kernel
theorem dL_isTold_241 : decode cL_isTold 241 = .ok (.iload 10, 2) := by decide +kernel
theorem dL_isTold_243 : decode cL_isTold 243 = .ok (.invokestatic 57, 3) := by decide +kernel
theorem dL_isTold_246 : decode cL_isTold 246 = .ok (.istore 12, 2) := by decide +kernel
theorem dL_isTold_248 : decode cL_isTold 248 = .ok (.iload 10, 2) := by decide +kernel
theorem dL_isTold_250 : decode cL_isTold 250 = .ok (.ifCond .le 24, 3) := by decide +kernel
theorem dL_isTold_253 : decode cL_isTold 253 = .ok (.aload_n 1, 1) := by decide +kernel
theorem dL_isTold_254 : decode cL_isTold 254 = .ok (.iload 10, 2) := by decide +kernel
theorem dL_isTold_256 : decode cL_isTold 256 = .ok (.iconst 1, 1) := by decide +kernel
theorem dL_isTold_257 : decode cL_isTold 257 = .ok (.isub, 1) := by decide +kernel
theorem dL_isTold_258 : decode cL_isTold 258 = .ok (.invokestatic 9, 3) := by decide +kernel
theorem dL_isTold_261 : decode cL_isTold 261 = .ok (.aload_n 1, 1) := by decide +kernel
theorem dL_isTold_262 : decode cL_isTold 262 = .ok (.iload 10, 2) := by decide +kernel
theorem dL_isTold_264 : decode cL_isTold 264 = .ok (.invokestatic 9, 3) := by decide +kernel
theorem dL_isTold_267 : decode cL_isTold 267 = .ok (.if_icmp .le 7, 3) := by decide +kernel
theorem dL_isTold_270 : decode cL_isTold 270 = .ok (.iconst 1, 1) := by decide +kernel
theorem dL_isTold_271 : decode cL_isTold 271 = .ok (.goto 4, 3) := by decide +kernel
theorem dL_isTold_274 : decode cL_isTold 274 = .ok (.iconst 0, 1) := by decide +kernel
theorem dL_isTold_275 : decode cL_isTold 275 = .ok (.iload 10, 2) := by decide +kernel
theorem dL_isTold_277 : decode cL_isTold 277 = .ok (.iconst 1, 1) := by decide +kernel
theorem dL_isTold_278 : decode cL_isTold 278 = .ok (.iadd, 1) := by decide +kernel
theorem dL_isTold_279 : decode cL_isTold 279 = .ok (.aload_n 1, 1) := by decide +kernel
theorem dL_isTold_280 : decode cL_isTold 280 = .ok (.bipush 16, 2) := by decide +kernel
theorem dL_isTold_282 : decode cL_isTold 282 = .ok (.iaload, 1) := by decide +kernel
theorem dL_isTold_283 : decode cL_isTold 283 = .ok (.if_icmp .ge 24, 3) := by decide +kernel
theorem dL_isTold_286 : decode cL_isTold 286 = .ok (.aload_n 1, 1) := by decide +kernel
theorem dL_isTold_287 : decode cL_isTold 287 = .ok (.iload 10, 2) := by decide +kernel
theorem dL_isTold_289 : decode cL_isTold 289 = .ok (.iconst 1, 1) := by decide +kernel
theorem dL_isTold_290 : decode cL_isTold 290 = .ok (.iadd, 1) := by decide +kernel
theorem dL_isTold_291 : decode cL_isTold 291 = .ok (.invokestatic 9, 3) := by decide +kernel
theorem dL_isTold_294 : decode cL_isTold 294 = .ok (.aload_n 1, 1) := by decide +kernel
theorem dL_isTold_295 : decode cL_isTold 295 = .ok (.iload 10, 2) := by decide +kernel
theorem dL_isTold_297 : decode cL_isTold 297 = .ok (.invokestatic 9, 3) := by decide +kernel
theorem dL_isTold_300 : decode cL_isTold 300 = .ok (.if_icmp .le 7, 3) := by decide +kernel
theorem dL_isTold_303 : decode cL_isTold 303 = .ok (.iconst 1, 1) := by decide +kernel
theorem dL_isTold_304 : decode cL_isTold 304 = .ok (.goto 4, 3) := by decide +kernel
theorem dL_isTold_307 : decode cL_isTold 307 = .ok (.iconst 0, 1) := by decide +kernel
theorem dL_isTold_308 : decode cL_isTold 308 = .ok (.iadd, 1) := by decide +kernel
theorem dL_isTold_309 : decode cL_isTold 309 = .ok (.istore 13, 2) := by decide +kernel
theorem dL_isTold_311 : decode cL_isTold 311 = .ok (.aload_n 0, 1) := by decide +kernel
theorem dL_isTold_312 : decode cL_isTold 312 = .ok (.iload 10, 2) := by decide +kernel
theorem dL_isTold_314 : decode cL_isTold 314 = .ok (.iconst 0, 1) := by decide +kernel
theorem dL_isTold_315 : decode cL_isTold 315 = .ok (.invokevirtual 66, 3) := by decide +kernel
theorem dL_isTold_318 : decode cL_isTold 318 = .ok (.aload_n 1, 1) := by decide +kernel
theorem dL_isTold_319 : decode cL_isTold 319 = .ok (.iload 10, 2) := by decide +kernel
theorem dL_isTold_321 : decode cL_isTold 321 = .ok (.iaload, 1) := by decide +kernel
theorem dL_isTold_322 : decode cL_isTold 322 = .ok (.if_icmp .ne 82, 3) := by decide +kernel
theorem dL_isTold_325 : decode cL_isTold 325 = .ok (.aload_n 0, 1) := by decide +kernel
theorem dL_isTold_326 : decode cL_isTold 326 = .ok (.iload 10, 2) := by decide +kernel
theorem dL_isTold_328 : decode cL_isTold 328 = .ok (.iconst 1, 1) := by decide +kernel
theorem dL_isTold_329 : decode cL_isTold 329 = .ok (.invokevirtual 66, 3) := by decide +kernel
theorem dL_isTold_332 : decode cL_isTold 332 = .ok (.aload_n 1, 1) := by decide +kernel
theorem dL_isTold_333 : decode cL_isTold 333 = .ok (.bipush 8, 2) := by decide +kernel
theorem dL_isTold_335 : decode cL_isTold 335 = .ok (.iload 10, 2) := by decide +kernel
theorem dL_isTold_337 : decode cL_isTold 337 = .ok (.iadd, 1) := by decide +kernel
theorem dL_isTold_338 : decode cL_isTold 338 = .ok (.iaload, 1) := by decide +kernel
theorem dL_isTold_339 : decode cL_isTold 339 = .ok (.if_icmp .ne 65, 3) := by decide +kernel
theorem dL_isTold_342 : decode cL_isTold 342 = .ok (.aload_n 0, 1) := by decide +kernel
theorem dL_isTold_343 : decode cL_isTold 343 = .ok (.iload 10, 2) := by decide +kernel
theorem dL_isTold_345 : decode cL_isTold 345 = .ok (.iconst 2, 1) := by decide +kernel
theorem dL_isTold_346 : decode cL_isTold 346 = .ok (.invokevirtual 66, 3) := by decide +kernel
theorem dL_isTold_349 : decode cL_isTold 349 = .ok (.aload_n 1, 1) := by decide +kernel
theorem dL_isTold_350 : decode cL_isTold 350 = .ok (.iload 10, 2) := by decide +kernel
theorem dL_isTold_352 : decode cL_isTold 352 = .ok (.invokestatic 9, 3) := by decide +kernel
theorem dL_isTold_355 : decode cL_isTold 355 = .ok (.if_icmp .ne 49, 3) := by decide +kernel
theorem dL_isTold_358 : decode cL_isTold 358 = .ok (.aload_n 0, 1) := by decide +kernel
theorem dL_isTold_359 : decode cL_isTold 359 = .ok (.iload 10, 2) := by decide +kernel
theorem dL_isTold_361 : decode cL_isTold 361 = .ok (.iconst 3, 1) := by decide +kernel
theorem dL_isTold_362 : decode cL_isTold 362 = .ok (.invokevirtual 66, 3) := by decide +kernel
theorem dL_isTold_365 : decode cL_isTold 365 = .ok (.iload 11, 2) := by decide +kernel
theorem dL_isTold_367 : decode cL_isTold 367 = .ok (.if_icmp .ne 37, 3) := by decide +kernel
theorem dL_isTold_370 : decode cL_isTold 370 = .ok (.aload_n 0, 1) := by decide +kernel
theorem dL_isTold_371 : decode cL_isTold 371 = .ok (.iload 10, 2) := by decide +kernel
theorem dL_isTold_373 : decode cL_isTold 373 = .ok (.iconst 4, 1) := by decide +kernel
theorem dL_isTold_374 : decode cL_isTold 374 = .ok (.invokevirtual 66, 3) := by decide +kernel
theorem dL_isTold_377 : decode cL_isTold 377 = .ok (.iload 12, 2) := by decide +kernel
theorem dL_isTold_379 : decode cL_isTold 379 = .ok (.if_icmp .ne 25, 3) := by decide +kernel
theorem dL_isTold_382 : decode cL_isTold 382 = .ok (.aload_n 0, 1) := by decide +kernel
theorem dL_isTold_383 : decode cL_isTold 383 = .ok (.iload 10, 2) := by decide +kernel
theorem dL_isTold_385 : decode cL_isTold 385 = .ok (.iconst 5, 1) := by decide +kernel
theorem dL_isTold_386 : decode cL_isTold 386 = .ok (.invokevirtual 66, 3) := by decide +kernel
theorem dL_isTold_389 : decode cL_isTold 389 = .ok (.iload 13, 2) := by decide +kernel
theorem dL_isTold_391 : decode cL_isTold 391 = .ok (.if_icmp .ne 13, 3) := by decide +kernel
theorem dL_isTold_394 : decode cL_isTold 394 = .ok (.aload_n 0, 1) := by decide +kernel
theorem dL_isTold_395 : decode cL_isTold 395 = .ok (.aload_n 1, 1) := by decide +kernel
theorem dL_isTold_396 : decode cL_isTold 396 = .ok (.iload 10, 2) := by decide +kernel
theorem dL_isTold_398 : decode cL_isTold 398 = .ok (.invokestatic 69, 3) := by decide +kernel
theorem dL_isTold_401 : decode cL_isTold 401 = .ok (.ifCond .ne 5, 3) := by decide +kernel
theorem dL_isTold_404 : decode cL_isTold 404 = .ok (.iconst 0, 1) := by decide +kernel
theorem dL_isTold_405 : decode cL_isTold 405 = .ok (.ireturn, 1) := by decide +kernel
theorem dL_isTold_406 : decode cL_isTold 406 = .ok (.iload 4, 2) := by decide +kernel
theorem dL_isTold_408 : decode cL_isTold 408 = .ok (.aload_n 1, 1) := by decide +kernel
theorem dL_isTold_409 : decode cL_isTold 409 = .ok (.bipush 8, 2) := by decide +kernel
theorem dL_isTold_411 : decode cL_isTold 411 = .ok (.iload 10, 2) := by decide +kernel
theorem dL_isTold_413 : decode cL_isTold 413 = .ok (.iadd, 1) := by decide +kernel
theorem dL_isTold_414 : decode cL_isTold 414 = .ok (.iaload, 1) := by decide +kernel
theorem dL_isTold_415 : decode cL_isTold 415 = .ok (.ifCond .le 7, 3) := by decide +kernel
theorem dL_isTold_418 : decode cL_isTold 418 = .ok (.iconst 1, 1) := by decide +kernel
theorem dL_isTold_419 : decode cL_isTold 419 = .ok (.goto 4, 3) := by decide +kernel
theorem dL_isTold_422 : decode cL_isTold 422 = .ok (.iconst 0, 1) := by decide +kernel
theorem dL_isTold_423 : decode cL_isTold 423 = .ok (.iadd, 1) := by decide +kernel
theorem dL_isTold_424 : decode cL_isTold 424 = .ok (.istore 4, 2) := by decide +kernel
theorem dL_isTold_426 : decode cL_isTold 426 = .ok (.iload 5, 2) := by decide +kernel
theorem dL_isTold_428 : decode cL_isTold 428 = .ok (.aload_n 1, 1) := by decide +kernel
theorem dL_isTold_429 : decode cL_isTold 429 = .ok (.bipush 8, 2) := by decide +kernel
theorem dL_isTold_431 : decode cL_isTold 431 = .ok (.iload 10, 2) := by decide +kernel
theorem dL_isTold_433 : decode cL_isTold 433 = .ok (.iadd, 1) := by decide +kernel
theorem dL_isTold_434 : decode cL_isTold 434 = .ok (.iaload, 1) := by decide +kernel
theorem dL_isTold_435 : decode cL_isTold 435 = .ok (.iadd, 1) := by decide +kernel
theorem dL_isTold_436 : decode cL_isTold 436 = .ok (.istore 5, 2) := by decide +kernel
theorem dL_isTold_438 : decode cL_isTold 438 = .ok (.iinc 10 (-1), 3) := by decide +kernel
theorem dL_isTold_441 : decode cL_isTold 441 = .ok (.goto (-408), 3) := by decide +kernel
