theorem dY_bits_0 : decode cY_bits 0 = .ok (.iload_n 1, 1) := by decide +kernel
theorem dY_bits_1 : decode cY_bits 1 = .ok (.lookupswitch 313 #[(0, 123), (8, 128), (20, 165), (22, 185), (32, 137), (36, 205), (38, 223), (40, 142), (64, 151), (68, 241), (70, 259), (72, 156), (100, 277), (102, 295)], 123) := by decide +kernel
theorem dY_bits_124 : decode cY_bits 124 = .ok (.lload_n 2, 1) := by decide +kernel
theorem dY_bits_125 : decode cY_bits 125 = .ok (.lload 4, 2) := by decide +kernel
theorem dY_bits_127 : decode cY_bits 127 = .ok (.land, 1) := by decide +kernel
theorem dY_bits_128 : decode cY_bits 128 = .ok (.lreturn, 1) := by decide +kernel
theorem dY_bits_129 : decode cY_bits 129 = .ok (.lload_n 2, 1) := by decide +kernel
theorem dY_bits_130 : decode cY_bits 130 = .ok (.lload 4, 2) := by decide +kernel
theorem dY_bits_132 : decode cY_bits 132 = .ok (.ldc2_w 149, 3) := by decide +kernel
theorem dY_bits_135 : decode cY_bits 135 = .ok (.lxor, 1) := by decide +kernel
theorem dY_bits_136 : decode cY_bits 136 = .ok (.land, 1) := by decide +kernel
theorem dY_bits_137 : decode cY_bits 137 = .ok (.lreturn, 1) := by decide +kernel
theorem dY_bits_138 : decode cY_bits 138 = .ok (.lload_n 2, 1) := by decide +kernel
theorem dY_bits_139 : decode cY_bits 139 = .ok (.lload 4, 2) := by decide +kernel
theorem dY_bits_141 : decode cY_bits 141 = .ok (.lor, 1) := by decide +kernel
theorem dY_bits_142 : decode cY_bits 142 = .ok (.lreturn, 1) := by decide +kernel
theorem dY_bits_143 : decode cY_bits 143 = .ok (.lload_n 2, 1) := by decide +kernel
theorem dY_bits_144 : decode cY_bits 144 = .ok (.lload 4, 2) := by decide +kernel
theorem dY_bits_146 : decode cY_bits 146 = .ok (.ldc2_w 149, 3) := by decide +kernel
theorem dY_bits_149 : decode cY_bits 149 = .ok (.lxor, 1) := by decide +kernel
theorem dY_bits_150 : decode cY_bits 150 = .ok (.lor, 1) := by decide +kernel
theorem dY_bits_151 : decode cY_bits 151 = .ok (.lreturn, 1) := by decide +kernel
theorem dY_bits_152 : decode cY_bits 152 = .ok (.lload_n 2, 1) := by decide +kernel
theorem dY_bits_153 : decode cY_bits 153 = .ok (.lload 4, 2) := by decide +kernel
theorem dY_bits_155 : decode cY_bits 155 = .ok (.lxor, 1) := by decide +kernel
theorem dY_bits_156 : decode cY_bits 156 = .ok (.lreturn, 1) := by decide +kernel
theorem dY_bits_157 : decode cY_bits 157 = .ok (.lload_n 2, 1) := by decide +kernel
theorem dY_bits_158 : decode cY_bits 158 = .ok (.lload 4, 2) := by decide +kernel
theorem dY_bits_160 : decode cY_bits 160 = .ok (.ldc2_w 149, 3) := by decide +kernel
theorem dY_bits_163 : decode cY_bits 163 = .ok (.lxor, 1) := by decide +kernel
theorem dY_bits_164 : decode cY_bits 164 = .ok (.lxor, 1) := by decide +kernel
theorem dY_bits_165 : decode cY_bits 165 = .ok (.lreturn, 1) := by decide +kernel
theorem dY_bits_166 : decode cY_bits 166 = .ok (.aload_n 0, 1) := by decide +kernel
theorem dY_bits_167 : decode cY_bits 167 = .ok (.lload_n 2, 1) := by decide +kernel
theorem dY_bits_168 : decode cY_bits 168 = .ok (.lconst 1, 1) := by decide +kernel
theorem dY_bits_169 : decode cY_bits 169 = .ok (.land, 1) := by decide +kernel
theorem dY_bits_170 : decode cY_bits 170 = .ok (.lconst 1, 1) := by decide +kernel
theorem dY_bits_171 : decode cY_bits 171 = .ok (.lcmp, 1) := by decide +kernel
theorem dY_bits_172 : decode cY_bits 172 = .ok (.ifCond .ne 7, 3) := by decide +kernel
theorem dY_bits_175 : decode cY_bits 175 = .ok (.iconst 1, 1) := by decide +kernel
theorem dY_bits_176 : decode cY_bits 176 = .ok (.goto 4, 3) := by decide +kernel
theorem dY_bits_179 : decode cY_bits 179 = .ok (.iconst 0, 1) := by decide +kernel
theorem dY_bits_180 : decode cY_bits 180 = .ok (.putfield 151, 3) := by decide +kernel
theorem dY_bits_183 : decode cY_bits 183 = .ok (.lload 4, 2) := by decide +kernel
theorem dY_bits_185 : decode cY_bits 185 = .ok (.lreturn, 1) := by decide +kernel
theorem dY_bits_186 : decode cY_bits 186 = .ok (.aload_n 0, 1) := by decide +kernel
theorem dY_bits_187 : decode cY_bits 187 = .ok (.lload_n 2, 1) := by decide +kernel
theorem dY_bits_188 : decode cY_bits 188 = .ok (.lconst 1, 1) := by decide +kernel
theorem dY_bits_189 : decode cY_bits 189 = .ok (.land, 1) := by decide +kernel
theorem dY_bits_190 : decode cY_bits 190 = .ok (.lconst 0, 1) := by decide +kernel
theorem dY_bits_191 : decode cY_bits 191 = .ok (.lcmp, 1) := by decide +kernel
theorem dY_bits_192 : decode cY_bits 192 = .ok (.ifCond .ne 7, 3) := by decide +kernel
theorem dY_bits_195 : decode cY_bits 195 = .ok (.iconst 1, 1) := by decide +kernel
theorem dY_bits_196 : decode cY_bits 196 = .ok (.goto 4, 3) := by decide +kernel
theorem dY_bits_199 : decode cY_bits 199 = .ok (.iconst 0, 1) := by decide +kernel
theorem dY_bits_200 : decode cY_bits 200 = .ok (.putfield 151, 3) := by decide +kernel
theorem dY_bits_203 : decode cY_bits 203 = .ok (.lload 4, 2) := by decide +kernel
theorem dY_bits_205 : decode cY_bits 205 = .ok (.lreturn, 1) := by decide +kernel
theorem dY_bits_206 : decode cY_bits 206 = .ok (.aload_n 0, 1) := by decide +kernel
theorem dY_bits_207 : decode cY_bits 207 = .ok (.lload_n 2, 1) := by decide +kernel
theorem dY_bits_208 : decode cY_bits 208 = .ok (.lconst 0, 1) := by decide +kernel
theorem dY_bits_209 : decode cY_bits 209 = .ok (.lcmp, 1) := by decide +kernel
theorem dY_bits_210 : decode cY_bits 210 = .ok (.ifCond .ne 7, 3) := by decide +kernel
theorem dY_bits_213 : decode cY_bits 213 = .ok (.iconst 1, 1) := by decide +kernel
theorem dY_bits_214 : decode cY_bits 214 = .ok (.goto 4, 3) := by decide +kernel
theorem dY_bits_217 : decode cY_bits 217 = .ok (.iconst 0, 1) := by decide +kernel
theorem dY_bits_218 : decode cY_bits 218 = .ok (.putfield 151, 3) := by decide +kernel
theorem dY_bits_221 : decode cY_bits 221 = .ok (.lload 4, 2) := by decide +kernel
theorem dY_bits_223 : decode cY_bits 223 = .ok (.lreturn, 1) := by decide +kernel
theorem dY_bits_224 : decode cY_bits 224 = .ok (.aload_n 0, 1) := by decide +kernel
theorem dY_bits_225 : decode cY_bits 225 = .ok (.lload_n 2, 1) := by decide +kernel
theorem dY_bits_226 : decode cY_bits 226 = .ok (.lconst 0, 1) := by decide +kernel
theorem dY_bits_227 : decode cY_bits 227 = .ok (.lcmp, 1) := by decide +kernel
theorem dY_bits_228 : decode cY_bits 228 = .ok (.ifCond .eq 7, 3) := by decide +kernel
theorem dY_bits_231 : decode cY_bits 231 = .ok (.iconst 1, 1) := by decide +kernel
theorem dY_bits_232 : decode cY_bits 232 = .ok (.goto 4, 3) := by decide +kernel
theorem dY_bits_235 : decode cY_bits 235 = .ok (.iconst 0, 1) := by decide +kernel
theorem dY_bits_236 : decode cY_bits 236 = .ok (.putfield 151, 3) := by decide +kernel
theorem dY_bits_239 : decode cY_bits 239 = .ok (.lload 4, 2) := by decide +kernel
theorem dY_bits_241 : decode cY_bits 241 = .ok (.lreturn, 1) := by decide +kernel
theorem dY_bits_242 : decode cY_bits 242 = .ok (.aload_n 0, 1) := by decide +kernel
theorem dY_bits_243 : decode cY_bits 243 = .ok (.lload_n 2, 1) := by decide +kernel
theorem dY_bits_244 : decode cY_bits 244 = .ok (.lconst 0, 1) := by decide +kernel
theorem dY_bits_245 : decode cY_bits 245 = .ok (.lcmp, 1) := by decide +kernel
theorem dY_bits_246 : decode cY_bits 246 = .ok (.ifCond .ge 7, 3) := by decide +kernel
theorem dY_bits_249 : decode cY_bits 249 = .ok (.iconst 1, 1) := by decide +kernel
theorem dY_bits_250 : decode cY_bits 250 = .ok (.goto 4, 3) := by decide +kernel
theorem dY_bits_253 : decode cY_bits 253 = .ok (.iconst 0, 1) := by decide +kernel
theorem dY_bits_254 : decode cY_bits 254 = .ok (.putfield 151, 3) := by decide +kernel
theorem dY_bits_257 : decode cY_bits 257 = .ok (.lload 4, 2) := by decide +kernel
theorem dY_bits_259 : decode cY_bits 259 = .ok (.lreturn, 1) := by decide +kernel
theorem dY_bits_260 : decode cY_bits 260 = .ok (.aload_n 0, 1) := by decide +kernel
theorem dY_bits_261 : decode cY_bits 261 = .ok (.lload_n 2, 1) := by decide +kernel
theorem dY_bits_262 : decode cY_bits 262 = .ok (.lconst 0, 1) := by decide +kernel
theorem dY_bits_263 : decode cY_bits 263 = .ok (.lcmp, 1) := by decide +kernel
theorem dY_bits_264 : decode cY_bits 264 = .ok (.ifCond .lt 7, 3) := by decide +kernel
theorem dY_bits_267 : decode cY_bits 267 = .ok (.iconst 1, 1) := by decide +kernel
theorem dY_bits_268 : decode cY_bits 268 = .ok (.goto 4, 3) := by decide +kernel
theorem dY_bits_271 : decode cY_bits 271 = .ok (.iconst 0, 1) := by decide +kernel
theorem dY_bits_272 : decode cY_bits 272 = .ok (.putfield 151, 3) := by decide +kernel
theorem dY_bits_275 : decode cY_bits 275 = .ok (.lload 4, 2) := by decide +kernel
theorem dY_bits_277 : decode cY_bits 277 = .ok (.lreturn, 1) := by decide +kernel
theorem dY_bits_278 : decode cY_bits 278 = .ok (.aload_n 0, 1) := by decide +kernel
theorem dY_bits_279 : decode cY_bits 279 = .ok (.lload_n 2, 1) := by decide +kernel
theorem dY_bits_280 : decode cY_bits 280 = .ok (.lconst 0, 1) := by decide +kernel
theorem dY_bits_281 : decode cY_bits 281 = .ok (.lcmp, 1) := by decide +kernel
theorem dY_bits_282 : decode cY_bits 282 = .ok (.ifCond .gt 7, 3) := by decide +kernel
theorem dY_bits_285 : decode cY_bits 285 = .ok (.iconst 1, 1) := by decide +kernel
theorem dY_bits_286 : decode cY_bits 286 = .ok (.goto 4, 3) := by decide +kernel
theorem dY_bits_289 : decode cY_bits 289 = .ok (.iconst 0, 1) := by decide +kernel
theorem dY_bits_290 : decode cY_bits 290 = .ok (.putfield 151, 3) := by decide +kernel
theorem dY_bits_293 : decode cY_bits 293 = .ok (.lload 4, 2) := by decide +kernel
theorem dY_bits_295 : decode cY_bits 295 = .ok (.lreturn, 1) := by decide +kernel
theorem dY_bits_296 : decode cY_bits 296 = .ok (.aload_n 0, 1) := by decide +kernel
theorem dY_bits_297 : decode cY_bits 297 = .ok (.lload_n 2, 1) := by decide +kernel
theorem dY_bits_298 : decode cY_bits 298 = .ok (.lconst 0, 1) := by decide +kernel
theorem dY_bits_299 : decode cY_bits 299 = .ok (.lcmp, 1) := by decide +kernel
theorem dY_bits_300 : decode cY_bits 300 = .ok (.ifCond .le 7, 3) := by decide +kernel
theorem dY_bits_303 : decode cY_bits 303 = .ok (.iconst 1, 1) := by decide +kernel
theorem dY_bits_304 : decode cY_bits 304 = .ok (.goto 4, 3) := by decide +kernel
theorem dY_bits_307 : decode cY_bits 307 = .ok (.iconst 0, 1) := by decide +kernel
theorem dY_bits_308 : decode cY_bits 308 = .ok (.putfield 151, 3) := by decide +kernel
theorem dY_bits_311 : decode cY_bits 311 = .ok (.lload 4, 2) := by decide +kernel
theorem dY_bits_313 : decode cY_bits 313 = .ok (.lreturn, 1) := by decide +kernel
theorem dY_bits_314 : decode cY_bits 314 = .ok (.aload_n 0, 1) := by decide +kernel
theorem dY_bits_315 : decode cY_bits 315 = .ok (.iconst 1, 1) := by decide +kernel
theorem dY_bits_316 : decode cY_bits 316 = .ok (.putfield 143, 3) := by decide +kernel
theorem dY_bits_319 : decode cY_bits 319 = .ok (.lconst 0, 1) := by decide +kernel
theorem dY_bits_320 : decode cY_bits 320 = .ok (.lreturn, 1) := by decide +kernel
theorem dY_lowest_0 : decode cY_lowest 0 = .ok (.iload_n 0, 1) := by decide +kernel
theorem dY_lowest_1 : decode cY_lowest 1 = .ok (.bipush 64, 2) := by decide +kernel
theorem dY_lowest_3 : decode cY_lowest 3 = .ok (.if_icmp .ne 9, 3) := by decide +kernel
theorem dY_lowest_6 : decode cY_lowest 6 = .ok (.ldc2_w 149, 3) := by decide +kernel
theorem dY_lowest_9 : decode cY_lowest 9 = .ok (.goto 8, 3) := by decide +kernel
theorem dY_lowest_12 : decode cY_lowest 12 = .ok (.lconst 1, 1) := by decide +kernel
theorem dY_lowest_13 : decode cY_lowest 13 = .ok (.iload_n 0, 1) := by decide +kernel
theorem dY_lowest_14 : decode cY_lowest 14 = .ok (.lshl, 1) := by decide +kernel
theorem dY_lowest_15 : decode cY_lowest 15 = .ok (.lconst 1, 1) := by decide +kernel
theorem dY_lowest_16 : decode cY_lowest 16 = .ok (.lsub, 1) := by decide +kernel
theorem dY_lowest_17 : decode cY_lowest 17 = .ok (.lreturn, 1) := by decide +kernel
theorem dY_zapped_0 : decode cY_zapped 0 = .ok (.lconst 0, 1) := by decide +kernel
theorem dY_zapped_1 : decode cY_zapped 1 = .ok (.lstore 5, 2) := by decide +kernel
theorem dY_zapped_3 : decode cY_zapped 3 = .ok (.iconst 0, 1) := by decide +kernel
theorem dY_zapped_4 : decode cY_zapped 4 = .ok (.istore 7, 2) := by decide +kernel
theorem dY_zapped_6 : decode cY_zapped 6 = .ok (.iload 7, 2) := by decide +kernel
theorem dY_zapped_8 : decode cY_zapped 8 = .ok (.bipush 8, 2) := by decide +kernel
theorem dY_zapped_10 : decode cY_zapped 10 = .ok (.if_icmp .ge 58, 3) := by decide +kernel
theorem dY_zapped_13 : decode cY_zapped 13 = .ok (.lload_n 2, 1) := by decide +kernel
theorem dY_zapped_14 : decode cY_zapped 14 = .ok (.iload 7, 2) := by decide +kernel
theorem dY_zapped_16 : decode cY_zapped 16 = .ok (.lshr, 1) := by decide +kernel
theorem dY_zapped_17 : decode cY_zapped 17 = .ok (.lconst 1, 1) := by decide +kernel
theorem dY_zapped_18 : decode cY_zapped 18 = .ok (.land, 1) := by decide +kernel
theorem dY_zapped_19 : decode cY_zapped 19 = .ok (.lconst 1, 1) := by decide +kernel
theorem dY_zapped_20 : decode cY_zapped 20 = .ok (.lcmp, 1) := by decide +kernel
theorem dY_zapped_21 : decode cY_zapped 21 = .ok (.ifCond .ne 7, 3) := by decide +kernel
theorem dY_zapped_24 : decode cY_zapped 24 = .ok (.iconst 1, 1) := by decide +kernel
theorem dY_zapped_25 : decode cY_zapped 25 = .ok (.goto 4, 3) := by decide +kernel
theorem dY_zapped_28 : decode cY_zapped 28 = .ok (.iconst 0, 1) := by decide +kernel
theorem dY_zapped_29 : decode cY_zapped 29 = .ok (.iload 4, 2) := by decide +kernel
theorem dY_zapped_31 : decode cY_zapped 31 = .ok (.if_icmp .ne 7, 3) := by decide +kernel
theorem dY_zapped_34 : decode cY_zapped 34 = .ok (.iconst 1, 1) := by decide +kernel
theorem dY_zapped_35 : decode cY_zapped 35 = .ok (.goto 4, 3) := by decide +kernel
theorem dY_zapped_38 : decode cY_zapped 38 = .ok (.iconst 0, 1) := by decide +kernel
theorem dY_zapped_39 : decode cY_zapped 39 = .ok (.istore 8, 2) := by decide +kernel
theorem dY_zapped_41 : decode cY_zapped 41 = .ok (.iload 8, 2) := by decide +kernel
theorem dY_zapped_43 : decode cY_zapped 43 = .ok (.ifCond .ne 19, 3) := by decide +kernel
theorem dY_zapped_46 : decode cY_zapped 46 = .ok (.lload 5, 2) := by decide +kernel
theorem dY_zapped_48 : decode cY_zapped 48 = .ok (.lload_n 0, 1) := by decide +kernel
theorem dY_zapped_49 : decode cY_zapped 49 = .ok (.ldc2_w 42, 3) := by decide +kernel
theorem dY_zapped_52 : decode cY_zapped 52 = .ok (.bipush 8, 2) := by decide +kernel
theorem dY_zapped_54 : decode cY_zapped 54 = .ok (.iload 7, 2) := by decide +kernel
theorem dY_zapped_56 : decode cY_zapped 56 = .ok (.imul, 1) := by decide +kernel
theorem dY_zapped_57 : decode cY_zapped 57 = .ok (.lshl, 1) := by decide +kernel
theorem dY_zapped_58 : decode cY_zapped 58 = .ok (.land, 1) := by decide +kernel
theorem dY_zapped_59 : decode cY_zapped 59 = .ok (.lor, 1) := by decide +kernel
theorem dY_zapped_60 : decode cY_zapped 60 = .ok (.lstore 5, 2) := by decide +kernel
theorem dY_zapped_62 : decode cY_zapped 62 = .ok (.iinc 7 1, 3) := by decide +kernel
theorem dY_zapped_65 : decode cY_zapped 65 = .ok (.goto (-59), 3) := by decide +kernel
theorem dY_zapped_68 : decode cY_zapped 68 = .ok (.lload 5, 2) := by decide +kernel
theorem dY_zapped_70 : decode cY_zapped 70 = .ok (.lreturn, 1) := by decide +kernel
theorem dY_parts_0 : decode cY_parts 0 = .ok (.bipush 8, 2) := by decide +kernel
theorem dY_parts_2 : decode cY_parts 2 = .ok (.lload 4, 2) := by decide +kernel
theorem dY_parts_4 : decode cY_parts 4 = .ok (.ldc2_w 154, 3) := by decide +kernel
theorem dY_parts_7 : decode cY_parts 7 = .ok (.land, 1) := by decide +kernel
theorem dY_parts_8 : decode cY_parts 8 = .ok (.l2i, 1) := by decide +kernel
theorem dY_parts_9 : decode cY_parts 9 = .ok (.imul, 1) := by decide +kernel
theorem dY_parts_10 : decode cY_parts 10 = .ok (.istore 6, 2) := by decide +kernel
theorem dY_parts_12 : decode cY_parts 12 = .ok (.iload_n 1, 1) := by decide +kernel
theorem dY_parts_13 : decode cY_parts 13 = .ok (.iconst 4, 1) := by decide +kernel
theorem dY_parts_14 : decode cY_parts 14 = .ok (.ishr, 1) := by decide +kernel
theorem dY_parts_15 : decode cY_parts 15 = .ok (.iconst 3, 1) := by decide +kernel
theorem dY_parts_16 : decode cY_parts 16 = .ok (.iand, 1) := by decide +kernel
theorem dY_parts_17 : decode cY_parts 17 = .ok (.istore 7, 2) := by decide +kernel
theorem dY_parts_19 : decode cY_parts 19 = .ok (.iload_n 1, 1) := by decide +kernel
theorem dY_parts_20 : decode cY_parts 20 = .ok (.bipush 64, 2) := by decide +kernel
theorem dY_parts_22 : decode cY_parts 22 = .ok (.iand, 1) := by decide +kernel
theorem dY_parts_23 : decode cY_parts 23 = .ok (.ifCond .eq 7, 3) := by decide +kernel
theorem dY_parts_26 : decode cY_parts 26 = .ok (.iconst 1, 1) := by decide +kernel
theorem dY_parts_27 : decode cY_parts 27 = .ok (.goto 4, 3) := by decide +kernel
theorem dY_parts_30 : decode cY_parts 30 = .ok (.iconst 0, 1) := by decide +kernel
theorem dY_parts_31 : decode cY_parts 31 = .ok (.istore 8, 2) := by decide +kernel
theorem dY_parts_33 : decode cY_parts 33 = .ok (.bipush 8, 2) := by decide +kernel
theorem dY_parts_35 : decode cY_parts 35 = .ok (.iload 7, 2) := by decide +kernel
theorem dY_parts_37 : decode cY_parts 37 = .ok (.ishl, 1) := by decide +kernel
theorem dY_parts_38 : decode cY_parts 38 = .ok (.invokestatic 156, 3) := by decide +kernel
theorem dY_parts_41 : decode cY_parts 41 = .ok (.lstore 9, 2) := by decide +kernel
theorem dY_parts_43 : decode cY_parts 43 = .ok (.iload_n 1, 1) := by decide +kernel
theorem dY_parts_44 : decode cY_parts 44 = .ok (.bipush 15, 2) := by decide +kernel
theorem dY_parts_46 : decode cY_parts 46 = .ok (.iand, 1) := by decide +kernel
theorem dY_parts_47 : decode cY_parts 47 = .ok (.istore 11, 2) := by decide +kernel
theorem dY_parts_49 : decode cY_parts 49 = .ok (.lload 4, 2) := by decide +kernel
theorem dY_parts_51 : decode cY_parts 51 = .ok (.ldc2_w 159, 3) := by decide +kernel
theorem dY_parts_54 : decode cY_parts 54 = .ok (.land, 1) := by decide +kernel
theorem dY_parts_55 : decode cY_parts 55 = .ok (.l2i, 1) := by decide +kernel
theorem dY_parts_56 : decode cY_parts 56 = .ok (.istore 12, 2) := by decide +kernel
theorem dY_parts_58 : decode cY_parts 58 = .ok (.iload_n 1, 1) := by decide +kernel
theorem dY_parts_59 : decode cY_parts 59 = .ok (.bipush 52, 2) := by decide +kernel
theorem dY_parts_61 : decode cY_parts 61 = .ok (.if_icmp .ne 8, 3) := by decide +kernel
theorem dY_parts_64 : decode cY_parts 64 = .ok (.lload_n 2, 1) := by decide +kernel
theorem dY_parts_65 : decode cY_parts 65 = .ok (.iload 12, 2) := by decide +kernel
theorem dY_parts_67 : decode cY_parts 67 = .ok (.lushr, 1) := by decide +kernel
theorem dY_parts_68 : decode cY_parts 68 = .ok (.lreturn, 1) := by decide +kernel
theorem dY_parts_69 : decode cY_parts 69 = .ok (.iload_n 1, 1) := by decide +kernel
theorem dY_parts_70 : decode cY_parts 70 = .ok (.bipush 57, 2) := by decide +kernel
theorem dY_parts_72 : decode cY_parts 72 = .ok (.if_icmp .ne 8, 3) := by decide +kernel
theorem dY_parts_75 : decode cY_parts 75 = .ok (.lload_n 2, 1) := by decide +kernel
theorem dY_parts_76 : decode cY_parts 76 = .ok (.iload 12, 2) := by decide +kernel
theorem dY_parts_78 : decode cY_parts 78 = .ok (.lshl, 1) := by decide +kernel
theorem dY_parts_79 : decode cY_parts 79 = .ok (.lreturn, 1) := by decide +kernel
theorem dY_parts_80 : decode cY_parts 80 = .ok (.iload_n 1, 1) := by decide +kernel
theorem dY_parts_81 : decode cY_parts 81 = .ok (.bipush 60, 2) := by decide +kernel
theorem dY_parts_83 : decode cY_parts 83 = .ok (.if_icmp .ne 8, 3) := by decide +kernel
theorem dY_parts_86 : decode cY_parts 86 = .ok (.lload_n 2, 1) := by decide +kernel
theorem dY_parts_87 : decode cY_parts 87 = .ok (.iload 12, 2) := by decide +kernel
theorem dY_parts_89 : decode cY_parts 89 = .ok (.lshr, 1) := by decide +kernel
theorem dY_parts_90 : decode cY_parts 90 = .ok (.lreturn, 1) := by decide +kernel
theorem dY_parts_91 : decode cY_parts 91 = .ok (.iload_n 1, 1) := by decide +kernel
theorem dY_parts_92 : decode cY_parts 92 = .ok (.bipush 48, 2) := by decide +kernel
theorem dY_parts_94 : decode cY_parts 94 = .ok (.if_icmp .eq 9, 3) := by decide +kernel
theorem dY_parts_97 : decode cY_parts 97 = .ok (.iload_n 1, 1) := by decide +kernel
theorem dY_parts_98 : decode cY_parts 98 = .ok (.bipush 49, 2) := by decide +kernel
theorem dY_parts_100 : decode cY_parts 100 = .ok (.if_icmp .ne 21, 3) := by decide +kernel
theorem dY_parts_103 : decode cY_parts 103 = .ok (.lload_n 2, 1) := by decide +kernel
theorem dY_parts_104 : decode cY_parts 104 = .ok (.lload 4, 2) := by decide +kernel
theorem dY_parts_106 : decode cY_parts 106 = .ok (.iload_n 1, 1) := by decide +kernel
theorem dY_parts_107 : decode cY_parts 107 = .ok (.bipush 48, 2) := by decide +kernel
theorem dY_parts_109 : decode cY_parts 109 = .ok (.if_icmp .ne 7, 3) := by decide +kernel
theorem dY_parts_112 : decode cY_parts 112 = .ok (.iconst 1, 1) := by decide +kernel
theorem dY_parts_113 : decode cY_parts 113 = .ok (.goto 4, 3) := by decide +kernel
theorem dY_parts_116 : decode cY_parts 116 = .ok (.iconst 0, 1) := by decide +kernel
theorem dY_parts_117 : decode cY_parts 117 = .ok (.invokestatic 161, 3) := by decide +kernel
theorem dY_parts_120 : decode cY_parts 120 = .ok (.lreturn, 1) := by decide +kernel
theorem dY_parts_121 : decode cY_parts 121 = .ok (.iload 8, 2) := by decide +kernel
theorem dY_parts_123 : decode cY_parts 123 = .ok (.ifCond .ne 18, 3) := by decide +kernel
theorem dY_parts_126 : decode cY_parts 126 = .ok (.iload 11, 2) := by decide +kernel
theorem dY_parts_128 : decode cY_parts 128 = .ok (.bipush 6, 2) := by decide +kernel
theorem dY_parts_130 : decode cY_parts 130 = .ok (.if_icmp .ne 11, 3) := by decide +kernel
theorem dY_parts_133 : decode cY_parts 133 = .ok (.lload_n 2, 1) := by decide +kernel
theorem dY_parts_134 : decode cY_parts 134 = .ok (.iload 6, 2) := by decide +kernel
theorem dY_parts_136 : decode cY_parts 136 = .ok (.lushr, 1) := by decide +kernel
theorem dY_parts_137 : decode cY_parts 137 = .ok (.lload 9, 2) := by decide +kernel
theorem dY_parts_139 : decode cY_parts 139 = .ok (.land, 1) := by decide +kernel
theorem dY_parts_140 : decode cY_parts 140 = .ok (.lreturn, 1) := by decide +kernel
theorem dY_parts_141 : decode cY_parts 141 = .ok (.iload 8, 2) := by decide +kernel
theorem dY_parts_143 : decode cY_parts 143 = .ok (.ifCond .ne 18, 3) := by decide +kernel
theorem dY_parts_146 : decode cY_parts 146 = .ok (.iload 11, 2) := by decide +kernel
theorem dY_parts_148 : decode cY_parts 148 = .ok (.bipush 11, 2) := by decide +kernel
theorem dY_parts_150 : decode cY_parts 150 = .ok (.if_icmp .ne 11, 3) := by decide +kernel
theorem dY_parts_153 : decode cY_parts 153 = .ok (.lload_n 2, 1) := by decide +kernel
theorem dY_parts_154 : decode cY_parts 154 = .ok (.lload 9, 2) := by decide +kernel
theorem dY_parts_156 : decode cY_parts 156 = .ok (.land, 1) := by decide +kernel
theorem dY_parts_157 : decode cY_parts 157 = .ok (.iload 6, 2) := by decide +kernel
theorem dY_parts_159 : decode cY_parts 159 = .ok (.lshl, 1) := by decide +kernel
theorem dY_parts_160 : decode cY_parts 160 = .ok (.lreturn, 1) := by decide +kernel
theorem dY_parts_161 : decode cY_parts 161 = .ok (.iload 8, 2) := by decide +kernel
theorem dY_parts_163 : decode cY_parts 163 = .ok (.ifCond .ne 21, 3) := by decide +kernel
theorem dY_parts_166 : decode cY_parts 166 = .ok (.iload 11, 2) := by decide +kernel
theorem dY_parts_168 : decode cY_parts 168 = .ok (.iconst 2, 1) := by decide +kernel
theorem dY_parts_169 : decode cY_parts 169 = .ok (.if_icmp .ne 15, 3) := by decide +kernel
theorem dY_parts_172 : decode cY_parts 172 = .ok (.lload_n 2, 1) := by decide +kernel
theorem dY_parts_173 : decode cY_parts 173 = .ok (.lload 9, 2) := by decide +kernel
theorem dY_parts_175 : decode cY_parts 175 = .ok (.iload 6, 2) := by decide +kernel
theorem dY_parts_177 : decode cY_parts 177 = .ok (.lshl, 1) := by decide +kernel
theorem dY_parts_178 : decode cY_parts 178 = .ok (.ldc2_w 149, 3) := by decide +kernel
theorem dY_parts_181 : decode cY_parts 181 = .ok (.lxor, 1) := by decide +kernel
theorem dY_parts_182 : decode cY_parts 182 = .ok (.land, 1) := by decide +kernel
theorem dY_parts_183 : decode cY_parts 183 = .ok (.lreturn, 1) := by decide +kernel
theorem dY_parts_184 : decode cY_parts 184 = .ok (.iload 8, 2) := by decide +kernel
theorem dY_parts_186 : decode cY_parts 186 = .ok (.ifCond .eq 38, 3) := by decide +kernel
theorem dY_parts_189 : decode cY_parts 189 = .ok (.iload 7, 2) := by decide +kernel
theorem dY_parts_191 : decode cY_parts 191 = .ok (.ifCond .le 33, 3) := by decide +kernel
theorem dY_parts_194 : decode cY_parts 194 = .ok (.iload 11, 2) := by decide +kernel
theorem dY_parts_196 : decode cY_parts 196 = .ok (.bipush 10, 2) := by decide +kernel
theorem dY_parts_198 : decode cY_parts 198 = .ok (.if_icmp .ne 26, 3) := by decide +kernel
theorem dY_parts_201 : decode cY_parts 201 = .ok (.iload 6, 2) := by decide +kernel
theorem dY_parts_203 : decode cY_parts 203 = .ok (.ifCond .ne 10, 3) := by decide +kernel
theorem dY_parts_206 : decode cY_parts 206 = .ok (.lload_n 2, 1) := by decide +kernel
theorem dY_parts_207 : decode cY_parts 207 = .ok (.lload 9, 2) := by decide +kernel
theorem dY_parts_209 : decode cY_parts 209 = .ok (.land, 1) := by decide +kernel
theorem dY_parts_210 : decode cY_parts 210 = .ok (.goto 13, 3) := by decide +kernel
theorem dY_parts_213 : decode cY_parts 213 = .ok (.lload_n 2, 1) := by decide +kernel
theorem dY_parts_214 : decode cY_parts 214 = .ok (.bipush 64, 2) := by decide +kernel
theorem dY_parts_216 : decode cY_parts 216 = .ok (.iload 6, 2) := by decide +kernel
theorem dY_parts_218 : decode cY_parts 218 = .ok (.isub, 1) := by decide +kernel
theorem dY_parts_219 : decode cY_parts 219 = .ok (.lshl, 1) := by decide +kernel
theorem dY_parts_220 : decode cY_parts 220 = .ok (.lload 9, 2) := by decide +kernel
theorem dY_parts_222 : decode cY_parts 222 = .ok (.land, 1) := by decide +kernel
theorem dY_parts_223 : decode cY_parts 223 = .ok (.lreturn, 1) := by decide +kernel
theorem dY_parts_224 : decode cY_parts 224 = .ok (.iload 8, 2) := by decide +kernel
theorem dY_parts_226 : decode cY_parts 226 = .ok (.ifCond .eq 35, 3) := by decide +kernel
theorem dY_parts_229 : decode cY_parts 229 = .ok (.iload 7, 2) := by decide +kernel
theorem dY_parts_231 : decode cY_parts 231 = .ok (.ifCond .le 30, 3) := by decide +kernel
theorem dY_parts_234 : decode cY_parts 234 = .ok (.iload 11, 2) := by decide +kernel
theorem dY_parts_236 : decode cY_parts 236 = .ok (.bipush 7, 2) := by decide +kernel
theorem dY_parts_238 : decode cY_parts 238 = .ok (.if_icmp .ne 23, 3) := by decide +kernel
theorem dY_parts_241 : decode cY_parts 241 = .ok (.iload 6, 2) := by decide +kernel
theorem dY_parts_243 : decode cY_parts 243 = .ok (.ifCond .ne 7, 3) := by decide +kernel
theorem dY_parts_246 : decode cY_parts 246 = .ok (.lconst 0, 1) := by decide +kernel
theorem dY_parts_247 : decode cY_parts 247 = .ok (.goto 13, 3) := by decide +kernel
theorem dY_parts_250 : decode cY_parts 250 = .ok (.lload_n 2, 1) := by decide +kernel
theorem dY_parts_251 : decode cY_parts 251 = .ok (.lload 9, 2) := by decide +kernel
theorem dY_parts_253 : decode cY_parts 253 = .ok (.land, 1) := by decide +kernel
theorem dY_parts_254 : decode cY_parts 254 = .ok (.bipush 64, 2) := by decide +kernel
theorem dY_parts_256 : decode cY_parts 256 = .ok (.iload 6, 2) := by decide +kernel
theorem dY_parts_258 : decode cY_parts 258 = .ok (.isub, 1) := by decide +kernel
theorem dY_parts_259 : decode cY_parts 259 = .ok (.lushr, 1) := by decide +kernel
theorem dY_parts_260 : decode cY_parts 260 = .ok (.lreturn, 1) := by decide +kernel
theorem dY_parts_261 : decode cY_parts 261 = .ok (.iload 8, 2) := by decide +kernel
theorem dY_parts_263 : decode cY_parts 263 = .ok (.ifCond .eq 38, 3) := by decide +kernel
theorem dY_parts_266 : decode cY_parts 266 = .ok (.iload 7, 2) := by decide +kernel
theorem dY_parts_268 : decode cY_parts 268 = .ok (.ifCond .le 33, 3) := by decide +kernel
theorem dY_parts_271 : decode cY_parts 271 = .ok (.iload 11, 2) := by decide +kernel
theorem dY_parts_273 : decode cY_parts 273 = .ok (.iconst 2, 1) := by decide +kernel
theorem dY_parts_274 : decode cY_parts 274 = .ok (.if_icmp .ne 27, 3) := by decide +kernel
theorem dY_parts_277 : decode cY_parts 277 = .ok (.iload 6, 2) := by decide +kernel
theorem dY_parts_279 : decode cY_parts 279 = .ok (.ifCond .ne 7, 3) := by decide +kernel
theorem dY_parts_282 : decode cY_parts 282 = .ok (.lload_n 2, 1) := by decide +kernel
theorem dY_parts_283 : decode cY_parts 283 = .ok (.goto 17, 3) := by decide +kernel
theorem dY_parts_286 : decode cY_parts 286 = .ok (.lload_n 2, 1) := by decide +kernel
theorem dY_parts_287 : decode cY_parts 287 = .ok (.lload 9, 2) := by decide +kernel
theorem dY_parts_289 : decode cY_parts 289 = .ok (.bipush 64, 2) := by decide +kernel
theorem dY_parts_291 : decode cY_parts 291 = .ok (.iload 6, 2) := by decide +kernel
theorem dY_parts_293 : decode cY_parts 293 = .ok (.isub, 1) := by decide +kernel
theorem dY_parts_294 : decode cY_parts 294 = .ok (.lushr, 1) := by decide +kernel
theorem dY_parts_295 : decode cY_parts 295 = .ok (.ldc2_w 149, 3) := by decide +kernel
theorem dY_parts_298 : decode cY_parts 298 = .ok (.lxor, 1) := by decide +kernel
theorem dY_parts_299 : decode cY_parts 299 = .ok (.land, 1) := by decide +kernel
theorem dY_parts_300 : decode cY_parts 300 = .ok (.lreturn, 1) := by decide +kernel
theorem dY_parts_301 : decode cY_parts 301 = .ok (.aload_n 0, 1) := by decide +kernel
theorem dY_parts_302 : decode cY_parts 302 = .ok (.iconst 1, 1) := by decide +kernel
theorem dY_parts_303 : decode cY_parts 303 = .ok (.putfield 143, 3) := by decide +kernel
theorem dY_parts_306 : decode cY_parts 306 = .ok (.lconst 0, 1) := by decide +kernel
theorem dY_parts_307 : decode cY_parts 307 = .ok (.lreturn, 1) := by decide +kernel
theorem dY_upper_0 : decode cY_upper 0 = .ok (.lload_n 0, 1) := by decide +kernel
theorem dY_upper_1 : decode cY_upper 1 = .ok (.bipush 32, 2) := by decide +kernel
theorem dY_upper_3 : decode cY_upper 3 = .ok (.lushr, 1) := by decide +kernel
theorem dY_upper_4 : decode cY_upper 4 = .ok (.lstore 4, 2) := by decide +kernel
theorem dY_upper_6 : decode cY_upper 6 = .ok (.lload_n 0, 1) := by decide +kernel
theorem dY_upper_7 : decode cY_upper 7 = .ok (.ldc2_w 165, 3) := by decide +kernel
theorem dY_upper_10 : decode cY_upper 10 = .ok (.land, 1) := by decide +kernel
theorem dY_upper_11 : decode cY_upper 11 = .ok (.lstore 6, 2) := by decide +kernel
theorem dY_upper_13 : decode cY_upper 13 = .ok (.lload_n 2, 1) := by decide +kernel
theorem dY_upper_14 : decode cY_upper 14 = .ok (.bipush 32, 2) := by decide +kernel
theorem dY_upper_16 : decode cY_upper 16 = .ok (.lushr, 1) := by decide +kernel
theorem dY_upper_17 : decode cY_upper 17 = .ok (.lstore 8, 2) := by decide +kernel
theorem dY_upper_19 : decode cY_upper 19 = .ok (.lload_n 2, 1) := by decide +kernel
theorem dY_upper_20 : decode cY_upper 20 = .ok (.ldc2_w 165, 3) := by decide +kernel
theorem dY_upper_23 : decode cY_upper 23 = .ok (.land, 1) := by decide +kernel
theorem dY_upper_24 : decode cY_upper 24 = .ok (.lstore 10, 2) := by decide +kernel
theorem dY_upper_26 : decode cY_upper 26 = .ok (.lload 6, 2) := by decide +kernel
theorem dY_upper_28 : decode cY_upper 28 = .ok (.lload 10, 2) := by decide +kernel
theorem dY_upper_30 : decode cY_upper 30 = .ok (.lmul, 1) := by decide +kernel
theorem dY_upper_31 : decode cY_upper 31 = .ok (.bipush 32, 2) := by decide +kernel
theorem dY_upper_33 : decode cY_upper 33 = .ok (.lushr, 1) := by decide +kernel
theorem dY_upper_34 : decode cY_upper 34 = .ok (.lstore 12, 2) := by decide +kernel
theorem dY_upper_36 : decode cY_upper 36 = .ok (.lload 4, 2) := by decide +kernel
theorem dY_upper_38 : decode cY_upper 38 = .ok (.lload 10, 2) := by decide +kernel
theorem dY_upper_40 : decode cY_upper 40 = .ok (.lmul, 1) := by decide +kernel
theorem dY_upper_41 : decode cY_upper 41 = .ok (.lload 12, 2) := by decide +kernel
theorem dY_upper_43 : decode cY_upper 43 = .ok (.ladd, 1) := by decide +kernel
theorem dY_upper_44 : decode cY_upper 44 = .ok (.lstore 14, 2) := by decide +kernel
theorem dY_upper_46 : decode cY_upper 46 = .ok (.lload 6, 2) := by decide +kernel
theorem dY_upper_48 : decode cY_upper 48 = .ok (.lload 8, 2) := by decide +kernel
theorem dY_upper_50 : decode cY_upper 50 = .ok (.lmul, 1) := by decide +kernel
theorem dY_upper_51 : decode cY_upper 51 = .ok (.lload 14, 2) := by decide +kernel
theorem dY_upper_53 : decode cY_upper 53 = .ok (.ldc2_w 165, 3) := by decide +kernel
theorem dY_upper_56 : decode cY_upper 56 = .ok (.land, 1) := by decide +kernel
theorem dY_upper_57 : decode cY_upper 57 = .ok (.ladd, 1) := by decide +kernel
theorem dY_upper_58 : decode cY_upper 58 = .ok (.lstore 16, 2) := by decide +kernel
theorem dY_upper_60 : decode cY_upper 60 = .ok (.lload 4, 2) := by decide +kernel
theorem dY_upper_62 : decode cY_upper 62 = .ok (.lload 8, 2) := by decide +kernel
theorem dY_upper_64 : decode cY_upper 64 = .ok (.lmul, 1) := by decide +kernel
theorem dY_upper_65 : decode cY_upper 65 = .ok (.lload 14, 2) := by decide +kernel
theorem dY_upper_67 : decode cY_upper 67 = .ok (.bipush 32, 2) := by decide +kernel
theorem dY_upper_69 : decode cY_upper 69 = .ok (.lushr, 1) := by decide +kernel
theorem dY_upper_70 : decode cY_upper 70 = .ok (.ladd, 1) := by decide +kernel
theorem dY_upper_71 : decode cY_upper 71 = .ok (.lload 16, 2) := by decide +kernel
theorem dY_upper_73 : decode cY_upper 73 = .ok (.bipush 32, 2) := by decide +kernel
theorem dY_upper_75 : decode cY_upper 75 = .ok (.lushr, 1) := by decide +kernel
theorem dY_upper_76 : decode cY_upper 76 = .ok (.ladd, 1) := by decide +kernel
theorem dY_upper_77 : decode cY_upper 77 = .ok (.lreturn, 1) := by decide +kernel
theorem dY_products_0 : decode cY_products 0 = .ok (.lload_n 2, 1) := by decide +kernel
theorem dY_products_1 : decode cY_products 1 = .ok (.lload 4, 2) := by decide +kernel
theorem dY_products_3 : decode cY_products 3 = .ok (.lmul, 1) := by decide +kernel
theorem dY_products_4 : decode cY_products 4 = .ok (.lstore 6, 2) := by decide +kernel
theorem dY_products_6 : decode cY_products 6 = .ok (.iload_n 1, 1) := by decide +kernel
theorem dY_products_7 : decode cY_products 7 = .ok (.ifCond .eq 9, 3) := by decide +kernel
theorem dY_products_10 : decode cY_products 10 = .ok (.iload_n 1, 1) := by decide +kernel
theorem dY_products_11 : decode cY_products 11 = .ok (.bipush 64, 2) := by decide +kernel
theorem dY_products_13 : decode cY_products 13 = .ok (.if_icmp .ne 43, 3) := by decide +kernel
theorem dY_products_16 : decode cY_products 16 = .ok (.aload_n 0, 1) := by decide +kernel
theorem dY_products_17 : decode cY_products 17 = .ok (.iload_n 1, 1) := by decide +kernel
theorem dY_products_18 : decode cY_products 18 = .ok (.bipush 64, 2) := by decide +kernel
theorem dY_products_20 : decode cY_products 20 = .ok (.if_icmp .ne 26, 3) := by decide +kernel
theorem dY_products_23 : decode cY_products 23 = .ok (.lload 6, 2) := by decide +kernel
theorem dY_products_25 : decode cY_products 25 = .ok (.invokestatic 129, 3) := by decide +kernel
theorem dY_products_28 : decode cY_products 28 = .ok (.lload_n 2, 1) := by decide +kernel
theorem dY_products_29 : decode cY_products 29 = .ok (.invokestatic 129, 3) := by decide +kernel
theorem dY_products_32 : decode cY_products 32 = .ok (.lload 4, 2) := by decide +kernel
theorem dY_products_34 : decode cY_products 34 = .ok (.invokestatic 129, 3) := by decide +kernel
theorem dY_products_37 : decode cY_products 37 = .ok (.lmul, 1) := by decide +kernel
theorem dY_products_38 : decode cY_products 38 = .ok (.lcmp, 1) := by decide +kernel
theorem dY_products_39 : decode cY_products 39 = .ok (.ifCond .eq 7, 3) := by decide +kernel
theorem dY_products_42 : decode cY_products 42 = .ok (.iconst 1, 1) := by decide +kernel
theorem dY_products_43 : decode cY_products 43 = .ok (.goto 4, 3) := by decide +kernel
theorem dY_products_46 : decode cY_products 46 = .ok (.iconst 0, 1) := by decide +kernel
theorem dY_products_47 : decode cY_products 47 = .ok (.putfield 146, 3) := by decide +kernel
theorem dY_products_50 : decode cY_products 50 = .ok (.lload 6, 2) := by decide +kernel
theorem dY_products_52 : decode cY_products 52 = .ok (.invokestatic 129, 3) := by decide +kernel
theorem dY_products_55 : decode cY_products 55 = .ok (.lreturn, 1) := by decide +kernel
theorem dY_products_56 : decode cY_products 56 = .ok (.iload_n 1, 1) := by decide +kernel
theorem dY_products_57 : decode cY_products 57 = .ok (.bipush 48, 2) := by decide +kernel
theorem dY_products_59 : decode cY_products 59 = .ok (.if_icmp .ne 10, 3) := by decide +kernel
theorem dY_products_62 : decode cY_products 62 = .ok (.lload_n 2, 1) := by decide +kernel
theorem dY_products_63 : decode cY_products 63 = .ok (.lload 4, 2) := by decide +kernel
theorem dY_products_65 : decode cY_products 65 = .ok (.invokestatic 167, 3) := by decide +kernel
theorem dY_products_68 : decode cY_products 68 = .ok (.lreturn, 1) := by decide +kernel
theorem dY_products_69 : decode cY_products 69 = .ok (.iload_n 1, 1) := by decide +kernel
theorem dY_products_70 : decode cY_products 70 = .ok (.bipush 32, 2) := by decide +kernel
theorem dY_products_72 : decode cY_products 72 = .ok (.if_icmp .eq 14, 3) := by decide +kernel
theorem dY_products_75 : decode cY_products 75 = .ok (.iload_n 1, 1) := by decide +kernel
theorem dY_products_76 : decode cY_products 76 = .ok (.bipush 96, 2) := by decide +kernel
theorem dY_products_78 : decode cY_products 78 = .ok (.if_icmp .eq 8, 3) := by decide +kernel
theorem dY_products_81 : decode cY_products 81 = .ok (.aload_n 0, 1) := by decide +kernel
theorem dY_products_82 : decode cY_products 82 = .ok (.iconst 1, 1) := by decide +kernel
theorem dY_products_83 : decode cY_products 83 = .ok (.putfield 143, 3) := by decide +kernel
theorem dY_products_86 : decode cY_products 86 = .ok (.lload_n 2, 1) := by decide +kernel
theorem dY_products_87 : decode cY_products 87 = .ok (.lload 4, 2) := by decide +kernel
theorem dY_products_89 : decode cY_products 89 = .ok (.invokestatic 167, 3) := by decide +kernel
theorem dY_products_92 : decode cY_products 92 = .ok (.lload_n 2, 1) := by decide +kernel
theorem dY_products_93 : decode cY_products 93 = .ok (.lconst 0, 1) := by decide +kernel
theorem dY_products_94 : decode cY_products 94 = .ok (.lcmp, 1) := by decide +kernel
theorem dY_products_95 : decode cY_products 95 = .ok (.ifCond .ge 8, 3) := by decide +kernel
theorem dY_products_98 : decode cY_products 98 = .ok (.lload 4, 2) := by decide +kernel
theorem dY_products_100 : decode cY_products 100 = .ok (.goto 4, 3) := by decide +kernel
theorem dY_products_103 : decode cY_products 103 = .ok (.lconst 0, 1) := by decide +kernel
theorem dY_products_104 : decode cY_products 104 = .ok (.lsub, 1) := by decide +kernel
theorem dY_products_105 : decode cY_products 105 = .ok (.lload 4, 2) := by decide +kernel
theorem dY_products_107 : decode cY_products 107 = .ok (.lconst 0, 1) := by decide +kernel
theorem dY_products_108 : decode cY_products 108 = .ok (.lcmp, 1) := by decide +kernel
theorem dY_products_109 : decode cY_products 109 = .ok (.ifCond .ge 7, 3) := by decide +kernel
theorem dY_products_112 : decode cY_products 112 = .ok (.lload_n 2, 1) := by decide +kernel
theorem dY_products_113 : decode cY_products 113 = .ok (.goto 4, 3) := by decide +kernel
theorem dY_products_116 : decode cY_products 116 = .ok (.lconst 0, 1) := by decide +kernel
theorem dY_products_117 : decode cY_products 117 = .ok (.lsub, 1) := by decide +kernel
theorem dY_products_118 : decode cY_products 118 = .ok (.lstore 8, 2) := by decide +kernel
theorem dY_products_120 : decode cY_products 120 = .ok (.aload_n 0, 1) := by decide +kernel
theorem dY_products_121 : decode cY_products 121 = .ok (.iload_n 1, 1) := by decide +kernel
theorem dY_products_122 : decode cY_products 122 = .ok (.bipush 96, 2) := by decide +kernel
theorem dY_products_124 : decode cY_products 124 = .ok (.if_icmp .ne 18, 3) := by decide +kernel
theorem dY_products_127 : decode cY_products 127 = .ok (.lload 8, 2) := by decide +kernel
theorem dY_products_129 : decode cY_products 129 = .ok (.lload 6, 2) := by decide +kernel
theorem dY_products_131 : decode cY_products 131 = .ok (.bipush 63, 2) := by decide +kernel
theorem dY_products_133 : decode cY_products 133 = .ok (.lshr, 1) := by decide +kernel
theorem dY_products_134 : decode cY_products 134 = .ok (.lcmp, 1) := by decide +kernel
theorem dY_products_135 : decode cY_products 135 = .ok (.ifCond .eq 7, 3) := by decide +kernel
theorem dY_products_138 : decode cY_products 138 = .ok (.iconst 1, 1) := by decide +kernel
theorem dY_products_139 : decode cY_products 139 = .ok (.goto 4, 3) := by decide +kernel
theorem dY_products_142 : decode cY_products 142 = .ok (.iconst 0, 1) := by decide +kernel
theorem dY_products_143 : decode cY_products 143 = .ok (.putfield 146, 3) := by decide +kernel
theorem dY_products_146 : decode cY_products 146 = .ok (.lload 6, 2) := by decide +kernel
theorem dY_products_148 : decode cY_products 148 = .ok (.lreturn, 1) := by decide +kernel
theorem dY_meets_0 : decode cY_meets 0 = .ok (.iload_n 0, 1) := by decide +kernel
theorem dY_meets_1 : decode cY_meets 1 = .ok (.tableswitch 147 56 63 #[47, 61, 73, 85, 97, 111, 123, 135], 47) := by decide +kernel
theorem dY_meets_48 : decode cY_meets 48 = .ok (.lload_n 1, 1) := by decide +kernel
theorem dY_meets_49 : decode cY_meets 49 = .ok (.lconst 1, 1) := by decide +kernel
theorem dY_meets_50 : decode cY_meets 50 = .ok (.land, 1) := by decide +kernel
theorem dY_meets_51 : decode cY_meets 51 = .ok (.lconst 0, 1) := by decide +kernel
theorem dY_meets_52 : decode cY_meets 52 = .ok (.lcmp, 1) := by decide +kernel
theorem dY_meets_53 : decode cY_meets 53 = .ok (.ifCond .ne 7, 3) := by decide +kernel
theorem dY_meets_56 : decode cY_meets 56 = .ok (.iconst 1, 1) := by decide +kernel
theorem dY_meets_57 : decode cY_meets 57 = .ok (.goto 4, 3) := by decide +kernel
theorem dY_meets_60 : decode cY_meets 60 = .ok (.iconst 0, 1) := by decide +kernel
theorem dY_meets_61 : decode cY_meets 61 = .ok (.ireturn, 1) := by decide +kernel
theorem dY_meets_62 : decode cY_meets 62 = .ok (.lload_n 1, 1) := by decide +kernel
theorem dY_meets_63 : decode cY_meets 63 = .ok (.lconst 0, 1) := by decide +kernel
theorem dY_meets_64 : decode cY_meets 64 = .ok (.lcmp, 1) := by decide +kernel
theorem dY_meets_65 : decode cY_meets 65 = .ok (.ifCond .ne 7, 3) := by decide +kernel
theorem dY_meets_68 : decode cY_meets 68 = .ok (.iconst 1, 1) := by decide +kernel
theorem dY_meets_69 : decode cY_meets 69 = .ok (.goto 4, 3) := by decide +kernel
theorem dY_meets_72 : decode cY_meets 72 = .ok (.iconst 0, 1) := by decide +kernel
theorem dY_meets_73 : decode cY_meets 73 = .ok (.ireturn, 1) := by decide +kernel
theorem dY_meets_74 : decode cY_meets 74 = .ok (.lload_n 1, 1) := by decide +kernel
theorem dY_meets_75 : decode cY_meets 75 = .ok (.lconst 0, 1) := by decide +kernel
theorem dY_meets_76 : decode cY_meets 76 = .ok (.lcmp, 1) := by decide +kernel
theorem dY_meets_77 : decode cY_meets 77 = .ok (.ifCond .ge 7, 3) := by decide +kernel
theorem dY_meets_80 : decode cY_meets 80 = .ok (.iconst 1, 1) := by decide +kernel
theorem dY_meets_81 : decode cY_meets 81 = .ok (.goto 4, 3) := by decide +kernel
theorem dY_meets_84 : decode cY_meets 84 = .ok (.iconst 0, 1) := by decide +kernel
theorem dY_meets_85 : decode cY_meets 85 = .ok (.ireturn, 1) := by decide +kernel
theorem dY_meets_86 : decode cY_meets 86 = .ok (.lload_n 1, 1) := by decide +kernel
theorem dY_meets_87 : decode cY_meets 87 = .ok (.lconst 0, 1) := by decide +kernel
theorem dY_meets_88 : decode cY_meets 88 = .ok (.lcmp, 1) := by decide +kernel
theorem dY_meets_89 : decode cY_meets 89 = .ok (.ifCond .gt 7, 3) := by decide +kernel
theorem dY_meets_92 : decode cY_meets 92 = .ok (.iconst 1, 1) := by decide +kernel
theorem dY_meets_93 : decode cY_meets 93 = .ok (.goto 4, 3) := by decide +kernel
theorem dY_meets_96 : decode cY_meets 96 = .ok (.iconst 0, 1) := by decide +kernel
theorem dY_meets_97 : decode cY_meets 97 = .ok (.ireturn, 1) := by decide +kernel
theorem dY_meets_98 : decode cY_meets 98 = .ok (.lload_n 1, 1) := by decide +kernel
theorem dY_meets_99 : decode cY_meets 99 = .ok (.lconst 1, 1) := by decide +kernel
theorem dY_meets_100 : decode cY_meets 100 = .ok (.land, 1) := by decide +kernel
theorem dY_meets_101 : decode cY_meets 101 = .ok (.lconst 1, 1) := by decide +kernel
theorem dY_meets_102 : decode cY_meets 102 = .ok (.lcmp, 1) := by decide +kernel
theorem dY_meets_103 : decode cY_meets 103 = .ok (.ifCond .ne 7, 3) := by decide +kernel
theorem dY_meets_106 : decode cY_meets 106 = .ok (.iconst 1, 1) := by decide +kernel
theorem dY_meets_107 : decode cY_meets 107 = .ok (.goto 4, 3) := by decide +kernel
theorem dY_meets_110 : decode cY_meets 110 = .ok (.iconst 0, 1) := by decide +kernel
theorem dY_meets_111 : decode cY_meets 111 = .ok (.ireturn, 1) := by decide +kernel
theorem dY_meets_112 : decode cY_meets 112 = .ok (.lload_n 1, 1) := by decide +kernel
theorem dY_meets_113 : decode cY_meets 113 = .ok (.lconst 0, 1) := by decide +kernel
theorem dY_meets_114 : decode cY_meets 114 = .ok (.lcmp, 1) := by decide +kernel
theorem dY_meets_115 : decode cY_meets 115 = .ok (.ifCond .eq 7, 3) := by decide +kernel
theorem dY_meets_118 : decode cY_meets 118 = .ok (.iconst 1, 1) := by decide +kernel
theorem dY_meets_119 : decode cY_meets 119 = .ok (.goto 4, 3) := by decide +kernel
theorem dY_meets_122 : decode cY_meets 122 = .ok (.iconst 0, 1) := by decide +kernel
theorem dY_meets_123 : decode cY_meets 123 = .ok (.ireturn, 1) := by decide +kernel
theorem dY_meets_124 : decode cY_meets 124 = .ok (.lload_n 1, 1) := by decide +kernel
theorem dY_meets_125 : decode cY_meets 125 = .ok (.lconst 0, 1) := by decide +kernel
theorem dY_meets_126 : decode cY_meets 126 = .ok (.lcmp, 1) := by decide +kernel
theorem dY_meets_127 : decode cY_meets 127 = .ok (.ifCond .lt 7, 3) := by decide +kernel
theorem dY_meets_130 : decode cY_meets 130 = .ok (.iconst 1, 1) := by decide +kernel
theorem dY_meets_131 : decode cY_meets 131 = .ok (.goto 4, 3) := by decide +kernel
theorem dY_meets_134 : decode cY_meets 134 = .ok (.iconst 0, 1) := by decide +kernel
theorem dY_meets_135 : decode cY_meets 135 = .ok (.ireturn, 1) := by decide +kernel
theorem dY_meets_136 : decode cY_meets 136 = .ok (.lload_n 1, 1) := by decide +kernel
theorem dY_meets_137 : decode cY_meets 137 = .ok (.lconst 0, 1) := by decide +kernel
theorem dY_meets_138 : decode cY_meets 138 = .ok (.lcmp, 1) := by decide +kernel
theorem dY_meets_139 : decode cY_meets 139 = .ok (.ifCond .le 7, 3) := by decide +kernel
theorem dY_meets_142 : decode cY_meets 142 = .ok (.iconst 1, 1) := by decide +kernel
theorem dY_meets_143 : decode cY_meets 143 = .ok (.goto 4, 3) := by decide +kernel
theorem dY_meets_146 : decode cY_meets 146 = .ok (.iconst 0, 1) := by decide +kernel
theorem dY_meets_147 : decode cY_meets 147 = .ok (.ireturn, 1) := by decide +kernel
theorem dY_meets_148 : decode cY_meets 148 = .ok (.iconst 1, 1) := by decide +kernel
theorem dY_meets_149 : decode cY_meets 149 = .ok (.ireturn, 1) := by decide +kernel
