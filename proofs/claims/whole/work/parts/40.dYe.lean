theorem dY_entry_0 : decode cY_entry 0 = .ok (.bipush 8, 2) := by decide +kernel
theorem dY_entry_2 : decode cY_entry 2 = .ok (.aload_n 0, 1) := by decide +kernel
theorem dY_entry_3 : decode cY_entry 3 = .ok (.getfield 76, 3) := by decide +kernel
theorem dY_entry_6 : decode cY_entry 6 = .ok (.imul, 1) := by decide +kernel
theorem dY_entry_7 : decode cY_entry 7 = .ok (.aload_n 0, 1) := by decide +kernel
theorem dY_entry_8 : decode cY_entry 8 = .ok (.getfield 17, 3) := by decide +kernel
theorem dY_entry_11 : decode cY_entry 11 = .ok (.iadd, 1) := by decide +kernel
theorem dY_entry_12 : decode cY_entry 12 = .ok (.istore 10, 2) := by decide +kernel
theorem dY_entry_14 : decode cY_entry 14 = .ok (.aload_n 0, 1) := by decide +kernel
theorem dY_entry_15 : decode cY_entry 15 = .ok (.getfield 76, 3) := by decide +kernel
theorem dY_entry_18 : decode cY_entry 18 = .ok (.iconst 1, 1) := by decide +kernel
theorem dY_entry_19 : decode cY_entry 19 = .ok (.if_icmp .ne 25, 3) := by decide +kernel
theorem dY_entry_22 : decode cY_entry 22 = .ok (.aload_n 0, 1) := by decide +kernel
theorem dY_entry_23 : decode cY_entry 23 = .ok (.aload_n 0, 1) := by decide +kernel
theorem dY_entry_24 : decode cY_entry 24 = .ok (.getfield 13, 3) := by decide +kernel
theorem dY_entry_27 : decode cY_entry 27 = .ok (.bipush 30, 2) := by decide +kernel
theorem dY_entry_29 : decode cY_entry 29 = .ok (.laload, 1) := by decide +kernel
theorem dY_entry_30 : decode cY_entry 30 = .ok (.putfield 87, 3) := by decide +kernel
theorem dY_entry_33 : decode cY_entry 33 = .ok (.aload_n 0, 1) := by decide +kernel
theorem dY_entry_34 : decode cY_entry 34 = .ok (.getfield 13, 3) := by decide +kernel
theorem dY_entry_37 : decode cY_entry 37 = .ok (.bipush 30, 2) := by decide +kernel
theorem dY_entry_39 : decode cY_entry 39 = .ok (.aload_n 0, 1) := by decide +kernel
theorem dY_entry_40 : decode cY_entry 40 = .ok (.getfield 91, 3) := by decide +kernel
theorem dY_entry_43 : decode cY_entry 43 = .ok (.lastore, 1) := by decide +kernel
theorem dY_entry_44 : decode cY_entry 44 = .ok (.aload_n 0, 1) := by decide +kernel
theorem dY_entry_45 : decode cY_entry 45 = .ok (.iconst 0, 1) := by decide +kernel
theorem dY_entry_46 : decode cY_entry 46 = .ok (.putfield 76, 3) := by decide +kernel
theorem dY_entry_49 : decode cY_entry 49 = .ok (.aload_n 0, 1) := by decide +kernel
theorem dY_entry_50 : decode cY_entry 50 = .ok (.getfield 13, 3) := by decide +kernel
theorem dY_entry_53 : decode cY_entry 53 = .ok (.bipush 30, 2) := by decide +kernel
theorem dY_entry_55 : decode cY_entry 55 = .ok (.laload, 1) := by decide +kernel
theorem dY_entry_56 : decode cY_entry 56 = .ok (.ldc2_w 94, 3) := by decide +kernel
theorem dY_entry_59 : decode cY_entry 59 = .ok (.lrem, 1) := by decide +kernel
theorem dY_entry_60 : decode cY_entry 60 = .ok (.lconst 0, 1) := by decide +kernel
theorem dY_entry_61 : decode cY_entry 61 = .ok (.lcmp, 1) := by decide +kernel
theorem dY_entry_62 : decode cY_entry 62 = .ok (.ifCond .ne 7, 3) := by decide +kernel
theorem dY_entry_65 : decode cY_entry 65 = .ok (.iconst 1, 1) := by decide +kernel
theorem dY_entry_66 : decode cY_entry 66 = .ok (.goto 4, 3) := by decide +kernel
theorem dY_entry_69 : decode cY_entry 69 = .ok (.iconst 0, 1) := by decide +kernel
theorem dY_entry_70 : decode cY_entry 70 = .ok (.istore 11, 2) := by decide +kernel
theorem dY_entry_72 : decode cY_entry 72 = .ok (.aload_n 0, 1) := by decide +kernel
theorem dY_entry_73 : decode cY_entry 73 = .ok (.getfield 39, 3) := by decide +kernel
theorem dY_entry_76 : decode cY_entry 76 = .ok (.iconst 0, 1) := by decide +kernel
theorem dY_entry_77 : decode cY_entry 77 = .ok (.iload 10, 2) := by decide +kernel
theorem dY_entry_79 : decode cY_entry 79 = .ok (.i2l, 1) := by decide +kernel
theorem dY_entry_80 : decode cY_entry 80 = .ok (.lastore, 1) := by decide +kernel
theorem dY_entry_81 : decode cY_entry 81 = .ok (.aload_n 0, 1) := by decide +kernel
theorem dY_entry_82 : decode cY_entry 82 = .ok (.getfield 39, 3) := by decide +kernel
theorem dY_entry_85 : decode cY_entry 85 = .ok (.iconst 1, 1) := by decide +kernel
theorem dY_entry_86 : decode cY_entry 86 = .ok (.lload 8, 2) := by decide +kernel
theorem dY_entry_88 : decode cY_entry 88 = .ok (.lastore, 1) := by decide +kernel
theorem dY_entry_89 : decode cY_entry 89 = .ok (.aload_n 0, 1) := by decide +kernel
theorem dY_entry_90 : decode cY_entry 90 = .ok (.getfield 39, 3) := by decide +kernel
theorem dY_entry_93 : decode cY_entry 93 = .ok (.iconst 2, 1) := by decide +kernel
theorem dY_entry_94 : decode cY_entry 94 = .ok (.aload_n 0, 1) := by decide +kernel
theorem dY_entry_95 : decode cY_entry 95 = .ok (.getfield 13, 3) := by decide +kernel
theorem dY_entry_98 : decode cY_entry 98 = .ok (.bipush 29, 2) := by decide +kernel
theorem dY_entry_100 : decode cY_entry 100 = .ok (.laload, 1) := by decide +kernel
theorem dY_entry_101 : decode cY_entry 101 = .ok (.lastore, 1) := by decide +kernel
theorem dY_entry_102 : decode cY_entry 102 = .ok (.iconst 0, 1) := by decide +kernel
theorem dY_entry_103 : decode cY_entry 103 = .ok (.istore 12, 2) := by decide +kernel
theorem dY_entry_105 : decode cY_entry 105 = .ok (.iload 12, 2) := by decide +kernel
theorem dY_entry_107 : decode cY_entry 107 = .ok (.iconst 3, 1) := by decide +kernel
theorem dY_entry_108 : decode cY_entry 108 = .ok (.if_icmp .ge 28, 3) := by decide +kernel
theorem dY_entry_111 : decode cY_entry 111 = .ok (.aload_n 0, 1) := by decide +kernel
theorem dY_entry_112 : decode cY_entry 112 = .ok (.getfield 39, 3) := by decide +kernel
theorem dY_entry_115 : decode cY_entry 115 = .ok (.iconst 3, 1) := by decide +kernel
theorem dY_entry_116 : decode cY_entry 116 = .ok (.iload 12, 2) := by decide +kernel
theorem dY_entry_118 : decode cY_entry 118 = .ok (.iadd, 1) := by decide +kernel
theorem dY_entry_119 : decode cY_entry 119 = .ok (.aload_n 0, 1) := by decide +kernel
theorem dY_entry_120 : decode cY_entry 120 = .ok (.getfield 13, 3) := by decide +kernel
theorem dY_entry_123 : decode cY_entry 123 = .ok (.bipush 16, 2) := by decide +kernel
theorem dY_entry_125 : decode cY_entry 125 = .ok (.iload 12, 2) := by decide +kernel
theorem dY_entry_127 : decode cY_entry 127 = .ok (.iadd, 1) := by decide +kernel
theorem dY_entry_128 : decode cY_entry 128 = .ok (.laload, 1) := by decide +kernel
theorem dY_entry_129 : decode cY_entry 129 = .ok (.lastore, 1) := by decide +kernel
theorem dY_entry_130 : decode cY_entry 130 = .ok (.iinc 12 1, 3) := by decide +kernel
theorem dY_entry_133 : decode cY_entry 133 = .ok (.goto (-28), 3) := by decide +kernel
theorem dY_entry_136 : decode cY_entry 136 = .ok (.iconst 0, 1) := by decide +kernel
theorem dY_entry_137 : decode cY_entry 137 = .ok (.istore 12, 2) := by decide +kernel
theorem dY_entry_139 : decode cY_entry 139 = .ok (.iload 12, 2) := by decide +kernel
theorem dY_entry_141 : decode cY_entry 141 = .ok (.bipush 6, 2) := by decide +kernel
theorem dY_entry_143 : decode cY_entry 143 = .ok (.if_icmp .ge 71, 3) := by decide +kernel
theorem dY_entry_146 : decode cY_entry 146 = .ok (.iload 11, 2) := by decide +kernel
theorem dY_entry_148 : decode cY_entry 148 = .ok (.ifCond .eq 66, 3) := by decide +kernel
theorem dY_entry_151 : decode cY_entry 151 = .ok (.aload_n 0, 1) := by decide +kernel
theorem dY_entry_152 : decode cY_entry 152 = .ok (.aload_n 0, 1) := by decide +kernel
theorem dY_entry_153 : decode cY_entry 153 = .ok (.getfield 13, 3) := by decide +kernel
theorem dY_entry_156 : decode cY_entry 156 = .ok (.bipush 30, 2) := by decide +kernel
theorem dY_entry_158 : decode cY_entry 158 = .ok (.laload, 1) := by decide +kernel
theorem dY_entry_159 : decode cY_entry 159 = .ok (.ldc2_w 96, 3) := by decide +kernel
theorem dY_entry_162 : decode cY_entry 162 = .ok (.lsub, 1) := by decide +kernel
theorem dY_entry_163 : decode cY_entry 163 = .ok (.bipush 8, 2) := by decide +kernel
theorem dY_entry_165 : decode cY_entry 165 = .ok (.iload 12, 2) := by decide +kernel
theorem dY_entry_167 : decode cY_entry 167 = .ok (.imul, 1) := by decide +kernel
theorem dY_entry_168 : decode cY_entry 168 = .ok (.i2l, 1) := by decide +kernel
theorem dY_entry_169 : decode cY_entry 169 = .ok (.ladd, 1) := by decide +kernel
theorem dY_entry_170 : decode cY_entry 170 = .ok (.iconst 1, 1) := by decide +kernel
theorem dY_entry_171 : decode cY_entry 171 = .ok (.invokevirtual 98, 3) := by decide +kernel
theorem dY_entry_174 : decode cY_entry 174 = .ok (.istore 13, 2) := by decide +kernel
theorem dY_entry_176 : decode cY_entry 176 = .ok (.iload 13, 2) := by decide +kernel
theorem dY_entry_178 : decode cY_entry 178 = .ok (.ifCond .lt 7, 3) := by decide +kernel
theorem dY_entry_181 : decode cY_entry 181 = .ok (.iconst 1, 1) := by decide +kernel
theorem dY_entry_182 : decode cY_entry 182 = .ok (.goto 4, 3) := by decide +kernel
theorem dY_entry_185 : decode cY_entry 185 = .ok (.iconst 0, 1) := by decide +kernel
theorem dY_entry_186 : decode cY_entry 186 = .ok (.istore 11, 2) := by decide +kernel
theorem dY_entry_188 : decode cY_entry 188 = .ok (.iload 11, 2) := by decide +kernel
theorem dY_entry_190 : decode cY_entry 190 = .ok (.ifCond .eq 18, 3) := by decide +kernel
theorem dY_entry_193 : decode cY_entry 193 = .ok (.aload_n 0, 1) := by decide +kernel
theorem dY_entry_194 : decode cY_entry 194 = .ok (.iload 13, 2) := by decide +kernel
theorem dY_entry_196 : decode cY_entry 196 = .ok (.bipush 8, 2) := by decide +kernel
theorem dY_entry_198 : decode cY_entry 198 = .ok (.aload_n 0, 1) := by decide +kernel
theorem dY_entry_199 : decode cY_entry 199 = .ok (.getfield 39, 3) := by decide +kernel
theorem dY_entry_202 : decode cY_entry 202 = .ok (.iload 12, 2) := by decide +kernel
theorem dY_entry_204 : decode cY_entry 204 = .ok (.laload, 1) := by decide +kernel
theorem dY_entry_205 : decode cY_entry 205 = .ok (.invokevirtual 102, 3) := by decide +kernel
theorem dY_entry_208 : decode cY_entry 208 = .ok (.iinc 12 1, 3) := by decide +kernel
theorem dY_entry_211 : decode cY_entry 211 = .ok (.goto (-72), 3) := by decide +kernel
theorem dY_entry_214 : decode cY_entry 214 = .ok (.iload 11, 2) := by decide +kernel
theorem dY_entry_216 : decode cY_entry 216 = .ok (.ifCond .ne 9, 3) := by decide +kernel
theorem dY_entry_219 : decode cY_entry 219 = .ok (.aload_n 0, 1) := by decide +kernel
theorem dY_entry_220 : decode cY_entry 220 = .ok (.iconst 2, 1) := by decide +kernel
theorem dY_entry_221 : decode cY_entry 221 = .ok (.putfield 106, 3) := by decide +kernel
theorem dY_entry_224 : decode cY_entry 224 = .ok (.return_, 1) := by decide +kernel
theorem dY_entry_225 : decode cY_entry 225 = .ok (.aload_n 0, 1) := by decide +kernel
theorem dY_entry_226 : decode cY_entry 226 = .ok (.getfield 13, 3) := by decide +kernel
theorem dY_entry_229 : decode cY_entry 229 = .ok (.bipush 30, 2) := by decide +kernel
theorem dY_entry_231 : decode cY_entry 231 = .ok (.dup2, 1) := by decide +kernel
theorem dY_entry_232 : decode cY_entry 232 = .ok (.laload, 1) := by decide +kernel
theorem dY_entry_233 : decode cY_entry 233 = .ok (.ldc2_w 96, 3) := by decide +kernel
theorem dY_entry_236 : decode cY_entry 236 = .ok (.lsub, 1) := by decide +kernel
theorem dY_entry_237 : decode cY_entry 237 = .ok (.lastore, 1) := by decide +kernel
theorem dY_entry_238 : decode cY_entry 238 = .ok (.aload_n 0, 1) := by decide +kernel
theorem dY_entry_239 : decode cY_entry 239 = .ok (.getfield 13, 3) := by decide +kernel
theorem dY_entry_242 : decode cY_entry 242 = .ok (.bipush 16, 2) := by decide +kernel
theorem dY_entry_244 : decode cY_entry 244 = .ok (.lload_n 2, 1) := by decide +kernel
theorem dY_entry_245 : decode cY_entry 245 = .ok (.lastore, 1) := by decide +kernel
theorem dY_entry_246 : decode cY_entry 246 = .ok (.aload_n 0, 1) := by decide +kernel
theorem dY_entry_247 : decode cY_entry 247 = .ok (.getfield 13, 3) := by decide +kernel
theorem dY_entry_250 : decode cY_entry 250 = .ok (.bipush 17, 2) := by decide +kernel
theorem dY_entry_252 : decode cY_entry 252 = .ok (.lload 4, 2) := by decide +kernel
theorem dY_entry_254 : decode cY_entry 254 = .ok (.lastore, 1) := by decide +kernel
theorem dY_entry_255 : decode cY_entry 255 = .ok (.aload_n 0, 1) := by decide +kernel
theorem dY_entry_256 : decode cY_entry 256 = .ok (.getfield 13, 3) := by decide +kernel
theorem dY_entry_259 : decode cY_entry 259 = .ok (.bipush 18, 2) := by decide +kernel
theorem dY_entry_261 : decode cY_entry 261 = .ok (.lload 6, 2) := by decide +kernel
theorem dY_entry_263 : decode cY_entry 263 = .ok (.lastore, 1) := by decide +kernel
theorem dY_entry_264 : decode cY_entry 264 = .ok (.aload_n 0, 1) := by decide +kernel
theorem dY_entry_265 : decode cY_entry 265 = .ok (.getfield 13, 3) := by decide +kernel
theorem dY_entry_268 : decode cY_entry 268 = .ok (.bipush 29, 2) := by decide +kernel
theorem dY_entry_270 : decode cY_entry 270 = .ok (.aload_n 0, 1) := by decide +kernel
theorem dY_entry_271 : decode cY_entry 271 = .ok (.getfield 109, 3) := by decide +kernel
theorem dY_entry_274 : decode cY_entry 274 = .ok (.lastore, 1) := by decide +kernel
theorem dY_entry_275 : decode cY_entry 275 = .ok (.aload_n 0, 1) := by decide +kernel
theorem dY_entry_276 : decode cY_entry 276 = .ok (.iconst 0, 1) := by decide +kernel
theorem dY_entry_277 : decode cY_entry 277 = .ok (.putfield 112, 3) := by decide +kernel
theorem dY_entry_280 : decode cY_entry 280 = .ok (.aload_n 0, 1) := by decide +kernel
theorem dY_entry_281 : decode cY_entry 281 = .ok (.aload_n 0, 1) := by decide +kernel
theorem dY_entry_282 : decode cY_entry 282 = .ok (.getfield 21, 3) := by decide +kernel
theorem dY_entry_285 : decode cY_entry 285 = .ok (.iload_n 1, 1) := by decide +kernel
theorem dY_entry_286 : decode cY_entry 286 = .ok (.laload, 1) := by decide +kernel
theorem dY_entry_287 : decode cY_entry 287 = .ok (.putfield 116, 3) := by decide +kernel
theorem dY_entry_290 : decode cY_entry 290 = .ok (.aload_n 0, 1) := by decide +kernel
theorem dY_entry_291 : decode cY_entry 291 = .ok (.dup, 1) := by decide +kernel
theorem dY_entry_292 : decode cY_entry 292 = .ok (.getfield 119, 3) := by decide +kernel
theorem dY_entry_295 : decode cY_entry 295 = .ok (.iconst 1, 1) := by decide +kernel
theorem dY_entry_296 : decode cY_entry 296 = .ok (.iadd, 1) := by decide +kernel
theorem dY_entry_297 : decode cY_entry 297 = .ok (.putfield 119, 3) := by decide +kernel
theorem dY_entry_300 : decode cY_entry 300 = .ok (.return_, 1) := by decide +kernel
theorem dY_wrong_0 : decode cY_wrong 0 = .ok (.aload_n 0, 1) := by decide +kernel
theorem dY_wrong_1 : decode cY_wrong 1 = .ok (.iconst 3, 1) := by decide +kernel
theorem dY_wrong_2 : decode cY_wrong 2 = .ok (.iload_n 1, 1) := by decide +kernel
theorem dY_wrong_3 : decode cY_wrong 3 = .ok (.i2l, 1) := by decide +kernel
theorem dY_wrong_4 : decode cY_wrong 4 = .ok (.lconst 0, 1) := by decide +kernel
theorem dY_wrong_5 : decode cY_wrong 5 = .ok (.lconst 0, 1) := by decide +kernel
theorem dY_wrong_6 : decode cY_wrong 6 = .ok (.aload_n 0, 1) := by decide +kernel
theorem dY_wrong_7 : decode cY_wrong 7 = .ok (.getfield 122, 3) := by decide +kernel
theorem dY_wrong_10 : decode cY_wrong 10 = .ok (.invokevirtual 125, 3) := by decide +kernel
theorem dY_wrong_13 : decode cY_wrong 13 = .ok (.return_, 1) := by decide +kernel
theorem dY_fault_0 : decode cY_fault 0 = .ok (.aload_n 0, 1) := by decide +kernel
theorem dY_fault_1 : decode cY_fault 1 = .ok (.iconst 2, 1) := by decide +kernel
theorem dY_fault_2 : decode cY_fault 2 = .ok (.lload_n 1, 1) := by decide +kernel
theorem dY_fault_3 : decode cY_fault 3 = .ok (.iconst (-1), 1) := by decide +kernel
theorem dY_fault_4 : decode cY_fault 4 = .ok (.iload_n 3, 1) := by decide +kernel
theorem dY_fault_5 : decode cY_fault 5 = .ok (.isub, 1) := by decide +kernel
theorem dY_fault_6 : decode cY_fault 6 = .ok (.i2l, 1) := by decide +kernel
theorem dY_fault_7 : decode cY_fault 7 = .ok (.iload 4, 2) := by decide +kernel
theorem dY_fault_9 : decode cY_fault 9 = .ok (.i2l, 1) := by decide +kernel
theorem dY_fault_10 : decode cY_fault 10 = .ok (.aload_n 0, 1) := by decide +kernel
theorem dY_fault_11 : decode cY_fault 11 = .ok (.getfield 122, 3) := by decide +kernel
theorem dY_fault_14 : decode cY_fault 14 = .ok (.invokevirtual 125, 3) := by decide +kernel
theorem dY_fault_17 : decode cY_fault 17 = .ok (.return_, 1) := by decide +kernel
theorem dY_back_0 : decode cY_back 0 = .ok (.aload_n 0, 1) := by decide +kernel
theorem dY_back_1 : decode cY_back 1 = .ok (.getfield 13, 3) := by decide +kernel
theorem dY_back_4 : decode cY_back 4 = .ok (.bipush 30, 2) := by decide +kernel
theorem dY_back_6 : decode cY_back 6 = .ok (.laload, 1) := by decide +kernel
theorem dY_back_7 : decode cY_back 7 = .ok (.ldc2_w 94, 3) := by decide +kernel
theorem dY_back_10 : decode cY_back 10 = .ok (.lrem, 1) := by decide +kernel
theorem dY_back_11 : decode cY_back 11 = .ok (.lconst 0, 1) := by decide +kernel
theorem dY_back_12 : decode cY_back 12 = .ok (.lcmp, 1) := by decide +kernel
theorem dY_back_13 : decode cY_back 13 = .ok (.ifCond .ne 7, 3) := by decide +kernel
theorem dY_back_16 : decode cY_back 16 = .ok (.iconst 1, 1) := by decide +kernel
theorem dY_back_17 : decode cY_back 17 = .ok (.goto 4, 3) := by decide +kernel
theorem dY_back_20 : decode cY_back 20 = .ok (.iconst 0, 1) := by decide +kernel
theorem dY_back_21 : decode cY_back 21 = .ok (.istore_n 1, 1) := by decide +kernel
theorem dY_back_22 : decode cY_back 22 = .ok (.iconst 0, 1) := by decide +kernel
theorem dY_back_23 : decode cY_back 23 = .ok (.istore_n 2, 1) := by decide +kernel
theorem dY_back_24 : decode cY_back 24 = .ok (.iload_n 2, 1) := by decide +kernel
theorem dY_back_25 : decode cY_back 25 = .ok (.bipush 6, 2) := by decide +kernel
theorem dY_back_27 : decode cY_back 27 = .ok (.if_icmp .ge 59, 3) := by decide +kernel
theorem dY_back_30 : decode cY_back 30 = .ok (.iload_n 1, 1) := by decide +kernel
theorem dY_back_31 : decode cY_back 31 = .ok (.ifCond .eq 55, 3) := by decide +kernel
theorem dY_back_34 : decode cY_back 34 = .ok (.aload_n 0, 1) := by decide +kernel
theorem dY_back_35 : decode cY_back 35 = .ok (.aload_n 0, 1) := by decide +kernel
theorem dY_back_36 : decode cY_back 36 = .ok (.getfield 13, 3) := by decide +kernel
theorem dY_back_39 : decode cY_back 39 = .ok (.bipush 30, 2) := by decide +kernel
theorem dY_back_41 : decode cY_back 41 = .ok (.laload, 1) := by decide +kernel
theorem dY_back_42 : decode cY_back 42 = .ok (.bipush 8, 2) := by decide +kernel
theorem dY_back_44 : decode cY_back 44 = .ok (.iload_n 2, 1) := by decide +kernel
theorem dY_back_45 : decode cY_back 45 = .ok (.imul, 1) := by decide +kernel
theorem dY_back_46 : decode cY_back 46 = .ok (.i2l, 1) := by decide +kernel
theorem dY_back_47 : decode cY_back 47 = .ok (.ladd, 1) := by decide +kernel
theorem dY_back_48 : decode cY_back 48 = .ok (.iconst 0, 1) := by decide +kernel
theorem dY_back_49 : decode cY_back 49 = .ok (.invokevirtual 98, 3) := by decide +kernel
theorem dY_back_52 : decode cY_back 52 = .ok (.istore_n 3, 1) := by decide +kernel
theorem dY_back_53 : decode cY_back 53 = .ok (.iload_n 3, 1) := by decide +kernel
theorem dY_back_54 : decode cY_back 54 = .ok (.ifCond .lt 7, 3) := by decide +kernel
theorem dY_back_57 : decode cY_back 57 = .ok (.iconst 1, 1) := by decide +kernel
theorem dY_back_58 : decode cY_back 58 = .ok (.goto 4, 3) := by decide +kernel
theorem dY_back_61 : decode cY_back 61 = .ok (.iconst 0, 1) := by decide +kernel
theorem dY_back_62 : decode cY_back 62 = .ok (.istore_n 1, 1) := by decide +kernel
theorem dY_back_63 : decode cY_back 63 = .ok (.iload_n 1, 1) := by decide +kernel
theorem dY_back_64 : decode cY_back 64 = .ok (.ifCond .eq 16, 3) := by decide +kernel
theorem dY_back_67 : decode cY_back 67 = .ok (.aload_n 0, 1) := by decide +kernel
theorem dY_back_68 : decode cY_back 68 = .ok (.getfield 39, 3) := by decide +kernel
theorem dY_back_71 : decode cY_back 71 = .ok (.iload_n 2, 1) := by decide +kernel
theorem dY_back_72 : decode cY_back 72 = .ok (.aload_n 0, 1) := by decide +kernel
theorem dY_back_73 : decode cY_back 73 = .ok (.iload_n 3, 1) := by decide +kernel
theorem dY_back_74 : decode cY_back 74 = .ok (.bipush 8, 2) := by decide +kernel
theorem dY_back_76 : decode cY_back 76 = .ok (.invokevirtual 55, 3) := by decide +kernel
theorem dY_back_79 : decode cY_back 79 = .ok (.lastore, 1) := by decide +kernel
theorem dY_back_80 : decode cY_back 80 = .ok (.iinc 2 1, 3) := by decide +kernel
theorem dY_back_83 : decode cY_back 83 = .ok (.goto (-59), 3) := by decide +kernel
theorem dY_back_86 : decode cY_back 86 = .ok (.iload_n 1, 1) := by decide +kernel
theorem dY_back_87 : decode cY_back 87 = .ok (.ifCond .ne 9, 3) := by decide +kernel
theorem dY_back_90 : decode cY_back 90 = .ok (.aload_n 0, 1) := by decide +kernel
theorem dY_back_91 : decode cY_back 91 = .ok (.iconst 3, 1) := by decide +kernel
theorem dY_back_92 : decode cY_back 92 = .ok (.putfield 106, 3) := by decide +kernel
theorem dY_back_95 : decode cY_back 95 = .ok (.return_, 1) := by decide +kernel
theorem dY_back_96 : decode cY_back 96 = .ok (.aload_n 0, 1) := by decide +kernel
theorem dY_back_97 : decode cY_back 97 = .ok (.aload_n 0, 1) := by decide +kernel
theorem dY_back_98 : decode cY_back 98 = .ok (.getfield 39, 3) := by decide +kernel
theorem dY_back_101 : decode cY_back 101 = .ok (.iconst 0, 1) := by decide +kernel
theorem dY_back_102 : decode cY_back 102 = .ok (.laload, 1) := by decide +kernel
theorem dY_back_103 : decode cY_back 103 = .ok (.iconst 3, 1) := by decide +kernel
theorem dY_back_104 : decode cY_back 104 = .ok (.lshr, 1) := by decide +kernel
theorem dY_back_105 : decode cY_back 105 = .ok (.lconst 1, 1) := by decide +kernel
theorem dY_back_106 : decode cY_back 106 = .ok (.land, 1) := by decide +kernel
theorem dY_back_107 : decode cY_back 107 = .ok (.l2i, 1) := by decide +kernel
theorem dY_back_108 : decode cY_back 108 = .ok (.putfield 76, 3) := by decide +kernel
theorem dY_back_111 : decode cY_back 111 = .ok (.aload_n 0, 1) := by decide +kernel
theorem dY_back_112 : decode cY_back 112 = .ok (.aload_n 0, 1) := by decide +kernel
theorem dY_back_113 : decode cY_back 113 = .ok (.getfield 39, 3) := by decide +kernel
theorem dY_back_116 : decode cY_back 116 = .ok (.iconst 0, 1) := by decide +kernel
theorem dY_back_117 : decode cY_back 117 = .ok (.laload, 1) := by decide +kernel
theorem dY_back_118 : decode cY_back 118 = .ok (.ldc2_w 154, 3) := by decide +kernel
theorem dY_back_121 : decode cY_back 121 = .ok (.land, 1) := by decide +kernel
theorem dY_back_122 : decode cY_back 122 = .ok (.l2i, 1) := by decide +kernel
theorem dY_back_123 : decode cY_back 123 = .ok (.putfield 17, 3) := by decide +kernel
theorem dY_back_126 : decode cY_back 126 = .ok (.aload_n 0, 1) := by decide +kernel
theorem dY_back_127 : decode cY_back 127 = .ok (.aload_n 0, 1) := by decide +kernel
theorem dY_back_128 : decode cY_back 128 = .ok (.getfield 39, 3) := by decide +kernel
theorem dY_back_131 : decode cY_back 131 = .ok (.iconst 1, 1) := by decide +kernel
theorem dY_back_132 : decode cY_back 132 = .ok (.laload, 1) := by decide +kernel
theorem dY_back_133 : decode cY_back 133 = .ok (.ldc2_w 214, 3) := by decide +kernel
theorem dY_back_136 : decode cY_back 136 = .ok (.land, 1) := by decide +kernel
theorem dY_back_137 : decode cY_back 137 = .ok (.putfield 116, 3) := by decide +kernel
theorem dY_back_140 : decode cY_back 140 = .ok (.aload_n 0, 1) := by decide +kernel
theorem dY_back_141 : decode cY_back 141 = .ok (.getfield 13, 3) := by decide +kernel
theorem dY_back_144 : decode cY_back 144 = .ok (.bipush 29, 2) := by decide +kernel
theorem dY_back_146 : decode cY_back 146 = .ok (.aload_n 0, 1) := by decide +kernel
theorem dY_back_147 : decode cY_back 147 = .ok (.getfield 39, 3) := by decide +kernel
theorem dY_back_150 : decode cY_back 150 = .ok (.iconst 2, 1) := by decide +kernel
theorem dY_back_151 : decode cY_back 151 = .ok (.laload, 1) := by decide +kernel
theorem dY_back_152 : decode cY_back 152 = .ok (.lastore, 1) := by decide +kernel
theorem dY_back_153 : decode cY_back 153 = .ok (.iconst 0, 1) := by decide +kernel
theorem dY_back_154 : decode cY_back 154 = .ok (.istore_n 2, 1) := by decide +kernel
theorem dY_back_155 : decode cY_back 155 = .ok (.iload_n 2, 1) := by decide +kernel
theorem dY_back_156 : decode cY_back 156 = .ok (.iconst 3, 1) := by decide +kernel
theorem dY_back_157 : decode cY_back 157 = .ok (.if_icmp .ge 26, 3) := by decide +kernel
theorem dY_back_160 : decode cY_back 160 = .ok (.aload_n 0, 1) := by decide +kernel
theorem dY_back_161 : decode cY_back 161 = .ok (.getfield 13, 3) := by decide +kernel
theorem dY_back_164 : decode cY_back 164 = .ok (.bipush 16, 2) := by decide +kernel
theorem dY_back_166 : decode cY_back 166 = .ok (.iload_n 2, 1) := by decide +kernel
theorem dY_back_167 : decode cY_back 167 = .ok (.iadd, 1) := by decide +kernel
theorem dY_back_168 : decode cY_back 168 = .ok (.aload_n 0, 1) := by decide +kernel
theorem dY_back_169 : decode cY_back 169 = .ok (.getfield 39, 3) := by decide +kernel
theorem dY_back_172 : decode cY_back 172 = .ok (.iconst 3, 1) := by decide +kernel
theorem dY_back_173 : decode cY_back 173 = .ok (.iload_n 2, 1) := by decide +kernel
theorem dY_back_174 : decode cY_back 174 = .ok (.iadd, 1) := by decide +kernel
theorem dY_back_175 : decode cY_back 175 = .ok (.laload, 1) := by decide +kernel
theorem dY_back_176 : decode cY_back 176 = .ok (.lastore, 1) := by decide +kernel
theorem dY_back_177 : decode cY_back 177 = .ok (.iinc 2 1, 3) := by decide +kernel
theorem dY_back_180 : decode cY_back 180 = .ok (.goto (-25), 3) := by decide +kernel
theorem dY_back_183 : decode cY_back 183 = .ok (.aload_n 0, 1) := by decide +kernel
theorem dY_back_184 : decode cY_back 184 = .ok (.getfield 13, 3) := by decide +kernel
theorem dY_back_187 : decode cY_back 187 = .ok (.bipush 30, 2) := by decide +kernel
theorem dY_back_189 : decode cY_back 189 = .ok (.dup2, 1) := by decide +kernel
theorem dY_back_190 : decode cY_back 190 = .ok (.laload, 1) := by decide +kernel
theorem dY_back_191 : decode cY_back 191 = .ok (.ldc2_w 96, 3) := by decide +kernel
theorem dY_back_194 : decode cY_back 194 = .ok (.ladd, 1) := by decide +kernel
theorem dY_back_195 : decode cY_back 195 = .ok (.lastore, 1) := by decide +kernel
theorem dY_back_196 : decode cY_back 196 = .ok (.aload_n 0, 1) := by decide +kernel
theorem dY_back_197 : decode cY_back 197 = .ok (.getfield 76, 3) := by decide +kernel
theorem dY_back_200 : decode cY_back 200 = .ok (.iconst 1, 1) := by decide +kernel
theorem dY_back_201 : decode cY_back 201 = .ok (.if_icmp .ne 25, 3) := by decide +kernel
theorem dY_back_204 : decode cY_back 204 = .ok (.aload_n 0, 1) := by decide +kernel
theorem dY_back_205 : decode cY_back 205 = .ok (.aload_n 0, 1) := by decide +kernel
theorem dY_back_206 : decode cY_back 206 = .ok (.getfield 13, 3) := by decide +kernel
theorem dY_back_209 : decode cY_back 209 = .ok (.bipush 30, 2) := by decide +kernel
theorem dY_back_211 : decode cY_back 211 = .ok (.laload, 1) := by decide +kernel
theorem dY_back_212 : decode cY_back 212 = .ok (.putfield 91, 3) := by decide +kernel
theorem dY_back_215 : decode cY_back 215 = .ok (.aload_n 0, 1) := by decide +kernel
theorem dY_back_216 : decode cY_back 216 = .ok (.getfield 13, 3) := by decide +kernel
theorem dY_back_219 : decode cY_back 219 = .ok (.bipush 30, 2) := by decide +kernel
theorem dY_back_221 : decode cY_back 221 = .ok (.aload_n 0, 1) := by decide +kernel
theorem dY_back_222 : decode cY_back 222 = .ok (.getfield 87, 3) := by decide +kernel
theorem dY_back_225 : decode cY_back 225 = .ok (.lastore, 1) := by decide +kernel
theorem dY_back_226 : decode cY_back 226 = .ok (.aload_n 0, 1) := by decide +kernel
theorem dY_back_227 : decode cY_back 227 = .ok (.iconst 0, 1) := by decide +kernel
theorem dY_back_228 : decode cY_back 228 = .ok (.putfield 112, 3) := by decide +kernel
theorem dY_back_231 : decode cY_back 231 = .ok (.return_, 1) := by decide +kernel
