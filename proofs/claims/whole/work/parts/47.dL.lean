theorem dL_law_0 : decode code 0 = .ok (.new 7, 3) := by decide +kernel
theorem dL_law_3 : decode code 3 = .ok (.dup, 1) := by decide +kernel
theorem dL_law_4 : decode code 4 = .ok (.invokespecial 9, 3) := by decide +kernel
theorem dL_law_7 : decode code 7 = .ok (.astore_n 1, 1) := by decide +kernel
theorem dL_law_8 : decode code 8 = .ok (.new 10, 3) := by decide +kernel
theorem dL_law_11 : decode code 11 = .ok (.dup, 1) := by decide +kernel
theorem dL_law_12 : decode code 12 = .ok (.invokespecial 12, 3) := by decide +kernel
theorem dL_law_15 : decode code 15 = .ok (.astore_n 2, 1) := by decide +kernel
theorem dL_law_16 : decode code 16 = .ok (.iconst 0, 1) := by decide +kernel
theorem dL_law_17 : decode code 17 = .ok (.istore_n 3, 1) := by decide +kernel
theorem dL_law_18 : decode code 18 = .ok (.iload_n 3, 1) := by decide +kernel
theorem dL_law_19 : decode code 19 = .ok (.aload_n 0, 1) := by decide +kernel
theorem dL_law_20 : decode code 20 = .ok (.arraylength, 1) := by decide +kernel
theorem dL_law_21 : decode code 21 = .ok (.iconst 4, 1) := by decide +kernel
theorem dL_law_22 : decode code 22 = .ok (.isub, 1) := by decide +kernel
theorem dL_law_23 : decode code 23 = .ok (.if_icmp .gt 312, 3) := by decide +kernel
theorem dL_law_26 : decode code 26 = .ok (.aload_n 0, 1) := by decide +kernel
theorem dL_law_27 : decode code 27 = .ok (.iload_n 3, 1) := by decide +kernel
theorem dL_law_28 : decode code 28 = .ok (.iaload, 1) := by decide +kernel
theorem dL_law_29 : decode code 29 = .ok (.bipush 7, 2) := by decide +kernel
theorem dL_law_31 : decode code 31 = .ok (.iand, 1) := by decide +kernel
theorem dL_law_32 : decode code 32 = .ok (.tableswitch 297 0 6 #[44, 107, 170, 203, 226, 250, 274], 44) := by decide +kernel
theorem dL_law_76 : decode code 76 = .ok (.aload_n 1, 1) := by decide +kernel
theorem dL_law_77 : decode code 77 = .ok (.aload_n 0, 1) := by decide +kernel
theorem dL_law_78 : decode code 78 = .ok (.iload_n 3, 1) := by decide +kernel
theorem dL_law_79 : decode code 79 = .ok (.iconst 1, 1) := by decide +kernel
theorem dL_law_80 : decode code 80 = .ok (.iadd, 1) := by decide +kernel
theorem dL_law_81 : decode code 81 = .ok (.iaload, 1) := by decide +kernel
theorem dL_law_82 : decode code 82 = .ok (.aload_n 0, 1) := by decide +kernel
theorem dL_law_83 : decode code 83 = .ok (.iload_n 3, 1) := by decide +kernel
theorem dL_law_84 : decode code 84 = .ok (.iconst 2, 1) := by decide +kernel
theorem dL_law_85 : decode code 85 = .ok (.iadd, 1) := by decide +kernel
theorem dL_law_86 : decode code 86 = .ok (.iaload, 1) := by decide +kernel
theorem dL_law_87 : decode code 87 = .ok (.i2l, 1) := by decide +kernel
theorem dL_law_88 : decode code 88 = .ok (.bipush 32, 2) := by decide +kernel
theorem dL_law_90 : decode code 90 = .ok (.lshl, 1) := by decide +kernel
theorem dL_law_91 : decode code 91 = .ok (.aload_n 0, 1) := by decide +kernel
theorem dL_law_92 : decode code 92 = .ok (.iload_n 3, 1) := by decide +kernel
theorem dL_law_93 : decode code 93 = .ok (.iconst 3, 1) := by decide +kernel
theorem dL_law_94 : decode code 94 = .ok (.iadd, 1) := by decide +kernel
theorem dL_law_95 : decode code 95 = .ok (.iaload, 1) := by decide +kernel
theorem dL_law_96 : decode code 96 = .ok (.i2l, 1) := by decide +kernel
theorem dL_law_97 : decode code 97 = .ok (.ldc2_w 13, 3) := by decide +kernel
theorem dL_law_100 : decode code 100 = .ok (.land, 1) := by decide +kernel
theorem dL_law_101 : decode code 101 = .ok (.lor, 1) := by decide +kernel
theorem dL_law_102 : decode code 102 = .ok (.invokevirtual 15, 3) := by decide +kernel
theorem dL_law_105 : decode code 105 = .ok (.aload_n 2, 1) := by decide +kernel
theorem dL_law_106 : decode code 106 = .ok (.aload_n 0, 1) := by decide +kernel
theorem dL_law_107 : decode code 107 = .ok (.iload_n 3, 1) := by decide +kernel
theorem dL_law_108 : decode code 108 = .ok (.iconst 1, 1) := by decide +kernel
theorem dL_law_109 : decode code 109 = .ok (.iadd, 1) := by decide +kernel
theorem dL_law_110 : decode code 110 = .ok (.iaload, 1) := by decide +kernel
theorem dL_law_111 : decode code 111 = .ok (.aload_n 0, 1) := by decide +kernel
theorem dL_law_112 : decode code 112 = .ok (.iload_n 3, 1) := by decide +kernel
theorem dL_law_113 : decode code 113 = .ok (.iconst 2, 1) := by decide +kernel
theorem dL_law_114 : decode code 114 = .ok (.iadd, 1) := by decide +kernel
theorem dL_law_115 : decode code 115 = .ok (.iaload, 1) := by decide +kernel
theorem dL_law_116 : decode code 116 = .ok (.i2l, 1) := by decide +kernel
theorem dL_law_117 : decode code 117 = .ok (.bipush 32, 2) := by decide +kernel
theorem dL_law_119 : decode code 119 = .ok (.lshl, 1) := by decide +kernel
theorem dL_law_120 : decode code 120 = .ok (.aload_n 0, 1) := by decide +kernel
theorem dL_law_121 : decode code 121 = .ok (.iload_n 3, 1) := by decide +kernel
theorem dL_law_122 : decode code 122 = .ok (.iconst 3, 1) := by decide +kernel
theorem dL_law_123 : decode code 123 = .ok (.iadd, 1) := by decide +kernel
theorem dL_law_124 : decode code 124 = .ok (.iaload, 1) := by decide +kernel
theorem dL_law_125 : decode code 125 = .ok (.i2l, 1) := by decide +kernel
theorem dL_law_126 : decode code 126 = .ok (.ldc2_w 13, 3) := by decide +kernel
theorem dL_law_129 : decode code 129 = .ok (.land, 1) := by decide +kernel
theorem dL_law_130 : decode code 130 = .ok (.lor, 1) := by decide +kernel
theorem dL_law_131 : decode code 131 = .ok (.invokevirtual 19, 3) := by decide +kernel
theorem dL_law_134 : decode code 134 = .ok (.if_icmp .eq 195, 3) := by decide +kernel
theorem dL_law_137 : decode code 137 = .ok (.iconst 0, 1) := by decide +kernel
theorem dL_law_138 : decode code 138 = .ok (.ireturn, 1) := by decide +kernel
theorem dL_law_139 : decode code 139 = .ok (.aload_n 1, 1) := by decide +kernel
theorem dL_law_140 : decode code 140 = .ok (.aload_n 0, 1) := by decide +kernel
theorem dL_law_141 : decode code 141 = .ok (.iload_n 3, 1) := by decide +kernel
theorem dL_law_142 : decode code 142 = .ok (.iconst 1, 1) := by decide +kernel
theorem dL_law_143 : decode code 143 = .ok (.iadd, 1) := by decide +kernel
theorem dL_law_144 : decode code 144 = .ok (.iaload, 1) := by decide +kernel
theorem dL_law_145 : decode code 145 = .ok (.aload_n 0, 1) := by decide +kernel
theorem dL_law_146 : decode code 146 = .ok (.iload_n 3, 1) := by decide +kernel
theorem dL_law_147 : decode code 147 = .ok (.iconst 2, 1) := by decide +kernel
theorem dL_law_148 : decode code 148 = .ok (.iadd, 1) := by decide +kernel
theorem dL_law_149 : decode code 149 = .ok (.iaload, 1) := by decide +kernel
theorem dL_law_150 : decode code 150 = .ok (.i2l, 1) := by decide +kernel
theorem dL_law_151 : decode code 151 = .ok (.bipush 32, 2) := by decide +kernel
theorem dL_law_153 : decode code 153 = .ok (.lshl, 1) := by decide +kernel
theorem dL_law_154 : decode code 154 = .ok (.aload_n 0, 1) := by decide +kernel
theorem dL_law_155 : decode code 155 = .ok (.iload_n 3, 1) := by decide +kernel
theorem dL_law_156 : decode code 156 = .ok (.iconst 3, 1) := by decide +kernel
theorem dL_law_157 : decode code 157 = .ok (.iadd, 1) := by decide +kernel
theorem dL_law_158 : decode code 158 = .ok (.iaload, 1) := by decide +kernel
theorem dL_law_159 : decode code 159 = .ok (.i2l, 1) := by decide +kernel
theorem dL_law_160 : decode code 160 = .ok (.ldc2_w 13, 3) := by decide +kernel
theorem dL_law_163 : decode code 163 = .ok (.land, 1) := by decide +kernel
theorem dL_law_164 : decode code 164 = .ok (.lor, 1) := by decide +kernel
theorem dL_law_165 : decode code 165 = .ok (.invokevirtual 20, 3) := by decide +kernel
theorem dL_law_168 : decode code 168 = .ok (.aload_n 2, 1) := by decide +kernel
theorem dL_law_169 : decode code 169 = .ok (.aload_n 0, 1) := by decide +kernel
theorem dL_law_170 : decode code 170 = .ok (.iload_n 3, 1) := by decide +kernel
theorem dL_law_171 : decode code 171 = .ok (.iconst 1, 1) := by decide +kernel
theorem dL_law_172 : decode code 172 = .ok (.iadd, 1) := by decide +kernel
theorem dL_law_173 : decode code 173 = .ok (.iaload, 1) := by decide +kernel
theorem dL_law_174 : decode code 174 = .ok (.aload_n 0, 1) := by decide +kernel
theorem dL_law_175 : decode code 175 = .ok (.iload_n 3, 1) := by decide +kernel
theorem dL_law_176 : decode code 176 = .ok (.iconst 2, 1) := by decide +kernel
theorem dL_law_177 : decode code 177 = .ok (.iadd, 1) := by decide +kernel
theorem dL_law_178 : decode code 178 = .ok (.iaload, 1) := by decide +kernel
theorem dL_law_179 : decode code 179 = .ok (.i2l, 1) := by decide +kernel
theorem dL_law_180 : decode code 180 = .ok (.bipush 32, 2) := by decide +kernel
theorem dL_law_182 : decode code 182 = .ok (.lshl, 1) := by decide +kernel
theorem dL_law_183 : decode code 183 = .ok (.aload_n 0, 1) := by decide +kernel
theorem dL_law_184 : decode code 184 = .ok (.iload_n 3, 1) := by decide +kernel
theorem dL_law_185 : decode code 185 = .ok (.iconst 3, 1) := by decide +kernel
theorem dL_law_186 : decode code 186 = .ok (.iadd, 1) := by decide +kernel
theorem dL_law_187 : decode code 187 = .ok (.iaload, 1) := by decide +kernel
theorem dL_law_188 : decode code 188 = .ok (.i2l, 1) := by decide +kernel
theorem dL_law_189 : decode code 189 = .ok (.ldc2_w 13, 3) := by decide +kernel
theorem dL_law_192 : decode code 192 = .ok (.land, 1) := by decide +kernel
theorem dL_law_193 : decode code 193 = .ok (.lor, 1) := by decide +kernel
theorem dL_law_194 : decode code 194 = .ok (.invokevirtual 23, 3) := by decide +kernel
theorem dL_law_197 : decode code 197 = .ok (.if_icmp .eq 132, 3) := by decide +kernel
theorem dL_law_200 : decode code 200 = .ok (.iconst 0, 1) := by decide +kernel
theorem dL_law_201 : decode code 201 = .ok (.ireturn, 1) := by decide +kernel
theorem dL_law_202 : decode code 202 = .ok (.aload_n 1, 1) := by decide +kernel
theorem dL_law_203 : decode code 203 = .ok (.aload_n 0, 1) := by decide +kernel
theorem dL_law_204 : decode code 204 = .ok (.iload_n 3, 1) := by decide +kernel
theorem dL_law_205 : decode code 205 = .ok (.iconst 1, 1) := by decide +kernel
theorem dL_law_206 : decode code 206 = .ok (.iadd, 1) := by decide +kernel
theorem dL_law_207 : decode code 207 = .ok (.iaload, 1) := by decide +kernel
theorem dL_law_208 : decode code 208 = .ok (.aload_n 0, 1) := by decide +kernel
theorem dL_law_209 : decode code 209 = .ok (.iload_n 3, 1) := by decide +kernel
theorem dL_law_210 : decode code 210 = .ok (.iconst 2, 1) := by decide +kernel
theorem dL_law_211 : decode code 211 = .ok (.iadd, 1) := by decide +kernel
theorem dL_law_212 : decode code 212 = .ok (.iaload, 1) := by decide +kernel
theorem dL_law_213 : decode code 213 = .ok (.invokevirtual 24, 3) := by decide +kernel
theorem dL_law_216 : decode code 216 = .ok (.aload_n 2, 1) := by decide +kernel
theorem dL_law_217 : decode code 217 = .ok (.aload_n 0, 1) := by decide +kernel
theorem dL_law_218 : decode code 218 = .ok (.iload_n 3, 1) := by decide +kernel
theorem dL_law_219 : decode code 219 = .ok (.iconst 1, 1) := by decide +kernel
theorem dL_law_220 : decode code 220 = .ok (.iadd, 1) := by decide +kernel
theorem dL_law_221 : decode code 221 = .ok (.iaload, 1) := by decide +kernel
theorem dL_law_222 : decode code 222 = .ok (.aload_n 0, 1) := by decide +kernel
theorem dL_law_223 : decode code 223 = .ok (.iload_n 3, 1) := by decide +kernel
theorem dL_law_224 : decode code 224 = .ok (.iconst 2, 1) := by decide +kernel
theorem dL_law_225 : decode code 225 = .ok (.iadd, 1) := by decide +kernel
theorem dL_law_226 : decode code 226 = .ok (.iaload, 1) := by decide +kernel
theorem dL_law_227 : decode code 227 = .ok (.invokevirtual 28, 3) := by decide +kernel
theorem dL_law_230 : decode code 230 = .ok (.if_icmp .eq 99, 3) := by decide +kernel
theorem dL_law_233 : decode code 233 = .ok (.iconst 0, 1) := by decide +kernel
theorem dL_law_234 : decode code 234 = .ok (.ireturn, 1) := by decide +kernel
theorem dL_law_235 : decode code 235 = .ok (.aload_n 1, 1) := by decide +kernel
theorem dL_law_236 : decode code 236 = .ok (.aload_n 0, 1) := by decide +kernel
theorem dL_law_237 : decode code 237 = .ok (.iload_n 3, 1) := by decide +kernel
theorem dL_law_238 : decode code 238 = .ok (.iconst 1, 1) := by decide +kernel
theorem dL_law_239 : decode code 239 = .ok (.iadd, 1) := by decide +kernel
theorem dL_law_240 : decode code 240 = .ok (.iaload, 1) := by decide +kernel
theorem dL_law_241 : decode code 241 = .ok (.invokevirtual 29, 3) := by decide +kernel
theorem dL_law_244 : decode code 244 = .ok (.aload_n 2, 1) := by decide +kernel
theorem dL_law_245 : decode code 245 = .ok (.aload_n 0, 1) := by decide +kernel
theorem dL_law_246 : decode code 246 = .ok (.iload_n 3, 1) := by decide +kernel
theorem dL_law_247 : decode code 247 = .ok (.iconst 1, 1) := by decide +kernel
theorem dL_law_248 : decode code 248 = .ok (.iadd, 1) := by decide +kernel
theorem dL_law_249 : decode code 249 = .ok (.iaload, 1) := by decide +kernel
theorem dL_law_250 : decode code 250 = .ok (.invokevirtual 33, 3) := by decide +kernel
theorem dL_law_253 : decode code 253 = .ok (.if_icmp .eq 76, 3) := by decide +kernel
theorem dL_law_256 : decode code 256 = .ok (.iconst 0, 1) := by decide +kernel
theorem dL_law_257 : decode code 257 = .ok (.ireturn, 1) := by decide +kernel
theorem dL_law_258 : decode code 258 = .ok (.aload_n 1, 1) := by decide +kernel
theorem dL_law_259 : decode code 259 = .ok (.aload_n 0, 1) := by decide +kernel
theorem dL_law_260 : decode code 260 = .ok (.iload_n 3, 1) := by decide +kernel
theorem dL_law_261 : decode code 261 = .ok (.iconst 1, 1) := by decide +kernel
theorem dL_law_262 : decode code 262 = .ok (.iadd, 1) := by decide +kernel
theorem dL_law_263 : decode code 263 = .ok (.iaload, 1) := by decide +kernel
theorem dL_law_264 : decode code 264 = .ok (.invokevirtual 34, 3) := by decide +kernel
theorem dL_law_267 : decode code 267 = .ok (.aload_n 2, 1) := by decide +kernel
theorem dL_law_268 : decode code 268 = .ok (.aload_n 0, 1) := by decide +kernel
theorem dL_law_269 : decode code 269 = .ok (.iload_n 3, 1) := by decide +kernel
theorem dL_law_270 : decode code 270 = .ok (.iconst 1, 1) := by decide +kernel
theorem dL_law_271 : decode code 271 = .ok (.iadd, 1) := by decide +kernel
theorem dL_law_272 : decode code 272 = .ok (.iaload, 1) := by decide +kernel
theorem dL_law_273 : decode code 273 = .ok (.invokevirtual 38, 3) := by decide +kernel
theorem dL_law_276 : decode code 276 = .ok (.lcmp, 1) := by decide +kernel
theorem dL_law_277 : decode code 277 = .ok (.ifCond .eq 52, 3) := by decide +kernel
theorem dL_law_280 : decode code 280 = .ok (.iconst 0, 1) := by decide +kernel
theorem dL_law_281 : decode code 281 = .ok (.ireturn, 1) := by decide +kernel
theorem dL_law_282 : decode code 282 = .ok (.aload_n 1, 1) := by decide +kernel
theorem dL_law_283 : decode code 283 = .ok (.aload_n 0, 1) := by decide +kernel
theorem dL_law_284 : decode code 284 = .ok (.iload_n 3, 1) := by decide +kernel
theorem dL_law_285 : decode code 285 = .ok (.iconst 1, 1) := by decide +kernel
theorem dL_law_286 : decode code 286 = .ok (.iadd, 1) := by decide +kernel
theorem dL_law_287 : decode code 287 = .ok (.iaload, 1) := by decide +kernel
theorem dL_law_288 : decode code 288 = .ok (.invokevirtual 39, 3) := by decide +kernel
theorem dL_law_291 : decode code 291 = .ok (.aload_n 2, 1) := by decide +kernel
theorem dL_law_292 : decode code 292 = .ok (.aload_n 0, 1) := by decide +kernel
theorem dL_law_293 : decode code 293 = .ok (.iload_n 3, 1) := by decide +kernel
theorem dL_law_294 : decode code 294 = .ok (.iconst 1, 1) := by decide +kernel
theorem dL_law_295 : decode code 295 = .ok (.iadd, 1) := by decide +kernel
theorem dL_law_296 : decode code 296 = .ok (.iaload, 1) := by decide +kernel
theorem dL_law_297 : decode code 297 = .ok (.invokevirtual 42, 3) := by decide +kernel
theorem dL_law_300 : decode code 300 = .ok (.lcmp, 1) := by decide +kernel
theorem dL_law_301 : decode code 301 = .ok (.ifCond .eq 28, 3) := by decide +kernel
theorem dL_law_304 : decode code 304 = .ok (.iconst 0, 1) := by decide +kernel
theorem dL_law_305 : decode code 305 = .ok (.ireturn, 1) := by decide +kernel
theorem dL_law_306 : decode code 306 = .ok (.aload_n 1, 1) := by decide +kernel
theorem dL_law_307 : decode code 307 = .ok (.aload_n 0, 1) := by decide +kernel
theorem dL_law_308 : decode code 308 = .ok (.iload_n 3, 1) := by decide +kernel
theorem dL_law_309 : decode code 309 = .ok (.iconst 1, 1) := by decide +kernel
theorem dL_law_310 : decode code 310 = .ok (.iadd, 1) := by decide +kernel
theorem dL_law_311 : decode code 311 = .ok (.iaload, 1) := by decide +kernel
theorem dL_law_312 : decode code 312 = .ok (.invokevirtual 43, 3) := by decide +kernel
theorem dL_law_315 : decode code 315 = .ok (.aload_n 2, 1) := by decide +kernel
theorem dL_law_316 : decode code 316 = .ok (.aload_n 0, 1) := by decide +kernel
theorem dL_law_317 : decode code 317 = .ok (.iload_n 3, 1) := by decide +kernel
theorem dL_law_318 : decode code 318 = .ok (.iconst 1, 1) := by decide +kernel
theorem dL_law_319 : decode code 319 = .ok (.iadd, 1) := by decide +kernel
theorem dL_law_320 : decode code 320 = .ok (.iaload, 1) := by decide +kernel
theorem dL_law_321 : decode code 321 = .ok (.invokevirtual 46, 3) := by decide +kernel
theorem dL_law_324 : decode code 324 = .ok (.if_icmp .eq 5, 3) := by decide +kernel
theorem dL_law_327 : decode code 327 = .ok (.iconst 0, 1) := by decide +kernel
theorem dL_law_328 : decode code 328 = .ok (.ireturn, 1) := by decide +kernel
theorem dL_law_329 : decode code 329 = .ok (.iinc 3 4, 3) := by decide +kernel
theorem dL_law_332 : decode code 332 = .ok (.goto (-314), 3) := by decide +kernel
theorem dL_law_335 : decode code 335 = .ok (.iconst 1, 1) := by decide +kernel
theorem dL_law_336 : decode code 336 = .ok (.ireturn, 1) := by decide +kernel
