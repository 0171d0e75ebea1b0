theorem dX4_operate_0 : decode cX4_operate 0 = .ok (.aload_n 0, 1) := by decide +kernel
theorem dX4_operate_1 : decode cX4_operate 1 = .ok (.getfield 16, 3) := by decide +kernel
theorem dX4_operate_4 : decode cX4_operate 4 = .ok (.iload_n 1, 1) := by decide +kernel
theorem dX4_operate_5 : decode cX4_operate 5 = .ok (.bipush 21, 2) := by decide +kernel
theorem dX4_operate_7 : decode cX4_operate 7 = .ok (.iushr, 1) := by decide +kernel
theorem dX4_operate_8 : decode cX4_operate 8 = .ok (.bipush 31, 2) := by decide +kernel
theorem dX4_operate_10 : decode cX4_operate 10 = .ok (.iand, 1) := by decide +kernel
theorem dX4_operate_11 : decode cX4_operate 11 = .ok (.laload, 1) := by decide +kernel
theorem dX4_operate_12 : decode cX4_operate 12 = .ok (.lstore_n 2, 1) := by decide +kernel
theorem dX4_operate_13 : decode cX4_operate 13 = .ok (.iload_n 1, 1) := by decide +kernel
theorem dX4_operate_14 : decode cX4_operate 14 = .ok (.bipush 12, 2) := by decide +kernel
theorem dX4_operate_16 : decode cX4_operate 16 = .ok (.iushr, 1) := by decide +kernel
theorem dX4_operate_17 : decode cX4_operate 17 = .ok (.iconst 1, 1) := by decide +kernel
theorem dX4_operate_18 : decode cX4_operate 18 = .ok (.iand, 1) := by decide +kernel
theorem dX4_operate_19 : decode cX4_operate 19 = .ok (.iconst 1, 1) := by decide +kernel
theorem dX4_operate_20 : decode cX4_operate 20 = .ok (.if_icmp .ne 15, 3) := by decide +kernel
theorem dX4_operate_23 : decode cX4_operate 23 = .ok (.iload_n 1, 1) := by decide +kernel
theorem dX4_operate_24 : decode cX4_operate 24 = .ok (.bipush 13, 2) := by decide +kernel
theorem dX4_operate_26 : decode cX4_operate 26 = .ok (.iushr, 1) := by decide +kernel
theorem dX4_operate_27 : decode cX4_operate 27 = .ok (.sipush 255, 3) := by decide +kernel
theorem dX4_operate_30 : decode cX4_operate 30 = .ok (.iand, 1) := by decide +kernel
theorem dX4_operate_31 : decode cX4_operate 31 = .ok (.i2l, 1) := by decide +kernel
theorem dX4_operate_32 : decode cX4_operate 32 = .ok (.goto 15, 3) := by decide +kernel
theorem dX4_operate_35 : decode cX4_operate 35 = .ok (.aload_n 0, 1) := by decide +kernel
theorem dX4_operate_36 : decode cX4_operate 36 = .ok (.getfield 16, 3) := by decide +kernel
theorem dX4_operate_39 : decode cX4_operate 39 = .ok (.iload_n 1, 1) := by decide +kernel
theorem dX4_operate_40 : decode cX4_operate 40 = .ok (.bipush 16, 2) := by decide +kernel
theorem dX4_operate_42 : decode cX4_operate 42 = .ok (.iushr, 1) := by decide +kernel
theorem dX4_operate_43 : decode cX4_operate 43 = .ok (.bipush 31, 2) := by decide +kernel
theorem dX4_operate_45 : decode cX4_operate 45 = .ok (.iand, 1) := by decide +kernel
theorem dX4_operate_46 : decode cX4_operate 46 = .ok (.laload, 1) := by decide +kernel
theorem dX4_operate_47 : decode cX4_operate 47 = .ok (.lstore 4, 2) := by decide +kernel
theorem dX4_operate_49 : decode cX4_operate 49 = .ok (.aload_n 0, 1) := by decide +kernel
theorem dX4_operate_50 : decode cX4_operate 50 = .ok (.getfield 36, 3) := by decide +kernel
theorem dX4_operate_53 : decode cX4_operate 53 = .ok (.iload_n 1, 1) := by decide +kernel
theorem dX4_operate_54 : decode cX4_operate 54 = .ok (.bipush 26, 2) := by decide +kernel
theorem dX4_operate_56 : decode cX4_operate 56 = .ok (.iushr, 1) := by decide +kernel
theorem dX4_operate_57 : decode cX4_operate 57 = .ok (.iload_n 1, 1) := by decide +kernel
theorem dX4_operate_58 : decode cX4_operate 58 = .ok (.iconst 5, 1) := by decide +kernel
theorem dX4_operate_59 : decode cX4_operate 59 = .ok (.iushr, 1) := by decide +kernel
theorem dX4_operate_60 : decode cX4_operate 60 = .ok (.bipush 127, 2) := by decide +kernel
theorem dX4_operate_62 : decode cX4_operate 62 = .ok (.iand, 1) := by decide +kernel
theorem dX4_operate_63 : decode cX4_operate 63 = .ok (.lload_n 2, 1) := by decide +kernel
theorem dX4_operate_64 : decode cX4_operate 64 = .ok (.lload 4, 2) := by decide +kernel
theorem dX4_operate_66 : decode cX4_operate 66 = .ok (.invokevirtual 176, 3) := by decide +kernel
theorem dX4_operate_69 : decode cX4_operate 69 = .ok (.aload_n 0, 1) := by decide +kernel
theorem dX4_operate_70 : decode cX4_operate 70 = .ok (.getfield 36, 3) := by decide +kernel
theorem dX4_operate_73 : decode cX4_operate 73 = .ok (.getfield 180, 3) := by decide +kernel
theorem dX4_operate_76 : decode cX4_operate 76 = .ok (.ifCond .ne 9, 3) := by decide +kernel
theorem dX4_operate_79 : decode cX4_operate 79 = .ok (.aload_n 0, 1) := by decide +kernel
theorem dX4_operate_80 : decode cX4_operate 80 = .ok (.iconst 4, 1) := by decide +kernel
theorem dX4_operate_81 : decode cX4_operate 81 = .ok (.invokevirtual 173, 3) := by decide +kernel
theorem dX4_operate_84 : decode cX4_operate 84 = .ok (.return_, 1) := by decide +kernel
theorem dX4_operate_85 : decode cX4_operate 85 = .ok (.aload_n 0, 1) := by decide +kernel
theorem dX4_operate_86 : decode cX4_operate 86 = .ok (.getfield 36, 3) := by decide +kernel
theorem dX4_operate_89 : decode cX4_operate 89 = .ok (.getfield 183, 3) := by decide +kernel
theorem dX4_operate_92 : decode cX4_operate 92 = .ok (.ifCond .eq 18, 3) := by decide +kernel
theorem dX4_operate_95 : decode cX4_operate 95 = .ok (.aload_n 0, 1) := by decide +kernel
theorem dX4_operate_96 : decode cX4_operate 96 = .ok (.iload_n 1, 1) := by decide +kernel
theorem dX4_operate_97 : decode cX4_operate 97 = .ok (.bipush 31, 2) := by decide +kernel
theorem dX4_operate_99 : decode cX4_operate 99 = .ok (.iand, 1) := by decide +kernel
theorem dX4_operate_100 : decode cX4_operate 100 = .ok (.aload_n 0, 1) := by decide +kernel
theorem dX4_operate_101 : decode cX4_operate 101 = .ok (.getfield 36, 3) := by decide +kernel
theorem dX4_operate_104 : decode cX4_operate 104 = .ok (.getfield 186, 3) := by decide +kernel
theorem dX4_operate_107 : decode cX4_operate 107 = .ok (.invokevirtual 70, 3) := by decide +kernel
theorem dX4_operate_110 : decode cX4_operate 110 = .ok (.aload_n 0, 1) := by decide +kernel
theorem dX4_operate_111 : decode cX4_operate 111 = .ok (.getfield 36, 3) := by decide +kernel
theorem dX4_operate_114 : decode cX4_operate 114 = .ok (.getfield 189, 3) := by decide +kernel
theorem dX4_operate_117 : decode cX4_operate 117 = .ok (.ifCond .eq 18, 3) := by decide +kernel
theorem dX4_operate_120 : decode cX4_operate 120 = .ok (.aload_n 0, 1) := by decide +kernel
theorem dX4_operate_121 : decode cX4_operate 121 = .ok (.getfield 43, 3) := by decide +kernel
theorem dX4_operate_124 : decode cX4_operate 124 = .ok (.iconst 1, 1) := by decide +kernel
theorem dX4_operate_125 : decode cX4_operate 125 = .ok (.lconst 0, 1) := by decide +kernel
theorem dX4_operate_126 : decode cX4_operate 126 = .ok (.lconst 0, 1) := by decide +kernel
theorem dX4_operate_127 : decode cX4_operate 127 = .ok (.lconst 0, 1) := by decide +kernel
theorem dX4_operate_128 : decode cX4_operate 128 = .ok (.aload_n 0, 1) := by decide +kernel
theorem dX4_operate_129 : decode cX4_operate 129 = .ok (.getfield 63, 3) := by decide +kernel
theorem dX4_operate_132 : decode cX4_operate 132 = .ok (.invokevirtual 127, 3) := by decide +kernel
theorem dX4_operate_135 : decode cX4_operate 135 = .ok (.return_, 1) := by decide +kernel
theorem dX4_reach_0 : decode cX4_reach 0 = .ok (.iload_n 1, 1) := by decide +kernel
theorem dX4_reach_1 : decode cX4_reach 1 = .ok (.iconst 1, 1) := by decide +kernel
theorem dX4_reach_2 : decode cX4_reach 2 = .ok (.iand, 1) := by decide +kernel
theorem dX4_reach_3 : decode cX4_reach 3 = .ok (.iconst 1, 1) := by decide +kernel
theorem dX4_reach_4 : decode cX4_reach 4 = .ok (.if_icmp .ne 7, 3) := by decide +kernel
theorem dX4_reach_7 : decode cX4_reach 7 = .ok (.iconst 1, 1) := by decide +kernel
theorem dX4_reach_8 : decode cX4_reach 8 = .ok (.goto 4, 3) := by decide +kernel
theorem dX4_reach_11 : decode cX4_reach 11 = .ok (.iconst 0, 1) := by decide +kernel
theorem dX4_reach_12 : decode cX4_reach 12 = .ok (.istore 5, 2) := by decide +kernel
theorem dX4_reach_14 : decode cX4_reach 14 = .ok (.iload_n 1, 1) := by decide +kernel
theorem dX4_reach_15 : decode cX4_reach 15 = .ok (.bipush 46, 2) := by decide +kernel
theorem dX4_reach_17 : decode cX4_reach 17 = .ok (.if_icmp .eq 9, 3) := by decide +kernel
theorem dX4_reach_20 : decode cX4_reach 20 = .ok (.iload_n 1, 1) := by decide +kernel
theorem dX4_reach_21 : decode cX4_reach 21 = .ok (.bipush 47, 2) := by decide +kernel
theorem dX4_reach_23 : decode cX4_reach 23 = .ok (.if_icmp .ne 7, 3) := by decide +kernel
theorem dX4_reach_26 : decode cX4_reach 26 = .ok (.iconst 1, 1) := by decide +kernel
theorem dX4_reach_27 : decode cX4_reach 27 = .ok (.goto 4, 3) := by decide +kernel
theorem dX4_reach_30 : decode cX4_reach 30 = .ok (.iconst 0, 1) := by decide +kernel
theorem dX4_reach_31 : decode cX4_reach 31 = .ok (.istore 6, 2) := by decide +kernel
theorem dX4_reach_33 : decode cX4_reach 33 = .ok (.lload_n 3, 1) := by decide +kernel
theorem dX4_reach_34 : decode cX4_reach 34 = .ok (.iload 5, 2) := by decide +kernel
theorem dX4_reach_36 : decode cX4_reach 36 = .ok (.ifCond .eq 8, 3) := by decide +kernel
theorem dX4_reach_39 : decode cX4_reach 39 = .ok (.bipush 7, 2) := by decide +kernel
theorem dX4_reach_41 : decode cX4_reach 41 = .ok (.goto 4, 3) := by decide +kernel
theorem dX4_reach_44 : decode cX4_reach 44 = .ok (.iconst 3, 1) := by decide +kernel
theorem dX4_reach_45 : decode cX4_reach 45 = .ok (.i2l, 1) := by decide +kernel
theorem dX4_reach_46 : decode cX4_reach 46 = .ok (.land, 1) := by decide +kernel
theorem dX4_reach_47 : decode cX4_reach 47 = .ok (.lconst 0, 1) := by decide +kernel
theorem dX4_reach_48 : decode cX4_reach 48 = .ok (.lcmp, 1) := by decide +kernel
theorem dX4_reach_49 : decode cX4_reach 49 = .ok (.ifCond .eq 25, 3) := by decide +kernel
theorem dX4_reach_52 : decode cX4_reach 52 = .ok (.aload_n 0, 1) := by decide +kernel
theorem dX4_reach_53 : decode cX4_reach 53 = .ok (.getfield 43, 3) := by decide +kernel
theorem dX4_reach_56 : decode cX4_reach 56 = .ok (.iconst 4, 1) := by decide +kernel
theorem dX4_reach_57 : decode cX4_reach 57 = .ok (.lload_n 3, 1) := by decide +kernel
theorem dX4_reach_58 : decode cX4_reach 58 = .ok (.iload_n 1, 1) := by decide +kernel
theorem dX4_reach_59 : decode cX4_reach 59 = .ok (.i2l, 1) := by decide +kernel
theorem dX4_reach_60 : decode cX4_reach 60 = .ok (.iload_n 2, 1) := by decide +kernel
theorem dX4_reach_61 : decode cX4_reach 61 = .ok (.i2l, 1) := by decide +kernel
theorem dX4_reach_62 : decode cX4_reach 62 = .ok (.aload_n 0, 1) := by decide +kernel
theorem dX4_reach_63 : decode cX4_reach 63 = .ok (.getfield 63, 3) := by decide +kernel
theorem dX4_reach_66 : decode cX4_reach 66 = .ok (.ldc2_w 134, 3) := by decide +kernel
theorem dX4_reach_69 : decode cX4_reach 69 = .ok (.lsub, 1) := by decide +kernel
theorem dX4_reach_70 : decode cX4_reach 70 = .ok (.invokevirtual 127, 3) := by decide +kernel
theorem dX4_reach_73 : decode cX4_reach 73 = .ok (.return_, 1) := by decide +kernel
theorem dX4_reach_74 : decode cX4_reach 74 = .ok (.iload 6, 2) := by decide +kernel
theorem dX4_reach_76 : decode cX4_reach 76 = .ok (.ifCond .eq 17, 3) := by decide +kernel
theorem dX4_reach_79 : decode cX4_reach 79 = .ok (.aload_n 0, 1) := by decide +kernel
theorem dX4_reach_80 : decode cX4_reach 80 = .ok (.getfield 105, 3) := by decide +kernel
theorem dX4_reach_83 : decode cX4_reach 83 = .ok (.ifCond .ne 10, 3) := by decide +kernel
theorem dX4_reach_86 : decode cX4_reach 86 = .ok (.aload_n 0, 1) := by decide +kernel
theorem dX4_reach_87 : decode cX4_reach 87 = .ok (.iload_n 2, 1) := by decide +kernel
theorem dX4_reach_88 : decode cX4_reach 88 = .ok (.lconst 0, 1) := by decide +kernel
theorem dX4_reach_89 : decode cX4_reach 89 = .ok (.invokevirtual 70, 3) := by decide +kernel
theorem dX4_reach_92 : decode cX4_reach 92 = .ok (.return_, 1) := by decide +kernel
theorem dX4_reach_93 : decode cX4_reach 93 = .ok (.iload_n 1, 1) := by decide +kernel
theorem dX4_reach_94 : decode cX4_reach 94 = .ok (.bipush 15, 2) := by decide +kernel
theorem dX4_reach_96 : decode cX4_reach 96 = .ok (.if_icmp .eq 9, 3) := by decide +kernel
theorem dX4_reach_99 : decode cX4_reach 99 = .ok (.iload_n 1, 1) := by decide +kernel
theorem dX4_reach_100 : decode cX4_reach 100 = .ok (.bipush 44, 2) := by decide +kernel
theorem dX4_reach_102 : decode cX4_reach 102 = .ok (.if_icmp .lt 7, 3) := by decide +kernel
theorem dX4_reach_105 : decode cX4_reach 105 = .ok (.iconst 1, 1) := by decide +kernel
theorem dX4_reach_106 : decode cX4_reach 106 = .ok (.goto 4, 3) := by decide +kernel
theorem dX4_reach_109 : decode cX4_reach 109 = .ok (.iconst 0, 1) := by decide +kernel
theorem dX4_reach_110 : decode cX4_reach 110 = .ok (.istore 7, 2) := by decide +kernel
theorem dX4_reach_112 : decode cX4_reach 112 = .ok (.aload_n 0, 1) := by decide +kernel
theorem dX4_reach_113 : decode cX4_reach 113 = .ok (.getfield 10, 3) := by decide +kernel
theorem dX4_reach_116 : decode cX4_reach 116 = .ok (.lload_n 3, 1) := by decide +kernel
theorem dX4_reach_117 : decode cX4_reach 117 = .ok (.iload 7, 2) := by decide +kernel
theorem dX4_reach_119 : decode cX4_reach 119 = .ok (.aload_n 0, 1) := by decide +kernel
theorem dX4_reach_120 : decode cX4_reach 120 = .ok (.getfield 47, 3) := by decide +kernel
theorem dX4_reach_123 : decode cX4_reach 123 = .ok (.invokevirtual 123, 3) := by decide +kernel
theorem dX4_reach_126 : decode cX4_reach 126 = .ok (.istore 8, 2) := by decide +kernel
theorem dX4_reach_128 : decode cX4_reach 128 = .ok (.iload 8, 2) := by decide +kernel
theorem dX4_reach_130 : decode cX4_reach 130 = .ok (.ifCond .ge 32, 3) := by decide +kernel
theorem dX4_reach_133 : decode cX4_reach 133 = .ok (.aload_n 0, 1) := by decide +kernel
theorem dX4_reach_134 : decode cX4_reach 134 = .ok (.getfield 43, 3) := by decide +kernel
theorem dX4_reach_137 : decode cX4_reach 137 = .ok (.iconst 2, 1) := by decide +kernel
theorem dX4_reach_138 : decode cX4_reach 138 = .ok (.lload_n 3, 1) := by decide +kernel
theorem dX4_reach_139 : decode cX4_reach 139 = .ok (.iload 8, 2) := by decide +kernel
theorem dX4_reach_141 : decode cX4_reach 141 = .ok (.invokestatic 131, 3) := by decide +kernel
theorem dX4_reach_144 : decode cX4_reach 144 = .ok (.i2l, 1) := by decide +kernel
theorem dX4_reach_145 : decode cX4_reach 145 = .ok (.iload 7, 2) := by decide +kernel
theorem dX4_reach_147 : decode cX4_reach 147 = .ok (.i2l, 1) := by decide +kernel
theorem dX4_reach_148 : decode cX4_reach 148 = .ok (.aload_n 0, 1) := by decide +kernel
theorem dX4_reach_149 : decode cX4_reach 149 = .ok (.getfield 63, 3) := by decide +kernel
theorem dX4_reach_152 : decode cX4_reach 152 = .ok (.ldc2_w 134, 3) := by decide +kernel
theorem dX4_reach_155 : decode cX4_reach 155 = .ok (.lsub, 1) := by decide +kernel
theorem dX4_reach_156 : decode cX4_reach 156 = .ok (.invokevirtual 127, 3) := by decide +kernel
theorem dX4_reach_159 : decode cX4_reach 159 = .ok (.goto 88, 3) := by decide +kernel
theorem dX4_reach_162 : decode cX4_reach 162 = .ok (.iload 7, 2) := by decide +kernel
theorem dX4_reach_164 : decode cX4_reach 164 = .ok (.ifCond .ne 50, 3) := by decide +kernel
theorem dX4_reach_167 : decode cX4_reach 167 = .ok (.aload_n 0, 1) := by decide +kernel
theorem dX4_reach_168 : decode cX4_reach 168 = .ok (.iload_n 2, 1) := by decide +kernel
theorem dX4_reach_169 : decode cX4_reach 169 = .ok (.aload_n 0, 1) := by decide +kernel
theorem dX4_reach_170 : decode cX4_reach 170 = .ok (.getfield 10, 3) := by decide +kernel
theorem dX4_reach_173 : decode cX4_reach 173 = .ok (.iload 8, 2) := by decide +kernel
theorem dX4_reach_175 : decode cX4_reach 175 = .ok (.iload 5, 2) := by decide +kernel
theorem dX4_reach_177 : decode cX4_reach 177 = .ok (.invokevirtual 136, 3) := by decide +kernel
theorem dX4_reach_180 : decode cX4_reach 180 = .ok (.invokevirtual 70, 3) := by decide +kernel
theorem dX4_reach_183 : decode cX4_reach 183 = .ok (.aload_n 0, 1) := by decide +kernel
theorem dX4_reach_184 : decode cX4_reach 184 = .ok (.aload_n 0, 1) := by decide +kernel
theorem dX4_reach_185 : decode cX4_reach 185 = .ok (.getfield 105, 3) := by decide +kernel
theorem dX4_reach_188 : decode cX4_reach 188 = .ok (.ifCond .ne 15, 3) := by decide +kernel
theorem dX4_reach_191 : decode cX4_reach 191 = .ok (.iload_n 1, 1) := by decide +kernel
theorem dX4_reach_192 : decode cX4_reach 192 = .ok (.bipush 42, 2) := by decide +kernel
theorem dX4_reach_194 : decode cX4_reach 194 = .ok (.if_icmp .eq 9, 3) := by decide +kernel
theorem dX4_reach_197 : decode cX4_reach 197 = .ok (.iload_n 1, 1) := by decide +kernel
theorem dX4_reach_198 : decode cX4_reach 198 = .ok (.bipush 43, 2) := by decide +kernel
theorem dX4_reach_200 : decode cX4_reach 200 = .ok (.if_icmp .ne 7, 3) := by decide +kernel
theorem dX4_reach_203 : decode cX4_reach 203 = .ok (.iconst 1, 1) := by decide +kernel
theorem dX4_reach_204 : decode cX4_reach 204 = .ok (.goto 4, 3) := by decide +kernel
theorem dX4_reach_207 : decode cX4_reach 207 = .ok (.iconst 0, 1) := by decide +kernel
theorem dX4_reach_208 : decode cX4_reach 208 = .ok (.putfield 105, 3) := by decide +kernel
theorem dX4_reach_211 : decode cX4_reach 211 = .ok (.goto 36, 3) := by decide +kernel
theorem dX4_reach_214 : decode cX4_reach 214 = .ok (.aload_n 0, 1) := by decide +kernel
theorem dX4_reach_215 : decode cX4_reach 215 = .ok (.getfield 10, 3) := by decide +kernel
theorem dX4_reach_218 : decode cX4_reach 218 = .ok (.iload 8, 2) := by decide +kernel
theorem dX4_reach_220 : decode cX4_reach 220 = .ok (.iload 5, 2) := by decide +kernel
theorem dX4_reach_222 : decode cX4_reach 222 = .ok (.aload_n 0, 1) := by decide +kernel
theorem dX4_reach_223 : decode cX4_reach 223 = .ok (.getfield 16, 3) := by decide +kernel
theorem dX4_reach_226 : decode cX4_reach 226 = .ok (.iload_n 2, 1) := by decide +kernel
theorem dX4_reach_227 : decode cX4_reach 227 = .ok (.laload, 1) := by decide +kernel
theorem dX4_reach_228 : decode cX4_reach 228 = .ok (.invokevirtual 192, 3) := by decide +kernel
theorem dX4_reach_231 : decode cX4_reach 231 = .ok (.iload 6, 2) := by decide +kernel
theorem dX4_reach_233 : decode cX4_reach 233 = .ok (.ifCond .eq 14, 3) := by decide +kernel
theorem dX4_reach_236 : decode cX4_reach 236 = .ok (.aload_n 0, 1) := by decide +kernel
theorem dX4_reach_237 : decode cX4_reach 237 = .ok (.iload_n 2, 1) := by decide +kernel
theorem dX4_reach_238 : decode cX4_reach 238 = .ok (.lconst 1, 1) := by decide +kernel
theorem dX4_reach_239 : decode cX4_reach 239 = .ok (.invokevirtual 70, 3) := by decide +kernel
theorem dX4_reach_242 : decode cX4_reach 242 = .ok (.aload_n 0, 1) := by decide +kernel
theorem dX4_reach_243 : decode cX4_reach 243 = .ok (.iconst 0, 1) := by decide +kernel
theorem dX4_reach_244 : decode cX4_reach 244 = .ok (.putfield 105, 3) := by decide +kernel
theorem dX4_reach_247 : decode cX4_reach 247 = .ok (.return_, 1) := by decide +kernel
theorem dX4_execute_0 : decode cX4_execute 0 = .ok (.iload_n 1, 1) := by decide +kernel
theorem dX4_execute_1 : decode cX4_execute 1 = .ok (.bipush 26, 2) := by decide +kernel
theorem dX4_execute_3 : decode cX4_execute 3 = .ok (.iushr, 1) := by decide +kernel
theorem dX4_execute_4 : decode cX4_execute 4 = .ok (.istore_n 2, 1) := by decide +kernel
theorem dX4_execute_5 : decode cX4_execute 5 = .ok (.iload_n 1, 1) := by decide +kernel
theorem dX4_execute_6 : decode cX4_execute 6 = .ok (.bipush 21, 2) := by decide +kernel
theorem dX4_execute_8 : decode cX4_execute 8 = .ok (.iushr, 1) := by decide +kernel
theorem dX4_execute_9 : decode cX4_execute 9 = .ok (.bipush 31, 2) := by decide +kernel
theorem dX4_execute_11 : decode cX4_execute 11 = .ok (.iand, 1) := by decide +kernel
theorem dX4_execute_12 : decode cX4_execute 12 = .ok (.istore_n 3, 1) := by decide +kernel
theorem dX4_execute_13 : decode cX4_execute 13 = .ok (.aload_n 0, 1) := by decide +kernel
theorem dX4_execute_14 : decode cX4_execute 14 = .ok (.getfield 16, 3) := by decide +kernel
theorem dX4_execute_17 : decode cX4_execute 17 = .ok (.iload_n 1, 1) := by decide +kernel
theorem dX4_execute_18 : decode cX4_execute 18 = .ok (.bipush 16, 2) := by decide +kernel
theorem dX4_execute_20 : decode cX4_execute 20 = .ok (.iushr, 1) := by decide +kernel
theorem dX4_execute_21 : decode cX4_execute 21 = .ok (.bipush 31, 2) := by decide +kernel
theorem dX4_execute_23 : decode cX4_execute 23 = .ok (.iand, 1) := by decide +kernel
theorem dX4_execute_24 : decode cX4_execute 24 = .ok (.laload, 1) := by decide +kernel
theorem dX4_execute_25 : decode cX4_execute 25 = .ok (.lstore 4, 2) := by decide +kernel
theorem dX4_execute_27 : decode cX4_execute 27 = .ok (.iload_n 1, 1) := by decide +kernel
theorem dX4_execute_28 : decode cX4_execute 28 = .ok (.i2s, 1) := by decide +kernel
theorem dX4_execute_29 : decode cX4_execute 29 = .ok (.i2l, 1) := by decide +kernel
theorem dX4_execute_30 : decode cX4_execute 30 = .ok (.lstore 6, 2) := by decide +kernel
theorem dX4_execute_32 : decode cX4_execute 32 = .ok (.iload_n 2, 1) := by decide +kernel
theorem dX4_execute_33 : decode cX4_execute 33 = .ok (.tableswitch 416 0 63 #[271, 416, 416, 416, 416, 416, 416, 416, 283, 296, 416, 313, 416, 416, 416, 313, 331, 331, 331, 331, 416, 416, 416, 416, 339, 416, 342, 416, 416, 416, 416, 416, 416, 416, 416, 416, 416, 416, 416, 416, 364, 364, 364, 364, 364, 364, 364, 364, 378, 416, 416, 416, 378, 416, 416, 416, 395, 395, 395, 395, 395, 395, 395, 395], 271) := by decide +kernel
theorem dX4_execute_304 : decode cX4_execute 304 = .ok (.aload_n 0, 1) := by decide +kernel
theorem dX4_execute_305 : decode cX4_execute 305 = .ok (.iload_n 1, 1) := by decide +kernel
theorem dX4_execute_306 : decode cX4_execute 306 = .ok (.sipush 255, 3) := by decide +kernel
theorem dX4_execute_309 : decode cX4_execute 309 = .ok (.iand, 1) := by decide +kernel
theorem dX4_execute_310 : decode cX4_execute 310 = .ok (.invokevirtual 152, 3) := by decide +kernel
theorem dX4_execute_313 : decode cX4_execute 313 = .ok (.goto 141, 3) := by decide +kernel
theorem dX4_execute_316 : decode cX4_execute 316 = .ok (.aload_n 0, 1) := by decide +kernel
theorem dX4_execute_317 : decode cX4_execute 317 = .ok (.iload_n 3, 1) := by decide +kernel
theorem dX4_execute_318 : decode cX4_execute 318 = .ok (.lload 4, 2) := by decide +kernel
theorem dX4_execute_320 : decode cX4_execute 320 = .ok (.lload 6, 2) := by decide +kernel
theorem dX4_execute_322 : decode cX4_execute 322 = .ok (.ladd, 1) := by decide +kernel
theorem dX4_execute_323 : decode cX4_execute 323 = .ok (.invokevirtual 70, 3) := by decide +kernel
theorem dX4_execute_326 : decode cX4_execute 326 = .ok (.goto 128, 3) := by decide +kernel
theorem dX4_execute_329 : decode cX4_execute 329 = .ok (.aload_n 0, 1) := by decide +kernel
theorem dX4_execute_330 : decode cX4_execute 330 = .ok (.iload_n 3, 1) := by decide +kernel
theorem dX4_execute_331 : decode cX4_execute 331 = .ok (.lload 4, 2) := by decide +kernel
theorem dX4_execute_333 : decode cX4_execute 333 = .ok (.ldc2_w 155, 3) := by decide +kernel
theorem dX4_execute_336 : decode cX4_execute 336 = .ok (.lload 6, 2) := by decide +kernel
theorem dX4_execute_338 : decode cX4_execute 338 = .ok (.lmul, 1) := by decide +kernel
theorem dX4_execute_339 : decode cX4_execute 339 = .ok (.ladd, 1) := by decide +kernel
theorem dX4_execute_340 : decode cX4_execute 340 = .ok (.invokevirtual 70, 3) := by decide +kernel
theorem dX4_execute_343 : decode cX4_execute 343 = .ok (.goto 111, 3) := by decide +kernel
theorem dX4_execute_346 : decode cX4_execute 346 = .ok (.aload_n 0, 1) := by decide +kernel
theorem dX4_execute_347 : decode cX4_execute 347 = .ok (.iload_n 2, 1) := by decide +kernel
theorem dX4_execute_348 : decode cX4_execute 348 = .ok (.iload_n 3, 1) := by decide +kernel
theorem dX4_execute_349 : decode cX4_execute 349 = .ok (.lload 4, 2) := by decide +kernel
theorem dX4_execute_351 : decode cX4_execute 351 = .ok (.lload 6, 2) := by decide +kernel
theorem dX4_execute_353 : decode cX4_execute 353 = .ok (.ladd, 1) := by decide +kernel
theorem dX4_execute_354 : decode cX4_execute 354 = .ok (.ldc2_w 157, 3) := by decide +kernel
theorem dX4_execute_357 : decode cX4_execute 357 = .ok (.land, 1) := by decide +kernel
theorem dX4_execute_358 : decode cX4_execute 358 = .ok (.invokevirtual 159, 3) := by decide +kernel
theorem dX4_execute_361 : decode cX4_execute 361 = .ok (.goto 93, 3) := by decide +kernel
theorem dX4_execute_364 : decode cX4_execute 364 = .ok (.aload_n 0, 1) := by decide +kernel
theorem dX4_execute_365 : decode cX4_execute 365 = .ok (.iload_n 1, 1) := by decide +kernel
theorem dX4_execute_366 : decode cX4_execute 366 = .ok (.invokevirtual 163, 3) := by decide +kernel
theorem dX4_execute_369 : decode cX4_execute 369 = .ok (.goto 85, 3) := by decide +kernel
theorem dX4_execute_372 : decode cX4_execute 372 = .ok (.goto 82, 3) := by decide +kernel
theorem dX4_execute_375 : decode cX4_execute 375 = .ok (.aload_n 0, 1) := by decide +kernel
theorem dX4_execute_376 : decode cX4_execute 376 = .ok (.iload_n 3, 1) := by decide +kernel
theorem dX4_execute_377 : decode cX4_execute 377 = .ok (.aload_n 0, 1) := by decide +kernel
theorem dX4_execute_378 : decode cX4_execute 378 = .ok (.getfield 63, 3) := by decide +kernel
theorem dX4_execute_381 : decode cX4_execute 381 = .ok (.invokevirtual 70, 3) := by decide +kernel
theorem dX4_execute_384 : decode cX4_execute 384 = .ok (.aload_n 0, 1) := by decide +kernel
theorem dX4_execute_385 : decode cX4_execute 385 = .ok (.lload 4, 2) := by decide +kernel
theorem dX4_execute_387 : decode cX4_execute 387 = .ok (.ldc2_w 61, 3) := by decide +kernel
theorem dX4_execute_390 : decode cX4_execute 390 = .ok (.land, 1) := by decide +kernel
theorem dX4_execute_391 : decode cX4_execute 391 = .ok (.putfield 63, 3) := by decide +kernel
theorem dX4_execute_394 : decode cX4_execute 394 = .ok (.goto 60, 3) := by decide +kernel
theorem dX4_execute_397 : decode cX4_execute 397 = .ok (.aload_n 0, 1) := by decide +kernel
theorem dX4_execute_398 : decode cX4_execute 398 = .ok (.iload_n 2, 1) := by decide +kernel
theorem dX4_execute_399 : decode cX4_execute 399 = .ok (.iload_n 3, 1) := by decide +kernel
theorem dX4_execute_400 : decode cX4_execute 400 = .ok (.lload 4, 2) := by decide +kernel
theorem dX4_execute_402 : decode cX4_execute 402 = .ok (.lload 6, 2) := by decide +kernel
theorem dX4_execute_404 : decode cX4_execute 404 = .ok (.ladd, 1) := by decide +kernel
theorem dX4_execute_405 : decode cX4_execute 405 = .ok (.invokevirtual 159, 3) := by decide +kernel
theorem dX4_execute_408 : decode cX4_execute 408 = .ok (.goto 46, 3) := by decide +kernel
theorem dX4_execute_411 : decode cX4_execute 411 = .ok (.aload_n 0, 1) := by decide +kernel
theorem dX4_execute_412 : decode cX4_execute 412 = .ok (.iload_n 3, 1) := by decide +kernel
theorem dX4_execute_413 : decode cX4_execute 413 = .ok (.aload_n 0, 1) := by decide +kernel
theorem dX4_execute_414 : decode cX4_execute 414 = .ok (.getfield 63, 3) := by decide +kernel
theorem dX4_execute_417 : decode cX4_execute 417 = .ok (.invokevirtual 70, 3) := by decide +kernel
theorem dX4_execute_420 : decode cX4_execute 420 = .ok (.aload_n 0, 1) := by decide +kernel
theorem dX4_execute_421 : decode cX4_execute 421 = .ok (.iload_n 1, 1) := by decide +kernel
theorem dX4_execute_422 : decode cX4_execute 422 = .ok (.invokevirtual 166, 3) := by decide +kernel
theorem dX4_execute_425 : decode cX4_execute 425 = .ok (.goto 29, 3) := by decide +kernel
theorem dX4_execute_428 : decode cX4_execute 428 = .ok (.iload_n 2, 1) := by decide +kernel
theorem dX4_execute_429 : decode cX4_execute 429 = .ok (.aload_n 0, 1) := by decide +kernel
theorem dX4_execute_430 : decode cX4_execute 430 = .ok (.getfield 16, 3) := by decide +kernel
theorem dX4_execute_433 : decode cX4_execute 433 = .ok (.iload_n 3, 1) := by decide +kernel
theorem dX4_execute_434 : decode cX4_execute 434 = .ok (.laload, 1) := by decide +kernel
theorem dX4_execute_435 : decode cX4_execute 435 = .ok (.invokestatic 169, 3) := by decide +kernel
theorem dX4_execute_438 : decode cX4_execute 438 = .ok (.ifCond .eq 16, 3) := by decide +kernel
theorem dX4_execute_441 : decode cX4_execute 441 = .ok (.aload_n 0, 1) := by decide +kernel
theorem dX4_execute_442 : decode cX4_execute 442 = .ok (.iload_n 1, 1) := by decide +kernel
theorem dX4_execute_443 : decode cX4_execute 443 = .ok (.invokevirtual 166, 3) := by decide +kernel
theorem dX4_execute_446 : decode cX4_execute 446 = .ok (.goto 8, 3) := by decide +kernel
theorem dX4_execute_449 : decode cX4_execute 449 = .ok (.aload_n 0, 1) := by decide +kernel
theorem dX4_execute_450 : decode cX4_execute 450 = .ok (.iconst 4, 1) := by decide +kernel
theorem dX4_execute_451 : decode cX4_execute 451 = .ok (.invokevirtual 173, 3) := by decide +kernel
theorem dX4_execute_454 : decode cX4_execute 454 = .ok (.return_, 1) := by decide +kernel
