theorem dY_operate_0 : decode cY_operate 0 = .ok (.aload_n 0, 1) := by decide +kernel
theorem dY_operate_1 : decode cY_operate 1 = .ok (.getfield 13, 3) := by decide +kernel
theorem dY_operate_4 : decode cY_operate 4 = .ok (.aload_n 0, 1) := by decide +kernel
theorem dY_operate_5 : decode cY_operate 5 = .ok (.getfield 171, 3) := by decide +kernel
theorem dY_operate_8 : decode cY_operate 8 = .ok (.bipush 21, 2) := by decide +kernel
theorem dY_operate_10 : decode cY_operate 10 = .ok (.ishr, 1) := by decide +kernel
theorem dY_operate_11 : decode cY_operate 11 = .ok (.bipush 31, 2) := by decide +kernel
theorem dY_operate_13 : decode cY_operate 13 = .ok (.iand, 1) := by decide +kernel
theorem dY_operate_14 : decode cY_operate 14 = .ok (.laload, 1) := by decide +kernel
theorem dY_operate_15 : decode cY_operate 15 = .ok (.lstore_n 2, 1) := by decide +kernel
theorem dY_operate_16 : decode cY_operate 16 = .ok (.aload_n 0, 1) := by decide +kernel
theorem dY_operate_17 : decode cY_operate 17 = .ok (.getfield 171, 3) := by decide +kernel
theorem dY_operate_20 : decode cY_operate 20 = .ok (.bipush 12, 2) := by decide +kernel
theorem dY_operate_22 : decode cY_operate 22 = .ok (.ishr, 1) := by decide +kernel
theorem dY_operate_23 : decode cY_operate 23 = .ok (.iconst 1, 1) := by decide +kernel
theorem dY_operate_24 : decode cY_operate 24 = .ok (.iand, 1) := by decide +kernel
theorem dY_operate_25 : decode cY_operate 25 = .ok (.iconst 1, 1) := by decide +kernel
theorem dY_operate_26 : decode cY_operate 26 = .ok (.if_icmp .ne 18, 3) := by decide +kernel
theorem dY_operate_29 : decode cY_operate 29 = .ok (.aload_n 0, 1) := by decide +kernel
theorem dY_operate_30 : decode cY_operate 30 = .ok (.getfield 171, 3) := by decide +kernel
theorem dY_operate_33 : decode cY_operate 33 = .ok (.bipush 13, 2) := by decide +kernel
theorem dY_operate_35 : decode cY_operate 35 = .ok (.ishr, 1) := by decide +kernel
theorem dY_operate_36 : decode cY_operate 36 = .ok (.sipush 255, 3) := by decide +kernel
theorem dY_operate_39 : decode cY_operate 39 = .ok (.iand, 1) := by decide +kernel
theorem dY_operate_40 : decode cY_operate 40 = .ok (.i2l, 1) := by decide +kernel
theorem dY_operate_41 : decode cY_operate 41 = .ok (.goto 18, 3) := by decide +kernel
theorem dY_operate_44 : decode cY_operate 44 = .ok (.aload_n 0, 1) := by decide +kernel
theorem dY_operate_45 : decode cY_operate 45 = .ok (.getfield 13, 3) := by decide +kernel
theorem dY_operate_48 : decode cY_operate 48 = .ok (.aload_n 0, 1) := by decide +kernel
theorem dY_operate_49 : decode cY_operate 49 = .ok (.getfield 171, 3) := by decide +kernel
theorem dY_operate_52 : decode cY_operate 52 = .ok (.bipush 16, 2) := by decide +kernel
theorem dY_operate_54 : decode cY_operate 54 = .ok (.ishr, 1) := by decide +kernel
theorem dY_operate_55 : decode cY_operate 55 = .ok (.bipush 31, 2) := by decide +kernel
theorem dY_operate_57 : decode cY_operate 57 = .ok (.iand, 1) := by decide +kernel
theorem dY_operate_58 : decode cY_operate 58 = .ok (.laload, 1) := by decide +kernel
theorem dY_operate_59 : decode cY_operate 59 = .ok (.lstore 4, 2) := by decide +kernel
theorem dY_operate_61 : decode cY_operate 61 = .ok (.aload_n 0, 1) := by decide +kernel
theorem dY_operate_62 : decode cY_operate 62 = .ok (.getfield 171, 3) := by decide +kernel
theorem dY_operate_65 : decode cY_operate 65 = .ok (.iconst 5, 1) := by decide +kernel
theorem dY_operate_66 : decode cY_operate 66 = .ok (.ishr, 1) := by decide +kernel
theorem dY_operate_67 : decode cY_operate 67 = .ok (.bipush 127, 2) := by decide +kernel
theorem dY_operate_69 : decode cY_operate 69 = .ok (.iand, 1) := by decide +kernel
theorem dY_operate_70 : decode cY_operate 70 = .ok (.istore 6, 2) := by decide +kernel
theorem dY_operate_72 : decode cY_operate 72 = .ok (.aload_n 0, 1) := by decide +kernel
theorem dY_operate_73 : decode cY_operate 73 = .ok (.iconst 1, 1) := by decide +kernel
theorem dY_operate_74 : decode cY_operate 74 = .ok (.putfield 151, 3) := by decide +kernel
theorem dY_operate_77 : decode cY_operate 77 = .ok (.aload_n 0, 1) := by decide +kernel
theorem dY_operate_78 : decode cY_operate 78 = .ok (.iconst 0, 1) := by decide +kernel
theorem dY_operate_79 : decode cY_operate 79 = .ok (.putfield 146, 3) := by decide +kernel
theorem dY_operate_82 : decode cY_operate 82 = .ok (.aload_n 0, 1) := by decide +kernel
theorem dY_operate_83 : decode cY_operate 83 = .ok (.iconst 0, 1) := by decide +kernel
theorem dY_operate_84 : decode cY_operate 84 = .ok (.putfield 143, 3) := by decide +kernel
theorem dY_operate_87 : decode cY_operate 87 = .ok (.iload_n 1, 1) := by decide +kernel
theorem dY_operate_88 : decode cY_operate 88 = .ok (.bipush 16, 2) := by decide +kernel
theorem dY_operate_90 : decode cY_operate 90 = .ok (.if_icmp .ne 15, 3) := by decide +kernel
theorem dY_operate_93 : decode cY_operate 93 = .ok (.aload_n 0, 1) := by decide +kernel
theorem dY_operate_94 : decode cY_operate 94 = .ok (.iload 6, 2) := by decide +kernel
theorem dY_operate_96 : decode cY_operate 96 = .ok (.lload_n 2, 1) := by decide +kernel
theorem dY_operate_97 : decode cY_operate 97 = .ok (.lload 4, 2) := by decide +kernel
theorem dY_operate_99 : decode cY_operate 99 = .ok (.invokevirtual 174, 3) := by decide +kernel
theorem dY_operate_102 : decode cY_operate 102 = .ok (.goto 48, 3) := by decide +kernel
theorem dY_operate_105 : decode cY_operate 105 = .ok (.iload_n 1, 1) := by decide +kernel
theorem dY_operate_106 : decode cY_operate 106 = .ok (.bipush 17, 2) := by decide +kernel
theorem dY_operate_108 : decode cY_operate 108 = .ok (.if_icmp .ne 15, 3) := by decide +kernel
theorem dY_operate_111 : decode cY_operate 111 = .ok (.aload_n 0, 1) := by decide +kernel
theorem dY_operate_112 : decode cY_operate 112 = .ok (.iload 6, 2) := by decide +kernel
theorem dY_operate_114 : decode cY_operate 114 = .ok (.lload_n 2, 1) := by decide +kernel
theorem dY_operate_115 : decode cY_operate 115 = .ok (.lload 4, 2) := by decide +kernel
theorem dY_operate_117 : decode cY_operate 117 = .ok (.invokevirtual 178, 3) := by decide +kernel
theorem dY_operate_120 : decode cY_operate 120 = .ok (.goto 30, 3) := by decide +kernel
theorem dY_operate_123 : decode cY_operate 123 = .ok (.iload_n 1, 1) := by decide +kernel
theorem dY_operate_124 : decode cY_operate 124 = .ok (.bipush 18, 2) := by decide +kernel
theorem dY_operate_126 : decode cY_operate 126 = .ok (.if_icmp .ne 15, 3) := by decide +kernel
theorem dY_operate_129 : decode cY_operate 129 = .ok (.aload_n 0, 1) := by decide +kernel
theorem dY_operate_130 : decode cY_operate 130 = .ok (.iload 6, 2) := by decide +kernel
theorem dY_operate_132 : decode cY_operate 132 = .ok (.lload_n 2, 1) := by decide +kernel
theorem dY_operate_133 : decode cY_operate 133 = .ok (.lload 4, 2) := by decide +kernel
theorem dY_operate_135 : decode cY_operate 135 = .ok (.invokevirtual 181, 3) := by decide +kernel
theorem dY_operate_138 : decode cY_operate 138 = .ok (.goto 12, 3) := by decide +kernel
theorem dY_operate_141 : decode cY_operate 141 = .ok (.aload_n 0, 1) := by decide +kernel
theorem dY_operate_142 : decode cY_operate 142 = .ok (.iload 6, 2) := by decide +kernel
theorem dY_operate_144 : decode cY_operate 144 = .ok (.lload_n 2, 1) := by decide +kernel
theorem dY_operate_145 : decode cY_operate 145 = .ok (.lload 4, 2) := by decide +kernel
theorem dY_operate_147 : decode cY_operate 147 = .ok (.invokevirtual 184, 3) := by decide +kernel
theorem dY_operate_150 : decode cY_operate 150 = .ok (.lstore 7, 2) := by decide +kernel
theorem dY_operate_152 : decode cY_operate 152 = .ok (.aload_n 0, 1) := by decide +kernel
theorem dY_operate_153 : decode cY_operate 153 = .ok (.getfield 143, 3) := by decide +kernel
theorem dY_operate_156 : decode cY_operate 156 = .ok (.ifCond .eq 9, 3) := by decide +kernel
theorem dY_operate_159 : decode cY_operate 159 = .ok (.aload_n 0, 1) := by decide +kernel
theorem dY_operate_160 : decode cY_operate 160 = .ok (.iconst 4, 1) := by decide +kernel
theorem dY_operate_161 : decode cY_operate 161 = .ok (.invokevirtual 187, 3) := by decide +kernel
theorem dY_operate_164 : decode cY_operate 164 = .ok (.return_, 1) := by decide +kernel
theorem dY_operate_165 : decode cY_operate 165 = .ok (.aload_n 0, 1) := by decide +kernel
theorem dY_operate_166 : decode cY_operate 166 = .ok (.getfield 151, 3) := by decide +kernel
theorem dY_operate_169 : decode cY_operate 169 = .ok (.ifCond .eq 16, 3) := by decide +kernel
theorem dY_operate_172 : decode cY_operate 172 = .ok (.aload_n 0, 1) := by decide +kernel
theorem dY_operate_173 : decode cY_operate 173 = .ok (.aload_n 0, 1) := by decide +kernel
theorem dY_operate_174 : decode cY_operate 174 = .ok (.getfield 171, 3) := by decide +kernel
theorem dY_operate_177 : decode cY_operate 177 = .ok (.bipush 31, 2) := by decide +kernel
theorem dY_operate_179 : decode cY_operate 179 = .ok (.iand, 1) := by decide +kernel
theorem dY_operate_180 : decode cY_operate 180 = .ok (.lload 7, 2) := by decide +kernel
theorem dY_operate_182 : decode cY_operate 182 = .ok (.invokevirtual 191, 3) := by decide +kernel
theorem dY_operate_185 : decode cY_operate 185 = .ok (.aload_n 0, 1) := by decide +kernel
theorem dY_operate_186 : decode cY_operate 186 = .ok (.getfield 146, 3) := by decide +kernel
theorem dY_operate_189 : decode cY_operate 189 = .ok (.ifCond .eq 15, 3) := by decide +kernel
theorem dY_operate_192 : decode cY_operate 192 = .ok (.aload_n 0, 1) := by decide +kernel
theorem dY_operate_193 : decode cY_operate 193 = .ok (.iconst 1, 1) := by decide +kernel
theorem dY_operate_194 : decode cY_operate 194 = .ok (.lconst 0, 1) := by decide +kernel
theorem dY_operate_195 : decode cY_operate 195 = .ok (.lconst 0, 1) := by decide +kernel
theorem dY_operate_196 : decode cY_operate 196 = .ok (.lconst 0, 1) := by decide +kernel
theorem dY_operate_197 : decode cY_operate 197 = .ok (.aload_n 0, 1) := by decide +kernel
theorem dY_operate_198 : decode cY_operate 198 = .ok (.getfield 116, 3) := by decide +kernel
theorem dY_operate_201 : decode cY_operate 201 = .ok (.invokevirtual 125, 3) := by decide +kernel
theorem dY_operate_204 : decode cY_operate 204 = .ok (.return_, 1) := by decide +kernel
theorem dY_move_0 : decode cY_move 0 = .ok (.aload_n 0, 1) := by decide +kernel
theorem dY_move_1 : decode cY_move 1 = .ok (.getfield 171, 3) := by decide +kernel
theorem dY_move_4 : decode cY_move 4 = .ok (.bipush 21, 2) := by decide +kernel
theorem dY_move_6 : decode cY_move 6 = .ok (.ishr, 1) := by decide +kernel
theorem dY_move_7 : decode cY_move 7 = .ok (.bipush 31, 2) := by decide +kernel
theorem dY_move_9 : decode cY_move 9 = .ok (.iand, 1) := by decide +kernel
theorem dY_move_10 : decode cY_move 10 = .ok (.istore_n 2, 1) := by decide +kernel
theorem dY_move_11 : decode cY_move 11 = .ok (.aload_n 0, 1) := by decide +kernel
theorem dY_move_12 : decode cY_move 12 = .ok (.getfield 13, 3) := by decide +kernel
theorem dY_move_15 : decode cY_move 15 = .ok (.aload_n 0, 1) := by decide +kernel
theorem dY_move_16 : decode cY_move 16 = .ok (.getfield 171, 3) := by decide +kernel
theorem dY_move_19 : decode cY_move 19 = .ok (.bipush 16, 2) := by decide +kernel
theorem dY_move_21 : decode cY_move 21 = .ok (.ishr, 1) := by decide +kernel
theorem dY_move_22 : decode cY_move 22 = .ok (.bipush 31, 2) := by decide +kernel
theorem dY_move_24 : decode cY_move 24 = .ok (.iand, 1) := by decide +kernel
theorem dY_move_25 : decode cY_move 25 = .ok (.laload, 1) := by decide +kernel
theorem dY_move_26 : decode cY_move 26 = .ok (.aload_n 0, 1) := by decide +kernel
theorem dY_move_27 : decode cY_move 27 = .ok (.getfield 171, 3) := by decide +kernel
theorem dY_move_30 : decode cY_move 30 = .ok (.i2s, 1) := by decide +kernel
theorem dY_move_31 : decode cY_move 31 = .ok (.i2l, 1) := by decide +kernel
theorem dY_move_32 : decode cY_move 32 = .ok (.ladd, 1) := by decide +kernel
theorem dY_move_33 : decode cY_move 33 = .ok (.lstore_n 3, 1) := by decide +kernel
theorem dY_move_34 : decode cY_move 34 = .ok (.iload_n 1, 1) := by decide +kernel
theorem dY_move_35 : decode cY_move 35 = .ok (.bipush 11, 2) := by decide +kernel
theorem dY_move_37 : decode cY_move 37 = .ok (.if_icmp .eq 9, 3) := by decide +kernel
theorem dY_move_40 : decode cY_move 40 = .ok (.iload_n 1, 1) := by decide +kernel
theorem dY_move_41 : decode cY_move 41 = .ok (.bipush 15, 2) := by decide +kernel
theorem dY_move_43 : decode cY_move 43 = .ok (.if_icmp .ne 7, 3) := by decide +kernel
theorem dY_move_46 : decode cY_move 46 = .ok (.iconst 1, 1) := by decide +kernel
theorem dY_move_47 : decode cY_move 47 = .ok (.goto 4, 3) := by decide +kernel
theorem dY_move_50 : decode cY_move 50 = .ok (.iconst 0, 1) := by decide +kernel
theorem dY_move_51 : decode cY_move 51 = .ok (.istore 5, 2) := by decide +kernel
theorem dY_move_53 : decode cY_move 53 = .ok (.iload 5, 2) := by decide +kernel
theorem dY_move_55 : decode cY_move 55 = .ok (.ifCond .eq 9, 3) := by decide +kernel
theorem dY_move_58 : decode cY_move 58 = .ok (.lload_n 3, 1) := by decide +kernel
theorem dY_move_59 : decode cY_move 59 = .ok (.ldc2_w 194, 3) := by decide +kernel
theorem dY_move_62 : decode cY_move 62 = .ok (.land, 1) := by decide +kernel
theorem dY_move_63 : decode cY_move 63 = .ok (.lstore_n 3, 1) := by decide +kernel
theorem dY_move_64 : decode cY_move 64 = .ok (.iload_n 1, 1) := by decide +kernel
theorem dY_move_65 : decode cY_move 65 = .ok (.bipush 11, 2) := by decide +kernel
theorem dY_move_67 : decode cY_move 67 = .ok (.if_icmp .eq 15, 3) := by decide +kernel
theorem dY_move_70 : decode cY_move 70 = .ok (.iload_n 1, 1) := by decide +kernel
theorem dY_move_71 : decode cY_move 71 = .ok (.bipush 40, 2) := by decide +kernel
theorem dY_move_73 : decode cY_move 73 = .ok (.if_icmp .lt 13, 3) := by decide +kernel
theorem dY_move_76 : decode cY_move 76 = .ok (.iload_n 1, 1) := by decide +kernel
theorem dY_move_77 : decode cY_move 77 = .ok (.bipush 43, 2) := by decide +kernel
theorem dY_move_79 : decode cY_move 79 = .ok (.if_icmp .gt 7, 3) := by decide +kernel
theorem dY_move_82 : decode cY_move 82 = .ok (.iconst 1, 1) := by decide +kernel
theorem dY_move_83 : decode cY_move 83 = .ok (.goto 4, 3) := by decide +kernel
theorem dY_move_86 : decode cY_move 86 = .ok (.iconst 0, 1) := by decide +kernel
theorem dY_move_87 : decode cY_move 87 = .ok (.istore 6, 2) := by decide +kernel
theorem dY_move_89 : decode cY_move 89 = .ok (.iload 5, 2) := by decide +kernel
theorem dY_move_91 : decode cY_move 91 = .ok (.ifCond .ne 13, 3) := by decide +kernel
theorem dY_move_94 : decode cY_move 94 = .ok (.iload_n 1, 1) := by decide +kernel
theorem dY_move_95 : decode cY_move 95 = .ok (.iconst 1, 1) := by decide +kernel
theorem dY_move_96 : decode cY_move 96 = .ok (.iand, 1) := by decide +kernel
theorem dY_move_97 : decode cY_move 97 = .ok (.ifCond .ne 7, 3) := by decide +kernel
theorem dY_move_100 : decode cY_move 100 = .ok (.iconst 4, 1) := by decide +kernel
theorem dY_move_101 : decode cY_move 101 = .ok (.goto 5, 3) := by decide +kernel
theorem dY_move_104 : decode cY_move 104 = .ok (.bipush 8, 2) := by decide +kernel
theorem dY_move_106 : decode cY_move 106 = .ok (.istore 7, 2) := by decide +kernel
theorem dY_move_108 : decode cY_move 108 = .ok (.lload_n 3, 1) := by decide +kernel
theorem dY_move_109 : decode cY_move 109 = .ok (.iload 7, 2) := by decide +kernel
theorem dY_move_111 : decode cY_move 111 = .ok (.iconst 1, 1) := by decide +kernel
theorem dY_move_112 : decode cY_move 112 = .ok (.isub, 1) := by decide +kernel
theorem dY_move_113 : decode cY_move 113 = .ok (.i2l, 1) := by decide +kernel
theorem dY_move_114 : decode cY_move 114 = .ok (.land, 1) := by decide +kernel
theorem dY_move_115 : decode cY_move 115 = .ok (.lconst 0, 1) := by decide +kernel
theorem dY_move_116 : decode cY_move 116 = .ok (.lcmp, 1) := by decide +kernel
theorem dY_move_117 : decode cY_move 117 = .ok (.ifCond .eq 18, 3) := by decide +kernel
theorem dY_move_120 : decode cY_move 120 = .ok (.aload_n 0, 1) := by decide +kernel
theorem dY_move_121 : decode cY_move 121 = .ok (.iconst 4, 1) := by decide +kernel
theorem dY_move_122 : decode cY_move 122 = .ok (.lload_n 3, 1) := by decide +kernel
theorem dY_move_123 : decode cY_move 123 = .ok (.iload_n 1, 1) := by decide +kernel
theorem dY_move_124 : decode cY_move 124 = .ok (.i2l, 1) := by decide +kernel
theorem dY_move_125 : decode cY_move 125 = .ok (.iload_n 2, 1) := by decide +kernel
theorem dY_move_126 : decode cY_move 126 = .ok (.i2l, 1) := by decide +kernel
theorem dY_move_127 : decode cY_move 127 = .ok (.aload_n 0, 1) := by decide +kernel
theorem dY_move_128 : decode cY_move 128 = .ok (.getfield 122, 3) := by decide +kernel
theorem dY_move_131 : decode cY_move 131 = .ok (.invokevirtual 125, 3) := by decide +kernel
theorem dY_move_134 : decode cY_move 134 = .ok (.return_, 1) := by decide +kernel
theorem dY_move_135 : decode cY_move 135 = .ok (.iload_n 1, 1) := by decide +kernel
theorem dY_move_136 : decode cY_move 136 = .ok (.bipush 46, 2) := by decide +kernel
theorem dY_move_138 : decode cY_move 138 = .ok (.if_icmp .eq 9, 3) := by decide +kernel
theorem dY_move_141 : decode cY_move 141 = .ok (.iload_n 1, 1) := by decide +kernel
theorem dY_move_142 : decode cY_move 142 = .ok (.bipush 47, 2) := by decide +kernel
theorem dY_move_144 : decode cY_move 144 = .ok (.if_icmp .ne 7, 3) := by decide +kernel
theorem dY_move_147 : decode cY_move 147 = .ok (.iconst 1, 1) := by decide +kernel
theorem dY_move_148 : decode cY_move 148 = .ok (.goto 4, 3) := by decide +kernel
theorem dY_move_151 : decode cY_move 151 = .ok (.iconst 0, 1) := by decide +kernel
theorem dY_move_152 : decode cY_move 152 = .ok (.istore 8, 2) := by decide +kernel
theorem dY_move_154 : decode cY_move 154 = .ok (.iload 8, 2) := by decide +kernel
theorem dY_move_156 : decode cY_move 156 = .ok (.ifCond .eq 17, 3) := by decide +kernel
theorem dY_move_159 : decode cY_move 159 = .ok (.aload_n 0, 1) := by decide +kernel
theorem dY_move_160 : decode cY_move 160 = .ok (.getfield 112, 3) := by decide +kernel
theorem dY_move_163 : decode cY_move 163 = .ok (.ifCond .ne 10, 3) := by decide +kernel
theorem dY_move_166 : decode cY_move 166 = .ok (.aload_n 0, 1) := by decide +kernel
theorem dY_move_167 : decode cY_move 167 = .ok (.iload_n 2, 1) := by decide +kernel
theorem dY_move_168 : decode cY_move 168 = .ok (.lconst 0, 1) := by decide +kernel
theorem dY_move_169 : decode cY_move 169 = .ok (.invokevirtual 191, 3) := by decide +kernel
theorem dY_move_172 : decode cY_move 172 = .ok (.return_, 1) := by decide +kernel
theorem dY_move_173 : decode cY_move 173 = .ok (.aload_n 0, 1) := by decide +kernel
theorem dY_move_174 : decode cY_move 174 = .ok (.lload_n 3, 1) := by decide +kernel
theorem dY_move_175 : decode cY_move 175 = .ok (.iload 6, 2) := by decide +kernel
theorem dY_move_177 : decode cY_move 177 = .ok (.ifCond .eq 7, 3) := by decide +kernel
theorem dY_move_180 : decode cY_move 180 = .ok (.iconst 0, 1) := by decide +kernel
theorem dY_move_181 : decode cY_move 181 = .ok (.goto 4, 3) := by decide +kernel
theorem dY_move_184 : decode cY_move 184 = .ok (.iconst 1, 1) := by decide +kernel
theorem dY_move_185 : decode cY_move 185 = .ok (.invokevirtual 98, 3) := by decide +kernel
theorem dY_move_188 : decode cY_move 188 = .ok (.istore 9, 2) := by decide +kernel
theorem dY_move_190 : decode cY_move 190 = .ok (.iload 9, 2) := by decide +kernel
theorem dY_move_192 : decode cY_move 192 = .ok (.ifCond .ge 21, 3) := by decide +kernel
theorem dY_move_195 : decode cY_move 195 = .ok (.aload_n 0, 1) := by decide +kernel
theorem dY_move_196 : decode cY_move 196 = .ok (.lload_n 3, 1) := by decide +kernel
theorem dY_move_197 : decode cY_move 197 = .ok (.iload 9, 2) := by decide +kernel
theorem dY_move_199 : decode cY_move 199 = .ok (.iload 6, 2) := by decide +kernel
theorem dY_move_201 : decode cY_move 201 = .ok (.ifCond .eq 7, 3) := by decide +kernel
theorem dY_move_204 : decode cY_move 204 = .ok (.iconst 0, 1) := by decide +kernel
theorem dY_move_205 : decode cY_move 205 = .ok (.goto 4, 3) := by decide +kernel
theorem dY_move_208 : decode cY_move 208 = .ok (.iconst 1, 1) := by decide +kernel
theorem dY_move_209 : decode cY_move 209 = .ok (.invokevirtual 196, 3) := by decide +kernel
theorem dY_move_212 : decode cY_move 212 = .ok (.return_, 1) := by decide +kernel
theorem dY_move_213 : decode cY_move 213 = .ok (.iload 6, 2) := by decide +kernel
theorem dY_move_215 : decode cY_move 215 = .ok (.ifCond .eq 54, 3) := by decide +kernel
theorem dY_move_218 : decode cY_move 218 = .ok (.aload_n 0, 1) := by decide +kernel
theorem dY_move_219 : decode cY_move 219 = .ok (.iload 9, 2) := by decide +kernel
theorem dY_move_221 : decode cY_move 221 = .ok (.iload 7, 2) := by decide +kernel
theorem dY_move_223 : decode cY_move 223 = .ok (.invokevirtual 55, 3) := by decide +kernel
theorem dY_move_226 : decode cY_move 226 = .ok (.lstore 10, 2) := by decide +kernel
theorem dY_move_228 : decode cY_move 228 = .ok (.aload_n 0, 1) := by decide +kernel
theorem dY_move_229 : decode cY_move 229 = .ok (.iload_n 2, 1) := by decide +kernel
theorem dY_move_230 : decode cY_move 230 = .ok (.iload 7, 2) := by decide +kernel
theorem dY_move_232 : decode cY_move 232 = .ok (.iconst 4, 1) := by decide +kernel
theorem dY_move_233 : decode cY_move 233 = .ok (.if_icmp .ne 11, 3) := by decide +kernel
theorem dY_move_236 : decode cY_move 236 = .ok (.lload 10, 2) := by decide +kernel
theorem dY_move_238 : decode cY_move 238 = .ok (.invokestatic 129, 3) := by decide +kernel
theorem dY_move_241 : decode cY_move 241 = .ok (.goto 5, 3) := by decide +kernel
theorem dY_move_244 : decode cY_move 244 = .ok (.lload 10, 2) := by decide +kernel
theorem dY_move_246 : decode cY_move 246 = .ok (.invokevirtual 191, 3) := by decide +kernel
theorem dY_move_249 : decode cY_move 249 = .ok (.iload_n 1, 1) := by decide +kernel
theorem dY_move_250 : decode cY_move 250 = .ok (.bipush 42, 2) := by decide +kernel
theorem dY_move_252 : decode cY_move 252 = .ok (.if_icmp .eq 9, 3) := by decide +kernel
theorem dY_move_255 : decode cY_move 255 = .ok (.iload_n 1, 1) := by decide +kernel
theorem dY_move_256 : decode cY_move 256 = .ok (.bipush 43, 2) := by decide +kernel
theorem dY_move_258 : decode cY_move 258 = .ok (.if_icmp .ne 8, 3) := by decide +kernel
theorem dY_move_261 : decode cY_move 261 = .ok (.aload_n 0, 1) := by decide +kernel
theorem dY_move_262 : decode cY_move 262 = .ok (.iconst 1, 1) := by decide +kernel
theorem dY_move_263 : decode cY_move 263 = .ok (.putfield 112, 3) := by decide +kernel
theorem dY_move_266 : decode cY_move 266 = .ok (.goto 33, 3) := by decide +kernel
theorem dY_move_269 : decode cY_move 269 = .ok (.aload_n 0, 1) := by decide +kernel
theorem dY_move_270 : decode cY_move 270 = .ok (.iload 9, 2) := by decide +kernel
theorem dY_move_272 : decode cY_move 272 = .ok (.iload 7, 2) := by decide +kernel
theorem dY_move_274 : decode cY_move 274 = .ok (.aload_n 0, 1) := by decide +kernel
theorem dY_move_275 : decode cY_move 275 = .ok (.getfield 13, 3) := by decide +kernel
theorem dY_move_278 : decode cY_move 278 = .ok (.iload_n 2, 1) := by decide +kernel
theorem dY_move_279 : decode cY_move 279 = .ok (.laload, 1) := by decide +kernel
theorem dY_move_280 : decode cY_move 280 = .ok (.invokevirtual 102, 3) := by decide +kernel
theorem dY_move_283 : decode cY_move 283 = .ok (.iload 8, 2) := by decide +kernel
theorem dY_move_285 : decode cY_move 285 = .ok (.ifCond .eq 14, 3) := by decide +kernel
theorem dY_move_288 : decode cY_move 288 = .ok (.aload_n 0, 1) := by decide +kernel
theorem dY_move_289 : decode cY_move 289 = .ok (.iload_n 2, 1) := by decide +kernel
theorem dY_move_290 : decode cY_move 290 = .ok (.lconst 1, 1) := by decide +kernel
theorem dY_move_291 : decode cY_move 291 = .ok (.invokevirtual 191, 3) := by decide +kernel
theorem dY_move_294 : decode cY_move 294 = .ok (.aload_n 0, 1) := by decide +kernel
theorem dY_move_295 : decode cY_move 295 = .ok (.iconst 0, 1) := by decide +kernel
theorem dY_move_296 : decode cY_move 296 = .ok (.putfield 112, 3) := by decide +kernel
theorem dY_move_299 : decode cY_move 299 = .ok (.return_, 1) := by decide +kernel
theorem dY_branch_0 : decode cY_branch 0 = .ok (.aload_n 0, 1) := by decide +kernel
theorem dY_branch_1 : decode cY_branch 1 = .ok (.getfield 171, 3) := by decide +kernel
theorem dY_branch_4 : decode cY_branch 4 = .ok (.bipush 21, 2) := by decide +kernel
theorem dY_branch_6 : decode cY_branch 6 = .ok (.ishr, 1) := by decide +kernel
theorem dY_branch_7 : decode cY_branch 7 = .ok (.bipush 31, 2) := by decide +kernel
theorem dY_branch_9 : decode cY_branch 9 = .ok (.iand, 1) := by decide +kernel
theorem dY_branch_10 : decode cY_branch 10 = .ok (.istore_n 2, 1) := by decide +kernel
theorem dY_branch_11 : decode cY_branch 11 = .ok (.iload_n 1, 1) := by decide +kernel
theorem dY_branch_12 : decode cY_branch 12 = .ok (.aload_n 0, 1) := by decide +kernel
theorem dY_branch_13 : decode cY_branch 13 = .ok (.getfield 13, 3) := by decide +kernel
theorem dY_branch_16 : decode cY_branch 16 = .ok (.iload_n 2, 1) := by decide +kernel
theorem dY_branch_17 : decode cY_branch 17 = .ok (.laload, 1) := by decide +kernel
theorem dY_branch_18 : decode cY_branch 18 = .ok (.invokestatic 200, 3) := by decide +kernel
theorem dY_branch_21 : decode cY_branch 21 = .ok (.istore_n 3, 1) := by decide +kernel
theorem dY_branch_22 : decode cY_branch 22 = .ok (.aload_n 0, 1) := by decide +kernel
theorem dY_branch_23 : decode cY_branch 23 = .ok (.getfield 116, 3) := by decide +kernel
theorem dY_branch_26 : decode cY_branch 26 = .ok (.ldc2_w 133, 3) := by decide +kernel
theorem dY_branch_29 : decode cY_branch 29 = .ok (.aload_n 0, 1) := by decide +kernel
theorem dY_branch_30 : decode cY_branch 30 = .ok (.getfield 171, 3) := by decide +kernel
theorem dY_branch_33 : decode cY_branch 33 = .ok (.bipush 11, 2) := by decide +kernel
theorem dY_branch_35 : decode cY_branch 35 = .ok (.ishl, 1) := by decide +kernel
theorem dY_branch_36 : decode cY_branch 36 = .ok (.bipush 11, 2) := by decide +kernel
theorem dY_branch_38 : decode cY_branch 38 = .ok (.ishr, 1) := by decide +kernel
theorem dY_branch_39 : decode cY_branch 39 = .ok (.i2l, 1) := by decide +kernel
theorem dY_branch_40 : decode cY_branch 40 = .ok (.lmul, 1) := by decide +kernel
theorem dY_branch_41 : decode cY_branch 41 = .ok (.ladd, 1) := by decide +kernel
theorem dY_branch_42 : decode cY_branch 42 = .ok (.lstore 4, 2) := by decide +kernel
theorem dY_branch_44 : decode cY_branch 44 = .ok (.iload_n 1, 1) := by decide +kernel
theorem dY_branch_45 : decode cY_branch 45 = .ok (.bipush 48, 2) := by decide +kernel
theorem dY_branch_47 : decode cY_branch 47 = .ok (.if_icmp .eq 9, 3) := by decide +kernel
theorem dY_branch_50 : decode cY_branch 50 = .ok (.iload_n 1, 1) := by decide +kernel
theorem dY_branch_51 : decode cY_branch 51 = .ok (.bipush 52, 2) := by decide +kernel
theorem dY_branch_53 : decode cY_branch 53 = .ok (.if_icmp .ne 12, 3) := by decide +kernel
theorem dY_branch_56 : decode cY_branch 56 = .ok (.aload_n 0, 1) := by decide +kernel
theorem dY_branch_57 : decode cY_branch 57 = .ok (.iload_n 2, 1) := by decide +kernel
theorem dY_branch_58 : decode cY_branch 58 = .ok (.aload_n 0, 1) := by decide +kernel
theorem dY_branch_59 : decode cY_branch 59 = .ok (.getfield 116, 3) := by decide +kernel
theorem dY_branch_62 : decode cY_branch 62 = .ok (.invokevirtual 191, 3) := by decide +kernel
theorem dY_branch_65 : decode cY_branch 65 = .ok (.iload_n 3, 1) := by decide +kernel
theorem dY_branch_66 : decode cY_branch 66 = .ok (.ifCond .eq 9, 3) := by decide +kernel
theorem dY_branch_69 : decode cY_branch 69 = .ok (.aload_n 0, 1) := by decide +kernel
theorem dY_branch_70 : decode cY_branch 70 = .ok (.lload 4, 2) := by decide +kernel
theorem dY_branch_72 : decode cY_branch 72 = .ok (.putfield 116, 3) := by decide +kernel
theorem dY_branch_75 : decode cY_branch 75 = .ok (.return_, 1) := by decide +kernel
theorem dY_own_0 : decode cY_own 0 = .ok (.aload_n 0, 1) := by decide +kernel
theorem dY_own_1 : decode cY_own 1 = .ok (.getfield 13, 3) := by decide +kernel
theorem dY_own_4 : decode cY_own 4 = .ok (.bipush 16, 2) := by decide +kernel
theorem dY_own_6 : decode cY_own 6 = .ok (.laload, 1) := by decide +kernel
theorem dY_own_7 : decode cY_own 7 = .ok (.lstore_n 2, 1) := by decide +kernel
theorem dY_own_8 : decode cY_own 8 = .ok (.iload_n 1, 1) := by decide +kernel
theorem dY_own_9 : decode cY_own 9 = .ok (.lookupswitch 261 #[(0, 99), (49, 232), (50, 240), (51, 253), (52, 114), (53, 157), (54, 181), (55, 203), (56, 211), (58, 219), (63, 107)], 99) := by decide +kernel
theorem dY_own_108 : decode cY_own 108 = .ok (.aload_n 0, 1) := by decide +kernel
theorem dY_own_109 : decode cY_own 109 = .ok (.iconst 1, 1) := by decide +kernel
theorem dY_own_110 : decode cY_own 110 = .ok (.putfield 106, 3) := by decide +kernel
theorem dY_own_113 : decode cY_own 113 = .ok (.goto 203, 3) := by decide +kernel
theorem dY_own_116 : decode cY_own 116 = .ok (.aload_n 0, 1) := by decide +kernel
theorem dY_own_117 : decode cY_own 117 = .ok (.invokevirtual 209, 3) := by decide +kernel
theorem dY_own_120 : decode cY_own 120 = .ok (.goto 196, 3) := by decide +kernel
theorem dY_own_123 : decode cY_own 123 = .ok (.aload_n 0, 1) := by decide +kernel
theorem dY_own_124 : decode cY_own 124 = .ok (.getfield 13, 3) := by decide +kernel
theorem dY_own_127 : decode cY_own 127 = .ok (.bipush 17, 2) := by decide +kernel
theorem dY_own_129 : decode cY_own 129 = .ok (.laload, 1) := by decide +kernel
theorem dY_own_130 : decode cY_own 130 = .ok (.ldc2_w 154, 3) := by decide +kernel
theorem dY_own_133 : decode cY_own 133 = .ok (.land, 1) := by decide +kernel
theorem dY_own_134 : decode cY_own 134 = .ok (.ldc2_w 212, 3) := by decide +kernel
theorem dY_own_137 : decode cY_own 137 = .ok (.lcmp, 1) := by decide +kernel
theorem dY_own_138 : decode cY_own 138 = .ok (.ifCond .ge 178, 3) := by decide +kernel
theorem dY_own_141 : decode cY_own 141 = .ok (.aload_n 0, 1) := by decide +kernel
theorem dY_own_142 : decode cY_own 142 = .ok (.getfield 21, 3) := by decide +kernel
theorem dY_own_145 : decode cY_own 145 = .ok (.aload_n 0, 1) := by decide +kernel
theorem dY_own_146 : decode cY_own 146 = .ok (.getfield 13, 3) := by decide +kernel
theorem dY_own_149 : decode cY_own 149 = .ok (.bipush 17, 2) := by decide +kernel
theorem dY_own_151 : decode cY_own 151 = .ok (.laload, 1) := by decide +kernel
theorem dY_own_152 : decode cY_own 152 = .ok (.ldc2_w 154, 3) := by decide +kernel
theorem dY_own_155 : decode cY_own 155 = .ok (.land, 1) := by decide +kernel
theorem dY_own_156 : decode cY_own 156 = .ok (.l2i, 1) := by decide +kernel
theorem dY_own_157 : decode cY_own 157 = .ok (.lload_n 2, 1) := by decide +kernel
theorem dY_own_158 : decode cY_own 158 = .ok (.ldc2_w 214, 3) := by decide +kernel
theorem dY_own_161 : decode cY_own 161 = .ok (.land, 1) := by decide +kernel
theorem dY_own_162 : decode cY_own 162 = .ok (.lastore, 1) := by decide +kernel
theorem dY_own_163 : decode cY_own 163 = .ok (.goto 153, 3) := by decide +kernel
theorem dY_own_166 : decode cY_own 166 = .ok (.aload_n 0, 1) := by decide +kernel
theorem dY_own_167 : decode cY_own 167 = .ok (.getfield 13, 3) := by decide +kernel
theorem dY_own_170 : decode cY_own 170 = .ok (.iconst 0, 1) := by decide +kernel
theorem dY_own_171 : decode cY_own 171 = .ok (.aload_n 0, 1) := by decide +kernel
theorem dY_own_172 : decode cY_own 172 = .ok (.getfield 17, 3) := by decide +kernel
theorem dY_own_175 : decode cY_own 175 = .ok (.i2l, 1) := by decide +kernel
theorem dY_own_176 : decode cY_own 176 = .ok (.lastore, 1) := by decide +kernel
theorem dY_own_177 : decode cY_own 177 = .ok (.aload_n 0, 1) := by decide +kernel
theorem dY_own_178 : decode cY_own 178 = .ok (.lload_n 2, 1) := by decide +kernel
theorem dY_own_179 : decode cY_own 179 = .ok (.ldc2_w 154, 3) := by decide +kernel
theorem dY_own_182 : decode cY_own 182 = .ok (.land, 1) := by decide +kernel
theorem dY_own_183 : decode cY_own 183 = .ok (.l2i, 1) := by decide +kernel
theorem dY_own_184 : decode cY_own 184 = .ok (.putfield 17, 3) := by decide +kernel
theorem dY_own_187 : decode cY_own 187 = .ok (.goto 129, 3) := by decide +kernel
theorem dY_own_190 : decode cY_own 190 = .ok (.aload_n 0, 1) := by decide +kernel
theorem dY_own_191 : decode cY_own 191 = .ok (.getfield 13, 3) := by decide +kernel
theorem dY_own_194 : decode cY_own 194 = .ok (.iconst 0, 1) := by decide +kernel
theorem dY_own_195 : decode cY_own 195 = .ok (.bipush 8, 2) := by decide +kernel
theorem dY_own_197 : decode cY_own 197 = .ok (.aload_n 0, 1) := by decide +kernel
theorem dY_own_198 : decode cY_own 198 = .ok (.getfield 76, 3) := by decide +kernel
theorem dY_own_201 : decode cY_own 201 = .ok (.imul, 1) := by decide +kernel
theorem dY_own_202 : decode cY_own 202 = .ok (.aload_n 0, 1) := by decide +kernel
theorem dY_own_203 : decode cY_own 203 = .ok (.getfield 17, 3) := by decide +kernel
theorem dY_own_206 : decode cY_own 206 = .ok (.iadd, 1) := by decide +kernel
theorem dY_own_207 : decode cY_own 207 = .ok (.i2l, 1) := by decide +kernel
theorem dY_own_208 : decode cY_own 208 = .ok (.lastore, 1) := by decide +kernel
theorem dY_own_209 : decode cY_own 209 = .ok (.goto 107, 3) := by decide +kernel
theorem dY_own_212 : decode cY_own 212 = .ok (.aload_n 0, 1) := by decide +kernel
theorem dY_own_213 : decode cY_own 213 = .ok (.lload_n 2, 1) := by decide +kernel
theorem dY_own_214 : decode cY_own 214 = .ok (.putfield 109, 3) := by decide +kernel
theorem dY_own_217 : decode cY_own 217 = .ok (.goto 99, 3) := by decide +kernel
theorem dY_own_220 : decode cY_own 220 = .ok (.aload_n 0, 1) := by decide +kernel
theorem dY_own_221 : decode cY_own 221 = .ok (.lload_n 2, 1) := by decide +kernel
theorem dY_own_222 : decode cY_own 222 = .ok (.putfield 87, 3) := by decide +kernel
theorem dY_own_225 : decode cY_own 225 = .ok (.goto 91, 3) := by decide +kernel
theorem dY_own_228 : decode cY_own 228 = .ok (.aload_n 0, 1) := by decide +kernel
theorem dY_own_229 : decode cY_own 229 = .ok (.getfield 13, 3) := by decide +kernel
theorem dY_own_232 : decode cY_own 232 = .ok (.iconst 0, 1) := by decide +kernel
theorem dY_own_233 : decode cY_own 233 = .ok (.aload_n 0, 1) := by decide +kernel
theorem dY_own_234 : decode cY_own 234 = .ok (.getfield 87, 3) := by decide +kernel
theorem dY_own_237 : decode cY_own 237 = .ok (.lastore, 1) := by decide +kernel
theorem dY_own_238 : decode cY_own 238 = .ok (.goto 78, 3) := by decide +kernel
theorem dY_own_241 : decode cY_own 241 = .ok (.aload_n 0, 1) := by decide +kernel
theorem dY_own_242 : decode cY_own 242 = .ok (.lload_n 2, 1) := by decide +kernel
theorem dY_own_243 : decode cY_own 243 = .ok (.putfield 216, 3) := by decide +kernel
theorem dY_own_246 : decode cY_own 246 = .ok (.goto 70, 3) := by decide +kernel
theorem dY_own_249 : decode cY_own 249 = .ok (.aload_n 0, 1) := by decide +kernel
theorem dY_own_250 : decode cY_own 250 = .ok (.getfield 13, 3) := by decide +kernel
theorem dY_own_253 : decode cY_own 253 = .ok (.iconst 0, 1) := by decide +kernel
theorem dY_own_254 : decode cY_own 254 = .ok (.aload_n 0, 1) := by decide +kernel
theorem dY_own_255 : decode cY_own 255 = .ok (.getfield 216, 3) := by decide +kernel
theorem dY_own_258 : decode cY_own 258 = .ok (.lastore, 1) := by decide +kernel
theorem dY_own_259 : decode cY_own 259 = .ok (.goto 57, 3) := by decide +kernel
theorem dY_own_262 : decode cY_own 262 = .ok (.aload_n 0, 1) := by decide +kernel
theorem dY_own_263 : decode cY_own 263 = .ok (.iconst 0, 1) := by decide +kernel
theorem dY_own_264 : decode cY_own 264 = .ok (.putfield 44, 3) := by decide +kernel
theorem dY_own_267 : decode cY_own 267 = .ok (.goto 49, 3) := by decide +kernel
theorem dY_own_270 : decode cY_own 270 = .ok (.aload_n 0, 1) := by decide +kernel
theorem dY_own_271 : decode cY_own 271 = .ok (.getfield 13, 3) := by decide +kernel
theorem dY_own_274 : decode cY_own 274 = .ok (.iconst 0, 1) := by decide +kernel
theorem dY_own_275 : decode cY_own 275 = .ok (.sipush 256, 3) := by decide +kernel
theorem dY_own_278 : decode cY_own 278 = .ok (.aload_n 0, 1) := by decide +kernel
theorem dY_own_279 : decode cY_own 279 = .ok (.getfield 47, 3) := by decide +kernel
theorem dY_own_282 : decode cY_own 282 = .ok (.imul, 1) := by decide +kernel
theorem dY_own_283 : decode cY_own 283 = .ok (.aload_n 0, 1) := by decide +kernel
theorem dY_own_284 : decode cY_own 284 = .ok (.getfield 52, 3) := by decide +kernel
theorem dY_own_287 : decode cY_own 287 = .ok (.iadd, 1) := by decide +kernel
theorem dY_own_288 : decode cY_own 288 = .ok (.i2l, 1) := by decide +kernel
theorem dY_own_289 : decode cY_own 289 = .ok (.lastore, 1) := by decide +kernel
theorem dY_own_290 : decode cY_own 290 = .ok (.aload_n 0, 1) := by decide +kernel
theorem dY_own_291 : decode cY_own 291 = .ok (.lload_n 2, 1) := by decide +kernel
theorem dY_own_292 : decode cY_own 292 = .ok (.ldc2_w 219, 3) := by decide +kernel
theorem dY_own_295 : decode cY_own 295 = .ok (.land, 1) := by decide +kernel
theorem dY_own_296 : decode cY_own 296 = .ok (.l2i, 1) := by decide +kernel
theorem dY_own_297 : decode cY_own 297 = .ok (.putfield 52, 3) := by decide +kernel
theorem dY_own_300 : decode cY_own 300 = .ok (.aload_n 0, 1) := by decide +kernel
theorem dY_own_301 : decode cY_own 301 = .ok (.aload_n 0, 1) := by decide +kernel
theorem dY_own_302 : decode cY_own 302 = .ok (.getfield 13, 3) := by decide +kernel
theorem dY_own_305 : decode cY_own 305 = .ok (.bipush 17, 2) := by decide +kernel
theorem dY_own_307 : decode cY_own 307 = .ok (.laload, 1) := by decide +kernel
theorem dY_own_308 : decode cY_own 308 = .ok (.ldc2_w 42, 3) := by decide +kernel
theorem dY_own_311 : decode cY_own 311 = .ok (.land, 1) := by decide +kernel
theorem dY_own_312 : decode cY_own 312 = .ok (.l2i, 1) := by decide +kernel
theorem dY_own_313 : decode cY_own 313 = .ok (.putfield 47, 3) := by decide +kernel
theorem dY_own_316 : decode cY_own 316 = .ok (.return_, 1) := by decide +kernel
theorem dY_call_0 : decode cY_call 0 = .ok (.iload_n 1, 1) := by decide +kernel
theorem dY_call_1 : decode cY_call 1 = .ok (.sipush 128, 3) := by decide +kernel
theorem dY_call_4 : decode cY_call 4 = .ok (.if_icmp .eq 17, 3) := by decide +kernel
theorem dY_call_7 : decode cY_call 7 = .ok (.iload_n 1, 1) := by decide +kernel
theorem dY_call_8 : decode cY_call 8 = .ok (.sipush 129, 3) := by decide +kernel
theorem dY_call_11 : decode cY_call 11 = .ok (.if_icmp .eq 10, 3) := by decide +kernel
theorem dY_call_14 : decode cY_call 14 = .ok (.iload_n 1, 1) := by decide +kernel
theorem dY_call_15 : decode cY_call 15 = .ok (.sipush 170, 3) := by decide +kernel
theorem dY_call_18 : decode cY_call 18 = .ok (.if_icmp .ne 36, 3) := by decide +kernel
theorem dY_call_21 : decode cY_call 21 = .ok (.aload_n 0, 1) := by decide +kernel
theorem dY_call_22 : decode cY_call 22 = .ok (.iconst 3, 1) := by decide +kernel
theorem dY_call_23 : decode cY_call 23 = .ok (.iload_n 1, 1) := by decide +kernel
theorem dY_call_24 : decode cY_call 24 = .ok (.sipush 170, 3) := by decide +kernel
theorem dY_call_27 : decode cY_call 27 = .ok (.if_icmp .ne 9, 3) := by decide +kernel
theorem dY_call_30 : decode cY_call 30 = .ok (.ldc2_w 204, 3) := by decide +kernel
theorem dY_call_33 : decode cY_call 33 = .ok (.goto 9, 3) := by decide +kernel
theorem dY_call_36 : decode cY_call 36 = .ok (.iload_n 1, 1) := by decide +kernel
theorem dY_call_37 : decode cY_call 37 = .ok (.sipush 128, 3) := by decide +kernel
theorem dY_call_40 : decode cY_call 40 = .ok (.isub, 1) := by decide +kernel
theorem dY_call_41 : decode cY_call 41 = .ok (.i2l, 1) := by decide +kernel
theorem dY_call_42 : decode cY_call 42 = .ok (.lconst 0, 1) := by decide +kernel
theorem dY_call_43 : decode cY_call 43 = .ok (.lconst 0, 1) := by decide +kernel
theorem dY_call_44 : decode cY_call 44 = .ok (.aload_n 0, 1) := by decide +kernel
theorem dY_call_45 : decode cY_call 45 = .ok (.getfield 116, 3) := by decide +kernel
theorem dY_call_48 : decode cY_call 48 = .ok (.invokevirtual 125, 3) := by decide +kernel
theorem dY_call_51 : decode cY_call 51 = .ok (.goto 117, 3) := by decide +kernel
theorem dY_call_54 : decode cY_call 54 = .ok (.iload_n 1, 1) := by decide +kernel
theorem dY_call_55 : decode cY_call 55 = .ok (.sipush 131, 3) := by decide +kernel
theorem dY_call_58 : decode cY_call 58 = .ok (.if_icmp .ne 36, 3) := by decide +kernel
theorem dY_call_61 : decode cY_call 61 = .ok (.aload_n 0, 1) := by decide +kernel
theorem dY_call_62 : decode cY_call 62 = .ok (.iconst 5, 1) := by decide +kernel
theorem dY_call_63 : decode cY_call 63 = .ok (.aload_n 0, 1) := by decide +kernel
theorem dY_call_64 : decode cY_call 64 = .ok (.getfield 13, 3) := by decide +kernel
theorem dY_call_67 : decode cY_call 67 = .ok (.bipush 16, 2) := by decide +kernel
theorem dY_call_69 : decode cY_call 69 = .ok (.laload, 1) := by decide +kernel
theorem dY_call_70 : decode cY_call 70 = .ok (.aload_n 0, 1) := by decide +kernel
theorem dY_call_71 : decode cY_call 71 = .ok (.getfield 13, 3) := by decide +kernel
theorem dY_call_74 : decode cY_call 74 = .ok (.bipush 17, 2) := by decide +kernel
theorem dY_call_76 : decode cY_call 76 = .ok (.laload, 1) := by decide +kernel
theorem dY_call_77 : decode cY_call 77 = .ok (.aload_n 0, 1) := by decide +kernel
theorem dY_call_78 : decode cY_call 78 = .ok (.getfield 13, 3) := by decide +kernel
theorem dY_call_81 : decode cY_call 81 = .ok (.bipush 18, 2) := by decide +kernel
theorem dY_call_83 : decode cY_call 83 = .ok (.laload, 1) := by decide +kernel
theorem dY_call_84 : decode cY_call 84 = .ok (.aload_n 0, 1) := by decide +kernel
theorem dY_call_85 : decode cY_call 85 = .ok (.getfield 116, 3) := by decide +kernel
theorem dY_call_88 : decode cY_call 88 = .ok (.invokevirtual 125, 3) := by decide +kernel
theorem dY_call_91 : decode cY_call 91 = .ok (.goto 77, 3) := by decide +kernel
theorem dY_call_94 : decode cY_call 94 = .ok (.iload_n 1, 1) := by decide +kernel
theorem dY_call_95 : decode cY_call 95 = .ok (.sipush 134, 3) := by decide +kernel
theorem dY_call_98 : decode cY_call 98 = .ok (.if_icmp .eq 70, 3) := by decide +kernel
theorem dY_call_101 : decode cY_call 101 = .ok (.iload_n 1, 1) := by decide +kernel
theorem dY_call_102 : decode cY_call 102 = .ok (.ifCond .eq 27, 3) := by decide +kernel
theorem dY_call_105 : decode cY_call 105 = .ok (.iload_n 1, 1) := by decide +kernel
theorem dY_call_106 : decode cY_call 106 = .ok (.bipush 63, 2) := by decide +kernel
theorem dY_call_108 : decode cY_call 108 = .ok (.if_icmp .eq 21, 3) := by decide +kernel
theorem dY_call_111 : decode cY_call 111 = .ok (.iload_n 1, 1) := by decide +kernel
theorem dY_call_112 : decode cY_call 112 = .ok (.bipush 48, 2) := by decide +kernel
theorem dY_call_114 : decode cY_call 114 = .ok (.if_icmp .lt 9, 3) := by decide +kernel
theorem dY_call_117 : decode cY_call 117 = .ok (.iload_n 1, 1) := by decide +kernel
theorem dY_call_118 : decode cY_call 118 = .ok (.bipush 56, 2) := by decide +kernel
theorem dY_call_120 : decode cY_call 120 = .ok (.if_icmp .le 9, 3) := by decide +kernel
theorem dY_call_123 : decode cY_call 123 = .ok (.iload_n 1, 1) := by decide +kernel
theorem dY_call_124 : decode cY_call 124 = .ok (.bipush 58, 2) := by decide +kernel
theorem dY_call_126 : decode cY_call 126 = .ok (.if_icmp .ne 7, 3) := by decide +kernel
theorem dY_call_129 : decode cY_call 129 = .ok (.iconst 1, 1) := by decide +kernel
theorem dY_call_130 : decode cY_call 130 = .ok (.goto 4, 3) := by decide +kernel
theorem dY_call_133 : decode cY_call 133 = .ok (.iconst 0, 1) := by decide +kernel
theorem dY_call_134 : decode cY_call 134 = .ok (.istore_n 2, 1) := by decide +kernel
theorem dY_call_135 : decode cY_call 135 = .ok (.iload_n 2, 1) := by decide +kernel
theorem dY_call_136 : decode cY_call 136 = .ok (.ifCond .ne 11, 3) := by decide +kernel
theorem dY_call_139 : decode cY_call 139 = .ok (.aload_n 0, 1) := by decide +kernel
theorem dY_call_140 : decode cY_call 140 = .ok (.iconst 4, 1) := by decide +kernel
theorem dY_call_141 : decode cY_call 141 = .ok (.invokevirtual 187, 3) := by decide +kernel
theorem dY_call_144 : decode cY_call 144 = .ok (.goto 24, 3) := by decide +kernel
theorem dY_call_147 : decode cY_call 147 = .ok (.aload_n 0, 1) := by decide +kernel
theorem dY_call_148 : decode cY_call 148 = .ok (.getfield 76, 3) := by decide +kernel
theorem dY_call_151 : decode cY_call 151 = .ok (.iconst 1, 1) := by decide +kernel
theorem dY_call_152 : decode cY_call 152 = .ok (.if_icmp .ne 11, 3) := by decide +kernel
theorem dY_call_155 : decode cY_call 155 = .ok (.aload_n 0, 1) := by decide +kernel
theorem dY_call_156 : decode cY_call 156 = .ok (.iconst 3, 1) := by decide +kernel
theorem dY_call_157 : decode cY_call 157 = .ok (.invokevirtual 187, 3) := by decide +kernel
theorem dY_call_160 : decode cY_call 160 = .ok (.goto 8, 3) := by decide +kernel
theorem dY_call_163 : decode cY_call 163 = .ok (.aload_n 0, 1) := by decide +kernel
theorem dY_call_164 : decode cY_call 164 = .ok (.iload_n 1, 1) := by decide +kernel
theorem dY_call_165 : decode cY_call 165 = .ok (.invokevirtual 206, 3) := by decide +kernel
theorem dY_call_168 : decode cY_call 168 = .ok (.return_, 1) := by decide +kernel
theorem dY_due_0 : decode cY_due 0 = .ok (.iconst (-1), 1) := by decide +kernel
theorem dY_due_1 : decode cY_due 1 = .ok (.istore_n 1, 1) := by decide +kernel
theorem dY_due_2 : decode cY_due 2 = .ok (.iconst 0, 1) := by decide +kernel
theorem dY_due_3 : decode cY_due 3 = .ok (.istore_n 2, 1) := by decide +kernel
theorem dY_due_4 : decode cY_due 4 = .ok (.iload_n 2, 1) := by decide +kernel
theorem dY_due_5 : decode cY_due 5 = .ok (.aload_n 0, 1) := by decide +kernel
theorem dY_due_6 : decode cY_due 6 = .ok (.getfield 221, 3) := by decide +kernel
theorem dY_due_9 : decode cY_due 9 = .ok (.if_icmp .ge 43, 3) := by decide +kernel
theorem dY_due_12 : decode cY_due 12 = .ok (.aload_n 0, 1) := by decide +kernel
theorem dY_due_13 : decode cY_due 13 = .ok (.getfield 24, 3) := by decide +kernel
theorem dY_due_16 : decode cY_due 16 = .ok (.iload_n 2, 1) := by decide +kernel
theorem dY_due_17 : decode cY_due 17 = .ok (.iaload, 1) := by decide +kernel
theorem dY_due_18 : decode cY_due 18 = .ok (.aload_n 0, 1) := by decide +kernel
theorem dY_due_19 : decode cY_due 19 = .ok (.getfield 17, 3) := by decide +kernel
theorem dY_due_22 : decode cY_due 22 = .ok (.if_icmp .le 24, 3) := by decide +kernel
theorem dY_due_25 : decode cY_due 25 = .ok (.iload_n 1, 1) := by decide +kernel
theorem dY_due_26 : decode cY_due 26 = .ok (.ifCond .lt 18, 3) := by decide +kernel
theorem dY_due_29 : decode cY_due 29 = .ok (.aload_n 0, 1) := by decide +kernel
theorem dY_due_30 : decode cY_due 30 = .ok (.getfield 24, 3) := by decide +kernel
theorem dY_due_33 : decode cY_due 33 = .ok (.iload_n 2, 1) := by decide +kernel
theorem dY_due_34 : decode cY_due 34 = .ok (.iaload, 1) := by decide +kernel
theorem dY_due_35 : decode cY_due 35 = .ok (.aload_n 0, 1) := by decide +kernel
theorem dY_due_36 : decode cY_due 36 = .ok (.getfield 24, 3) := by decide +kernel
theorem dY_due_39 : decode cY_due 39 = .ok (.iload_n 1, 1) := by decide +kernel
theorem dY_due_40 : decode cY_due 40 = .ok (.iaload, 1) := by decide +kernel
theorem dY_due_41 : decode cY_due 41 = .ok (.if_icmp .le 5, 3) := by decide +kernel
theorem dY_due_44 : decode cY_due 44 = .ok (.iload_n 2, 1) := by decide +kernel
theorem dY_due_45 : decode cY_due 45 = .ok (.istore_n 1, 1) := by decide +kernel
theorem dY_due_46 : decode cY_due 46 = .ok (.iinc 2 1, 3) := by decide +kernel
theorem dY_due_49 : decode cY_due 49 = .ok (.goto (-45), 3) := by decide +kernel
theorem dY_due_52 : decode cY_due 52 = .ok (.iload_n 1, 1) := by decide +kernel
theorem dY_due_53 : decode cY_due 53 = .ok (.ireturn, 1) := by decide +kernel
theorem dY_interrupted_0 : decode cY_interrupted 0 = .ok (.aload_n 0, 1) := by decide +kernel
theorem dY_interrupted_1 : decode cY_interrupted 1 = .ok (.getfield 24, 3) := by decide +kernel
theorem dY_interrupted_4 : decode cY_interrupted 4 = .ok (.iload_n 1, 1) := by decide +kernel
theorem dY_interrupted_5 : decode cY_interrupted 5 = .ok (.iaload, 1) := by decide +kernel
theorem dY_interrupted_6 : decode cY_interrupted 6 = .ok (.istore_n 2, 1) := by decide +kernel
theorem dY_interrupted_7 : decode cY_interrupted 7 = .ok (.aload_n 0, 1) := by decide +kernel
theorem dY_interrupted_8 : decode cY_interrupted 8 = .ok (.getfield 27, 3) := by decide +kernel
theorem dY_interrupted_11 : decode cY_interrupted 11 = .ok (.iload_n 1, 1) := by decide +kernel
theorem dY_interrupted_12 : decode cY_interrupted 12 = .ok (.iaload, 1) := by decide +kernel
theorem dY_interrupted_13 : decode cY_interrupted 13 = .ok (.istore_n 3, 1) := by decide +kernel
theorem dY_interrupted_14 : decode cY_interrupted 14 = .ok (.aload_n 0, 1) := by decide +kernel
theorem dY_interrupted_15 : decode cY_interrupted 15 = .ok (.dup, 1) := by decide +kernel
theorem dY_interrupted_16 : decode cY_interrupted 16 = .ok (.getfield 221, 3) := by decide +kernel
theorem dY_interrupted_19 : decode cY_interrupted 19 = .ok (.iconst 1, 1) := by decide +kernel
theorem dY_interrupted_20 : decode cY_interrupted 20 = .ok (.isub, 1) := by decide +kernel
theorem dY_interrupted_21 : decode cY_interrupted 21 = .ok (.putfield 221, 3) := by decide +kernel
theorem dY_interrupted_24 : decode cY_interrupted 24 = .ok (.iload_n 1, 1) := by decide +kernel
theorem dY_interrupted_25 : decode cY_interrupted 25 = .ok (.istore 4, 2) := by decide +kernel
theorem dY_interrupted_27 : decode cY_interrupted 27 = .ok (.iload 4, 2) := by decide +kernel
theorem dY_interrupted_29 : decode cY_interrupted 29 = .ok (.aload_n 0, 1) := by decide +kernel
theorem dY_interrupted_30 : decode cY_interrupted 30 = .ok (.getfield 221, 3) := by decide +kernel
theorem dY_interrupted_33 : decode cY_interrupted 33 = .ok (.if_icmp .ge 41, 3) := by decide +kernel
theorem dY_interrupted_36 : decode cY_interrupted 36 = .ok (.aload_n 0, 1) := by decide +kernel
theorem dY_interrupted_37 : decode cY_interrupted 37 = .ok (.getfield 24, 3) := by decide +kernel
theorem dY_interrupted_40 : decode cY_interrupted 40 = .ok (.iload 4, 2) := by decide +kernel
theorem dY_interrupted_42 : decode cY_interrupted 42 = .ok (.aload_n 0, 1) := by decide +kernel
theorem dY_interrupted_43 : decode cY_interrupted 43 = .ok (.getfield 24, 3) := by decide +kernel
theorem dY_interrupted_46 : decode cY_interrupted 46 = .ok (.iload 4, 2) := by decide +kernel
theorem dY_interrupted_48 : decode cY_interrupted 48 = .ok (.iconst 1, 1) := by decide +kernel
theorem dY_interrupted_49 : decode cY_interrupted 49 = .ok (.iadd, 1) := by decide +kernel
theorem dY_interrupted_50 : decode cY_interrupted 50 = .ok (.iaload, 1) := by decide +kernel
theorem dY_interrupted_51 : decode cY_interrupted 51 = .ok (.iastore, 1) := by decide +kernel
theorem dY_interrupted_52 : decode cY_interrupted 52 = .ok (.aload_n 0, 1) := by decide +kernel
theorem dY_interrupted_53 : decode cY_interrupted 53 = .ok (.getfield 27, 3) := by decide +kernel
theorem dY_interrupted_56 : decode cY_interrupted 56 = .ok (.iload 4, 2) := by decide +kernel
theorem dY_interrupted_58 : decode cY_interrupted 58 = .ok (.aload_n 0, 1) := by decide +kernel
theorem dY_interrupted_59 : decode cY_interrupted 59 = .ok (.getfield 27, 3) := by decide +kernel
theorem dY_interrupted_62 : decode cY_interrupted 62 = .ok (.iload 4, 2) := by decide +kernel
theorem dY_interrupted_64 : decode cY_interrupted 64 = .ok (.iconst 1, 1) := by decide +kernel
theorem dY_interrupted_65 : decode cY_interrupted 65 = .ok (.iadd, 1) := by decide +kernel
theorem dY_interrupted_66 : decode cY_interrupted 66 = .ok (.iaload, 1) := by decide +kernel
theorem dY_interrupted_67 : decode cY_interrupted 67 = .ok (.iastore, 1) := by decide +kernel
theorem dY_interrupted_68 : decode cY_interrupted 68 = .ok (.iinc 4 1, 3) := by decide +kernel
theorem dY_interrupted_71 : decode cY_interrupted 71 = .ok (.goto (-44), 3) := by decide +kernel
theorem dY_interrupted_74 : decode cY_interrupted 74 = .ok (.aload_n 0, 1) := by decide +kernel
theorem dY_interrupted_75 : decode cY_interrupted 75 = .ok (.iconst 0, 1) := by decide +kernel
theorem dY_interrupted_76 : decode cY_interrupted 76 = .ok (.iload_n 3, 1) := by decide +kernel
theorem dY_interrupted_77 : decode cY_interrupted 77 = .ok (.i2l, 1) := by decide +kernel
theorem dY_interrupted_78 : decode cY_interrupted 78 = .ok (.lconst 0, 1) := by decide +kernel
theorem dY_interrupted_79 : decode cY_interrupted 79 = .ok (.lconst 0, 1) := by decide +kernel
theorem dY_interrupted_80 : decode cY_interrupted 80 = .ok (.aload_n 0, 1) := by decide +kernel
theorem dY_interrupted_81 : decode cY_interrupted 81 = .ok (.getfield 116, 3) := by decide +kernel
theorem dY_interrupted_84 : decode cY_interrupted 84 = .ok (.invokevirtual 125, 3) := by decide +kernel
theorem dY_interrupted_87 : decode cY_interrupted 87 = .ok (.aload_n 0, 1) := by decide +kernel
theorem dY_interrupted_88 : decode cY_interrupted 88 = .ok (.getfield 106, 3) := by decide +kernel
theorem dY_interrupted_91 : decode cY_interrupted 91 = .ok (.ifCond .ne 8, 3) := by decide +kernel
theorem dY_interrupted_94 : decode cY_interrupted 94 = .ok (.aload_n 0, 1) := by decide +kernel
theorem dY_interrupted_95 : decode cY_interrupted 95 = .ok (.iload_n 2, 1) := by decide +kernel
theorem dY_interrupted_96 : decode cY_interrupted 96 = .ok (.putfield 17, 3) := by decide +kernel
theorem dY_interrupted_99 : decode cY_interrupted 99 = .ok (.return_, 1) := by decide +kernel
theorem dY_step_0 : decode cY_step 0 = .ok (.aload_n 0, 1) := by decide +kernel
theorem dY_step_1 : decode cY_step 1 = .ok (.invokevirtual 224, 3) := by decide +kernel
theorem dY_step_4 : decode cY_step 4 = .ok (.istore_n 1, 1) := by decide +kernel
theorem dY_step_5 : decode cY_step 5 = .ok (.iload_n 1, 1) := by decide +kernel
theorem dY_step_6 : decode cY_step 6 = .ok (.ifCond .lt 9, 3) := by decide +kernel
theorem dY_step_9 : decode cY_step 9 = .ok (.aload_n 0, 1) := by decide +kernel
theorem dY_step_10 : decode cY_step 10 = .ok (.iload_n 1, 1) := by decide +kernel
theorem dY_step_11 : decode cY_step 11 = .ok (.invokevirtual 228, 3) := by decide +kernel
theorem dY_step_14 : decode cY_step 14 = .ok (.return_, 1) := by decide +kernel
theorem dY_step_15 : decode cY_step 15 = .ok (.aload_n 0, 1) := by decide +kernel
theorem dY_step_16 : decode cY_step 16 = .ok (.aload_n 0, 1) := by decide +kernel
theorem dY_step_17 : decode cY_step 17 = .ok (.getfield 116, 3) := by decide +kernel
theorem dY_step_20 : decode cY_step 20 = .ok (.putfield 122, 3) := by decide +kernel
theorem dY_step_23 : decode cY_step 23 = .ok (.aload_n 0, 1) := by decide +kernel
theorem dY_step_24 : decode cY_step 24 = .ok (.aload_n 0, 1) := by decide +kernel
theorem dY_step_25 : decode cY_step 25 = .ok (.getfield 116, 3) := by decide +kernel
theorem dY_step_28 : decode cY_step 28 = .ok (.iconst (-1), 1) := by decide +kernel
theorem dY_step_29 : decode cY_step 29 = .ok (.invokevirtual 98, 3) := by decide +kernel
theorem dY_step_32 : decode cY_step 32 = .ok (.istore_n 2, 1) := by decide +kernel
theorem dY_step_33 : decode cY_step 33 = .ok (.iload_n 2, 1) := by decide +kernel
theorem dY_step_34 : decode cY_step 34 = .ok (.ifCond .ge 14, 3) := by decide +kernel
theorem dY_step_37 : decode cY_step 37 = .ok (.aload_n 0, 1) := by decide +kernel
theorem dY_step_38 : decode cY_step 38 = .ok (.aload_n 0, 1) := by decide +kernel
theorem dY_step_39 : decode cY_step 39 = .ok (.getfield 116, 3) := by decide +kernel
theorem dY_step_42 : decode cY_step 42 = .ok (.iload_n 2, 1) := by decide +kernel
theorem dY_step_43 : decode cY_step 43 = .ok (.iconst (-1), 1) := by decide +kernel
theorem dY_step_44 : decode cY_step 44 = .ok (.invokevirtual 196, 3) := by decide +kernel
theorem dY_step_47 : decode cY_step 47 = .ok (.return_, 1) := by decide +kernel
theorem dY_step_48 : decode cY_step 48 = .ok (.aload_n 0, 1) := by decide +kernel
theorem dY_step_49 : decode cY_step 49 = .ok (.aload_n 0, 1) := by decide +kernel
theorem dY_step_50 : decode cY_step 50 = .ok (.iload_n 2, 1) := by decide +kernel
theorem dY_step_51 : decode cY_step 51 = .ok (.iconst 4, 1) := by decide +kernel
theorem dY_step_52 : decode cY_step 52 = .ok (.invokevirtual 55, 3) := by decide +kernel
theorem dY_step_55 : decode cY_step 55 = .ok (.l2i, 1) := by decide +kernel
theorem dY_step_56 : decode cY_step 56 = .ok (.putfield 171, 3) := by decide +kernel
theorem dY_step_59 : decode cY_step 59 = .ok (.aload_n 0, 1) := by decide +kernel
theorem dY_step_60 : decode cY_step 60 = .ok (.dup, 1) := by decide +kernel
theorem dY_step_61 : decode cY_step 61 = .ok (.getfield 116, 3) := by decide +kernel
theorem dY_step_64 : decode cY_step 64 = .ok (.ldc2_w 133, 3) := by decide +kernel
theorem dY_step_67 : decode cY_step 67 = .ok (.ladd, 1) := by decide +kernel
theorem dY_step_68 : decode cY_step 68 = .ok (.putfield 116, 3) := by decide +kernel
theorem dY_step_71 : decode cY_step 71 = .ok (.aload_n 0, 1) := by decide +kernel
theorem dY_step_72 : decode cY_step 72 = .ok (.getfield 171, 3) := by decide +kernel
theorem dY_step_75 : decode cY_step 75 = .ok (.bipush 26, 2) := by decide +kernel
theorem dY_step_77 : decode cY_step 77 = .ok (.iushr, 1) := by decide +kernel
theorem dY_step_78 : decode cY_step 78 = .ok (.istore_n 3, 1) := by decide +kernel
theorem dY_step_79 : decode cY_step 79 = .ok (.iload_n 3, 1) := by decide +kernel
theorem dY_step_80 : decode cY_step 80 = .ok (.ifCond .ne 18, 3) := by decide +kernel
theorem dY_step_83 : decode cY_step 83 = .ok (.aload_n 0, 1) := by decide +kernel
theorem dY_step_84 : decode cY_step 84 = .ok (.aload_n 0, 1) := by decide +kernel
theorem dY_step_85 : decode cY_step 85 = .ok (.getfield 171, 3) := by decide +kernel
theorem dY_step_88 : decode cY_step 88 = .ok (.sipush 255, 3) := by decide +kernel
theorem dY_step_91 : decode cY_step 91 = .ok (.iand, 1) := by decide +kernel
theorem dY_step_92 : decode cY_step 92 = .ok (.invokevirtual 231, 3) := by decide +kernel
theorem dY_step_95 : decode cY_step 95 = .ok (.goto 211, 3) := by decide +kernel
theorem dY_step_98 : decode cY_step 98 = .ok (.iload_n 3, 1) := by decide +kernel
theorem dY_step_99 : decode cY_step 99 = .ok (.bipush 16, 2) := by decide +kernel
theorem dY_step_101 : decode cY_step 101 = .ok (.if_icmp .lt 17, 3) := by decide +kernel
theorem dY_step_104 : decode cY_step 104 = .ok (.iload_n 3, 1) := by decide +kernel
theorem dY_step_105 : decode cY_step 105 = .ok (.bipush 19, 2) := by decide +kernel
theorem dY_step_107 : decode cY_step 107 = .ok (.if_icmp .gt 11, 3) := by decide +kernel
theorem dY_step_110 : decode cY_step 110 = .ok (.aload_n 0, 1) := by decide +kernel
theorem dY_step_111 : decode cY_step 111 = .ok (.iload_n 3, 1) := by decide +kernel
theorem dY_step_112 : decode cY_step 112 = .ok (.invokevirtual 234, 3) := by decide +kernel
theorem dY_step_115 : decode cY_step 115 = .ok (.goto 191, 3) := by decide +kernel
theorem dY_step_118 : decode cY_step 118 = .ok (.iload_n 3, 1) := by decide +kernel
theorem dY_step_119 : decode cY_step 119 = .ok (.bipush 8, 2) := by decide +kernel
theorem dY_step_121 : decode cY_step 121 = .ok (.if_icmp .eq 9, 3) := by decide +kernel
theorem dY_step_124 : decode cY_step 124 = .ok (.iload_n 3, 1) := by decide +kernel
theorem dY_step_125 : decode cY_step 125 = .ok (.bipush 9, 2) := by decide +kernel
theorem dY_step_127 : decode cY_step 127 = .ok (.if_icmp .ne 56, 3) := by decide +kernel
theorem dY_step_130 : decode cY_step 130 = .ok (.aload_n 0, 1) := by decide +kernel
theorem dY_step_131 : decode cY_step 131 = .ok (.aload_n 0, 1) := by decide +kernel
theorem dY_step_132 : decode cY_step 132 = .ok (.getfield 171, 3) := by decide +kernel
theorem dY_step_135 : decode cY_step 135 = .ok (.bipush 21, 2) := by decide +kernel
theorem dY_step_137 : decode cY_step 137 = .ok (.ishr, 1) := by decide +kernel
theorem dY_step_138 : decode cY_step 138 = .ok (.bipush 31, 2) := by decide +kernel
theorem dY_step_140 : decode cY_step 140 = .ok (.iand, 1) := by decide +kernel
theorem dY_step_141 : decode cY_step 141 = .ok (.aload_n 0, 1) := by decide +kernel
theorem dY_step_142 : decode cY_step 142 = .ok (.getfield 13, 3) := by decide +kernel
theorem dY_step_145 : decode cY_step 145 = .ok (.aload_n 0, 1) := by decide +kernel
theorem dY_step_146 : decode cY_step 146 = .ok (.getfield 171, 3) := by decide +kernel
theorem dY_step_149 : decode cY_step 149 = .ok (.bipush 16, 2) := by decide +kernel
theorem dY_step_151 : decode cY_step 151 = .ok (.ishr, 1) := by decide +kernel
theorem dY_step_152 : decode cY_step 152 = .ok (.bipush 31, 2) := by decide +kernel
theorem dY_step_154 : decode cY_step 154 = .ok (.iand, 1) := by decide +kernel
theorem dY_step_155 : decode cY_step 155 = .ok (.laload, 1) := by decide +kernel
theorem dY_step_156 : decode cY_step 156 = .ok (.iload_n 3, 1) := by decide +kernel
theorem dY_step_157 : decode cY_step 157 = .ok (.bipush 8, 2) := by decide +kernel
theorem dY_step_159 : decode cY_step 159 = .ok (.if_icmp .ne 7, 3) := by decide +kernel
theorem dY_step_162 : decode cY_step 162 = .ok (.lconst 1, 1) := by decide +kernel
theorem dY_step_163 : decode cY_step 163 = .ok (.goto 6, 3) := by decide +kernel
theorem dY_step_166 : decode cY_step 166 = .ok (.ldc2_w 237, 3) := by decide +kernel
theorem dY_step_169 : decode cY_step 169 = .ok (.aload_n 0, 1) := by decide +kernel
theorem dY_step_170 : decode cY_step 170 = .ok (.getfield 171, 3) := by decide +kernel
theorem dY_step_173 : decode cY_step 173 = .ok (.i2s, 1) := by decide +kernel
theorem dY_step_174 : decode cY_step 174 = .ok (.i2l, 1) := by decide +kernel
theorem dY_step_175 : decode cY_step 175 = .ok (.lmul, 1) := by decide +kernel
theorem dY_step_176 : decode cY_step 176 = .ok (.ladd, 1) := by decide +kernel
theorem dY_step_177 : decode cY_step 177 = .ok (.invokevirtual 191, 3) := by decide +kernel
theorem dY_step_180 : decode cY_step 180 = .ok (.goto 126, 3) := by decide +kernel
theorem dY_step_183 : decode cY_step 183 = .ok (.iload_n 3, 1) := by decide +kernel
theorem dY_step_184 : decode cY_step 184 = .ok (.bipush 11, 2) := by decide +kernel
theorem dY_step_186 : decode cY_step 186 = .ok (.if_icmp .eq 21, 3) := by decide +kernel
theorem dY_step_189 : decode cY_step 189 = .ok (.iload_n 3, 1) := by decide +kernel
theorem dY_step_190 : decode cY_step 190 = .ok (.bipush 15, 2) := by decide +kernel
theorem dY_step_192 : decode cY_step 192 = .ok (.if_icmp .eq 15, 3) := by decide +kernel
theorem dY_step_195 : decode cY_step 195 = .ok (.iload_n 3, 1) := by decide +kernel
theorem dY_step_196 : decode cY_step 196 = .ok (.bipush 40, 2) := by decide +kernel
theorem dY_step_198 : decode cY_step 198 = .ok (.if_icmp .lt 17, 3) := by decide +kernel
theorem dY_step_201 : decode cY_step 201 = .ok (.iload_n 3, 1) := by decide +kernel
theorem dY_step_202 : decode cY_step 202 = .ok (.bipush 47, 2) := by decide +kernel
theorem dY_step_204 : decode cY_step 204 = .ok (.if_icmp .gt 11, 3) := by decide +kernel
theorem dY_step_207 : decode cY_step 207 = .ok (.aload_n 0, 1) := by decide +kernel
theorem dY_step_208 : decode cY_step 208 = .ok (.iload_n 3, 1) := by decide +kernel
theorem dY_step_209 : decode cY_step 209 = .ok (.invokevirtual 239, 3) := by decide +kernel
theorem dY_step_212 : decode cY_step 212 = .ok (.goto 94, 3) := by decide +kernel
theorem dY_step_215 : decode cY_step 215 = .ok (.iload_n 3, 1) := by decide +kernel
theorem dY_step_216 : decode cY_step 216 = .ok (.bipush 48, 2) := by decide +kernel
theorem dY_step_218 : decode cY_step 218 = .ok (.if_icmp .eq 15, 3) := by decide +kernel
theorem dY_step_221 : decode cY_step 221 = .ok (.iload_n 3, 1) := by decide +kernel
theorem dY_step_222 : decode cY_step 222 = .ok (.bipush 52, 2) := by decide +kernel
theorem dY_step_224 : decode cY_step 224 = .ok (.if_icmp .eq 9, 3) := by decide +kernel
theorem dY_step_227 : decode cY_step 227 = .ok (.iload_n 3, 1) := by decide +kernel
theorem dY_step_228 : decode cY_step 228 = .ok (.bipush 56, 2) := by decide +kernel
theorem dY_step_230 : decode cY_step 230 = .ok (.if_icmp .lt 11, 3) := by decide +kernel
theorem dY_step_233 : decode cY_step 233 = .ok (.aload_n 0, 1) := by decide +kernel
theorem dY_step_234 : decode cY_step 234 = .ok (.iload_n 3, 1) := by decide +kernel
theorem dY_step_235 : decode cY_step 235 = .ok (.invokevirtual 242, 3) := by decide +kernel
theorem dY_step_238 : decode cY_step 238 = .ok (.goto 68, 3) := by decide +kernel
theorem dY_step_241 : decode cY_step 241 = .ok (.iload_n 3, 1) := by decide +kernel
theorem dY_step_242 : decode cY_step 242 = .ok (.bipush 26, 2) := by decide +kernel
theorem dY_step_244 : decode cY_step 244 = .ok (.if_icmp .ne 51, 3) := by decide +kernel
theorem dY_step_247 : decode cY_step 247 = .ok (.aload_n 0, 1) := by decide +kernel
theorem dY_step_248 : decode cY_step 248 = .ok (.getfield 13, 3) := by decide +kernel
theorem dY_step_251 : decode cY_step 251 = .ok (.aload_n 0, 1) := by decide +kernel
theorem dY_step_252 : decode cY_step 252 = .ok (.getfield 171, 3) := by decide +kernel
theorem dY_step_255 : decode cY_step 255 = .ok (.bipush 16, 2) := by decide +kernel
theorem dY_step_257 : decode cY_step 257 = .ok (.ishr, 1) := by decide +kernel
theorem dY_step_258 : decode cY_step 258 = .ok (.bipush 31, 2) := by decide +kernel
theorem dY_step_260 : decode cY_step 260 = .ok (.iand, 1) := by decide +kernel
theorem dY_step_261 : decode cY_step 261 = .ok (.laload, 1) := by decide +kernel
theorem dY_step_262 : decode cY_step 262 = .ok (.ldc2_w 214, 3) := by decide +kernel
theorem dY_step_265 : decode cY_step 265 = .ok (.land, 1) := by decide +kernel
theorem dY_step_266 : decode cY_step 266 = .ok (.lstore 4, 2) := by decide +kernel
theorem dY_step_268 : decode cY_step 268 = .ok (.aload_n 0, 1) := by decide +kernel
theorem dY_step_269 : decode cY_step 269 = .ok (.aload_n 0, 1) := by decide +kernel
theorem dY_step_270 : decode cY_step 270 = .ok (.getfield 171, 3) := by decide +kernel
theorem dY_step_273 : decode cY_step 273 = .ok (.bipush 21, 2) := by decide +kernel
theorem dY_step_275 : decode cY_step 275 = .ok (.ishr, 1) := by decide +kernel
theorem dY_step_276 : decode cY_step 276 = .ok (.bipush 31, 2) := by decide +kernel
theorem dY_step_278 : decode cY_step 278 = .ok (.iand, 1) := by decide +kernel
theorem dY_step_279 : decode cY_step 279 = .ok (.aload_n 0, 1) := by decide +kernel
theorem dY_step_280 : decode cY_step 280 = .ok (.getfield 116, 3) := by decide +kernel
theorem dY_step_283 : decode cY_step 283 = .ok (.invokevirtual 191, 3) := by decide +kernel
theorem dY_step_286 : decode cY_step 286 = .ok (.aload_n 0, 1) := by decide +kernel
theorem dY_step_287 : decode cY_step 287 = .ok (.lload 4, 2) := by decide +kernel
theorem dY_step_289 : decode cY_step 289 = .ok (.putfield 116, 3) := by decide +kernel
theorem dY_step_292 : decode cY_step 292 = .ok (.goto 14, 3) := by decide +kernel
theorem dY_step_295 : decode cY_step 295 = .ok (.iload_n 3, 1) := by decide +kernel
theorem dY_step_296 : decode cY_step 296 = .ok (.bipush 24, 2) := by decide +kernel
theorem dY_step_298 : decode cY_step 298 = .ok (.if_icmp .eq 8, 3) := by decide +kernel
theorem dY_step_301 : decode cY_step 301 = .ok (.aload_n 0, 1) := by decide +kernel
theorem dY_step_302 : decode cY_step 302 = .ok (.iconst 4, 1) := by decide +kernel
theorem dY_step_303 : decode cY_step 303 = .ok (.invokevirtual 187, 3) := by decide +kernel
theorem dY_step_306 : decode cY_step 306 = .ok (.return_, 1) := by decide +kernel
theorem dY_run_0 : decode cY_run 0 = .ok (.iload_n 1, 1) := by decide +kernel
theorem dY_run_1 : decode cY_run 1 = .ok (.iconst 1, 1) := by decide +kernel
theorem dY_run_2 : decode cY_run 2 = .ok (.if_icmp .lt 9, 3) := by decide +kernel
theorem dY_run_5 : decode cY_run 5 = .ok (.iload_n 1, 1) := by decide +kernel
theorem dY_run_6 : decode cY_run 6 = .ok (.bipush 31, 2) := by decide +kernel
theorem dY_run_8 : decode cY_run 8 = .ok (.if_icmp .le 5, 3) := by decide +kernel
theorem dY_run_11 : decode cY_run 11 = .ok (.iconst 0, 1) := by decide +kernel
theorem dY_run_12 : decode cY_run 12 = .ok (.ireturn, 1) := by decide +kernel
theorem dY_run_13 : decode cY_run 13 = .ok (.iconst 0, 1) := by decide +kernel
theorem dY_run_14 : decode cY_run 14 = .ok (.istore_n 2, 1) := by decide +kernel
theorem dY_run_15 : decode cY_run 15 = .ok (.iload_n 2, 1) := by decide +kernel
theorem dY_run_16 : decode cY_run 16 = .ok (.iload_n 1, 1) := by decide +kernel
theorem dY_run_17 : decode cY_run 17 = .ok (.if_icmp .ge 20, 3) := by decide +kernel
theorem dY_run_20 : decode cY_run 20 = .ok (.aload_n 0, 1) := by decide +kernel
theorem dY_run_21 : decode cY_run 21 = .ok (.getfield 106, 3) := by decide +kernel
theorem dY_run_24 : decode cY_run 24 = .ok (.ifCond .ne 13, 3) := by decide +kernel
theorem dY_run_27 : decode cY_run 27 = .ok (.aload_n 0, 1) := by decide +kernel
theorem dY_run_28 : decode cY_run 28 = .ok (.invokevirtual 245, 3) := by decide +kernel
theorem dY_run_31 : decode cY_run 31 = .ok (.iinc 2 1, 3) := by decide +kernel
theorem dY_run_34 : decode cY_run 34 = .ok (.goto (-19), 3) := by decide +kernel
theorem dY_run_37 : decode cY_run 37 = .ok (.iload_n 2, 1) := by decide +kernel
theorem dY_run_38 : decode cY_run 38 = .ok (.ireturn, 1) := by decide +kernel
theorem dY_isPlace_0 : decode cY_isPlace 0 = .ok (.iload_n 0, 1) := by decide +kernel
theorem dY_isPlace_1 : decode cY_isPlace 1 = .ok (.ifCond .lt 21, 3) := by decide +kernel
theorem dY_isPlace_4 : decode cY_isPlace 4 = .ok (.iload_n 0, 1) := by decide +kernel
theorem dY_isPlace_5 : decode cY_isPlace 5 = .ok (.sipush 4088, 3) := by decide +kernel
theorem dY_isPlace_8 : decode cY_isPlace 8 = .ok (.if_icmp .gt 14, 3) := by decide +kernel
theorem dY_isPlace_11 : decode cY_isPlace 11 = .ok (.iload_n 0, 1) := by decide +kernel
theorem dY_isPlace_12 : decode cY_isPlace 12 = .ok (.bipush 8, 2) := by decide +kernel
theorem dY_isPlace_14 : decode cY_isPlace 14 = .ok (.irem, 1) := by decide +kernel
theorem dY_isPlace_15 : decode cY_isPlace 15 = .ok (.ifCond .ne 7, 3) := by decide +kernel
theorem dY_isPlace_18 : decode cY_isPlace 18 = .ok (.iconst 1, 1) := by decide +kernel
theorem dY_isPlace_19 : decode cY_isPlace 19 = .ok (.goto 4, 3) := by decide +kernel
theorem dY_isPlace_22 : decode cY_isPlace 22 = .ok (.iconst 0, 1) := by decide +kernel
theorem dY_isPlace_23 : decode cY_isPlace 23 = .ok (.ireturn, 1) := by decide +kernel
theorem dY_set_0 : decode cY_set 0 = .ok (.iload_n 1, 1) := by decide +kernel
theorem dY_set_1 : decode cY_set 1 = .ok (.invokestatic 248, 3) := by decide +kernel
theorem dY_set_4 : decode cY_set 4 = .ok (.ifCond .ne 5, 3) := by decide +kernel
theorem dY_set_7 : decode cY_set 7 = .ok (.iconst 0, 1) := by decide +kernel
theorem dY_set_8 : decode cY_set 8 = .ok (.ireturn, 1) := by decide +kernel
theorem dY_set_9 : decode cY_set 9 = .ok (.aload_n 0, 1) := by decide +kernel
theorem dY_set_10 : decode cY_set 10 = .ok (.iload_n 1, 1) := by decide +kernel
theorem dY_set_11 : decode cY_set 11 = .ok (.bipush 8, 2) := by decide +kernel
theorem dY_set_13 : decode cY_set 13 = .ok (.lload_n 2, 1) := by decide +kernel
theorem dY_set_14 : decode cY_set 14 = .ok (.invokevirtual 102, 3) := by decide +kernel
theorem dY_set_17 : decode cY_set 17 = .ok (.iconst 1, 1) := by decide +kernel
theorem dY_set_18 : decode cY_set 18 = .ok (.ireturn, 1) := by decide +kernel
theorem dY_put_0 : decode cY_put 0 = .ok (.iload_n 1, 1) := by decide +kernel
theorem dY_put_1 : decode cY_put 1 = .ok (.ifCond .lt 9, 3) := by decide +kernel
theorem dY_put_4 : decode cY_put 4 = .ok (.iload_n 1, 1) := by decide +kernel
theorem dY_put_5 : decode cY_put 5 = .ok (.bipush 33, 2) := by decide +kernel
theorem dY_put_7 : decode cY_put 7 = .ok (.if_icmp .le 5, 3) := by decide +kernel
theorem dY_put_10 : decode cY_put 10 = .ok (.iconst 0, 1) := by decide +kernel
theorem dY_put_11 : decode cY_put 11 = .ok (.ireturn, 1) := by decide +kernel
theorem dY_put_12 : decode cY_put 12 = .ok (.iload_n 1, 1) := by decide +kernel
theorem dY_put_13 : decode cY_put 13 = .ok (.bipush 31, 2) := by decide +kernel
theorem dY_put_15 : decode cY_put 15 = .ok (.if_icmp .ge 10, 3) := by decide +kernel
theorem dY_put_18 : decode cY_put 18 = .ok (.aload_n 0, 1) := by decide +kernel
theorem dY_put_19 : decode cY_put 19 = .ok (.getfield 13, 3) := by decide +kernel
theorem dY_put_22 : decode cY_put 22 = .ok (.iload_n 1, 1) := by decide +kernel
theorem dY_put_23 : decode cY_put 23 = .ok (.lload_n 2, 1) := by decide +kernel
theorem dY_put_24 : decode cY_put 24 = .ok (.lastore, 1) := by decide +kernel
theorem dY_put_25 : decode cY_put 25 = .ok (.iload_n 1, 1) := by decide +kernel
theorem dY_put_26 : decode cY_put 26 = .ok (.bipush 32, 2) := by decide +kernel
theorem dY_put_28 : decode cY_put 28 = .ok (.if_icmp .ne 12, 3) := by decide +kernel
theorem dY_put_31 : decode cY_put 31 = .ok (.aload_n 0, 1) := by decide +kernel
theorem dY_put_32 : decode cY_put 32 = .ok (.lload_n 2, 1) := by decide +kernel
theorem dY_put_33 : decode cY_put 33 = .ok (.ldc2_w 214, 3) := by decide +kernel
theorem dY_put_36 : decode cY_put 36 = .ok (.land, 1) := by decide +kernel
theorem dY_put_37 : decode cY_put 37 = .ok (.putfield 116, 3) := by decide +kernel
theorem dY_put_40 : decode cY_put 40 = .ok (.iload_n 1, 1) := by decide +kernel
theorem dY_put_41 : decode cY_put 41 = .ok (.bipush 33, 2) := by decide +kernel
theorem dY_put_43 : decode cY_put 43 = .ok (.if_icmp .ne 8, 3) := by decide +kernel
theorem dY_put_46 : decode cY_put 46 = .ok (.aload_n 0, 1) := by decide +kernel
theorem dY_put_47 : decode cY_put 47 = .ok (.lload_n 2, 1) := by decide +kernel
theorem dY_put_48 : decode cY_put 48 = .ok (.putfield 91, 3) := by decide +kernel
theorem dY_put_51 : decode cY_put 51 = .ok (.iconst 1, 1) := by decide +kernel
theorem dY_put_52 : decode cY_put 52 = .ok (.ireturn, 1) := by decide +kernel
theorem dY_interrupt_0 : decode cY_interrupt 0 = .ok (.iload_n 1, 1) := by decide +kernel
theorem dY_interrupt_1 : decode cY_interrupt 1 = .ok (.iconst 1, 1) := by decide +kernel
theorem dY_interrupt_2 : decode cY_interrupt 2 = .ok (.if_icmp .lt 28, 3) := by decide +kernel
theorem dY_interrupt_5 : decode cY_interrupt 5 = .ok (.iload_n 1, 1) := by decide +kernel
theorem dY_interrupt_6 : decode cY_interrupt 6 = .ok (.bipush 7, 2) := by decide +kernel
theorem dY_interrupt_8 : decode cY_interrupt 8 = .ok (.if_icmp .gt 22, 3) := by decide +kernel
theorem dY_interrupt_11 : decode cY_interrupt 11 = .ok (.iload_n 2, 1) := by decide +kernel
theorem dY_interrupt_12 : decode cY_interrupt 12 = .ok (.ifCond .lt 18, 3) := by decide +kernel
theorem dY_interrupt_15 : decode cY_interrupt 15 = .ok (.iload_n 2, 1) := by decide +kernel
theorem dY_interrupt_16 : decode cY_interrupt 16 = .ok (.sipush 255, 3) := by decide +kernel
theorem dY_interrupt_19 : decode cY_interrupt 19 = .ok (.if_icmp .gt 11, 3) := by decide +kernel
theorem dY_interrupt_22 : decode cY_interrupt 22 = .ok (.aload_n 0, 1) := by decide +kernel
theorem dY_interrupt_23 : decode cY_interrupt 23 = .ok (.getfield 221, 3) := by decide +kernel
theorem dY_interrupt_26 : decode cY_interrupt 26 = .ok (.iconst 4, 1) := by decide +kernel
theorem dY_interrupt_27 : decode cY_interrupt 27 = .ok (.if_icmp .ne 5, 3) := by decide +kernel
theorem dY_interrupt_30 : decode cY_interrupt 30 = .ok (.iconst 0, 1) := by decide +kernel
theorem dY_interrupt_31 : decode cY_interrupt 31 = .ok (.ireturn, 1) := by decide +kernel
theorem dY_interrupt_32 : decode cY_interrupt 32 = .ok (.aload_n 0, 1) := by decide +kernel
theorem dY_interrupt_33 : decode cY_interrupt 33 = .ok (.getfield 24, 3) := by decide +kernel
theorem dY_interrupt_36 : decode cY_interrupt 36 = .ok (.aload_n 0, 1) := by decide +kernel
theorem dY_interrupt_37 : decode cY_interrupt 37 = .ok (.getfield 221, 3) := by decide +kernel
theorem dY_interrupt_40 : decode cY_interrupt 40 = .ok (.iload_n 1, 1) := by decide +kernel
theorem dY_interrupt_41 : decode cY_interrupt 41 = .ok (.iastore, 1) := by decide +kernel
theorem dY_interrupt_42 : decode cY_interrupt 42 = .ok (.aload_n 0, 1) := by decide +kernel
theorem dY_interrupt_43 : decode cY_interrupt 43 = .ok (.getfield 27, 3) := by decide +kernel
theorem dY_interrupt_46 : decode cY_interrupt 46 = .ok (.aload_n 0, 1) := by decide +kernel
theorem dY_interrupt_47 : decode cY_interrupt 47 = .ok (.getfield 221, 3) := by decide +kernel
theorem dY_interrupt_50 : decode cY_interrupt 50 = .ok (.iload_n 2, 1) := by decide +kernel
theorem dY_interrupt_51 : decode cY_interrupt 51 = .ok (.iastore, 1) := by decide +kernel
theorem dY_interrupt_52 : decode cY_interrupt 52 = .ok (.aload_n 0, 1) := by decide +kernel
theorem dY_interrupt_53 : decode cY_interrupt 53 = .ok (.dup, 1) := by decide +kernel
theorem dY_interrupt_54 : decode cY_interrupt 54 = .ok (.getfield 221, 3) := by decide +kernel
theorem dY_interrupt_57 : decode cY_interrupt 57 = .ok (.iconst 1, 1) := by decide +kernel
theorem dY_interrupt_58 : decode cY_interrupt 58 = .ok (.iadd, 1) := by decide +kernel
theorem dY_interrupt_59 : decode cY_interrupt 59 = .ok (.putfield 221, 3) := by decide +kernel
theorem dY_interrupt_62 : decode cY_interrupt 62 = .ok (.iconst 1, 1) := by decide +kernel
theorem dY_interrupt_63 : decode cY_interrupt 63 = .ok (.ireturn, 1) := by decide +kernel
theorem dY_register_0 : decode cY_register 0 = .ok (.iload_n 1, 1) := by decide +kernel
theorem dY_register_1 : decode cY_register 1 = .ok (.ifCond .lt 16, 3) := by decide +kernel
theorem dY_register_4 : decode cY_register 4 = .ok (.iload_n 1, 1) := by decide +kernel
theorem dY_register_5 : decode cY_register 5 = .ok (.bipush 32, 2) := by decide +kernel
theorem dY_register_7 : decode cY_register 7 = .ok (.if_icmp .ge 10, 3) := by decide +kernel
theorem dY_register_10 : decode cY_register 10 = .ok (.aload_n 0, 1) := by decide +kernel
theorem dY_register_11 : decode cY_register 11 = .ok (.getfield 13, 3) := by decide +kernel
theorem dY_register_14 : decode cY_register 14 = .ok (.iload_n 1, 1) := by decide +kernel
theorem dY_register_15 : decode cY_register 15 = .ok (.laload, 1) := by decide +kernel
theorem dY_register_16 : decode cY_register 16 = .ok (.lreturn, 1) := by decide +kernel
theorem dY_register_17 : decode cY_register 17 = .ok (.iload_n 1, 1) := by decide +kernel
theorem dY_register_18 : decode cY_register 18 = .ok (.bipush 40, 2) := by decide +kernel
theorem dY_register_20 : decode cY_register 20 = .ok (.if_icmp .lt 19, 3) := by decide +kernel
theorem dY_register_23 : decode cY_register 23 = .ok (.iload_n 1, 1) := by decide +kernel
theorem dY_register_24 : decode cY_register 24 = .ok (.bipush 46, 2) := by decide +kernel
theorem dY_register_26 : decode cY_register 26 = .ok (.if_icmp .ge 13, 3) := by decide +kernel
theorem dY_register_29 : decode cY_register 29 = .ok (.aload_n 0, 1) := by decide +kernel
theorem dY_register_30 : decode cY_register 30 = .ok (.getfield 21, 3) := by decide +kernel
theorem dY_register_33 : decode cY_register 33 = .ok (.iload_n 1, 1) := by decide +kernel
theorem dY_register_34 : decode cY_register 34 = .ok (.bipush 40, 2) := by decide +kernel
theorem dY_register_36 : decode cY_register 36 = .ok (.isub, 1) := by decide +kernel
theorem dY_register_37 : decode cY_register 37 = .ok (.laload, 1) := by decide +kernel
theorem dY_register_38 : decode cY_register 38 = .ok (.lreturn, 1) := by decide +kernel
theorem dY_register_39 : decode cY_register 39 = .ok (.iload_n 1, 1) := by decide +kernel
theorem dY_register_40 : decode cY_register 40 = .ok (.tableswitch 81 32 38 #[44, 49, 54, 59, 64, 69, 75], 44) := by decide +kernel
theorem dY_register_84 : decode cY_register 84 = .ok (.aload_n 0, 1) := by decide +kernel
theorem dY_register_85 : decode cY_register 85 = .ok (.getfield 116, 3) := by decide +kernel
theorem dY_register_88 : decode cY_register 88 = .ok (.lreturn, 1) := by decide +kernel
theorem dY_register_89 : decode cY_register 89 = .ok (.aload_n 0, 1) := by decide +kernel
theorem dY_register_90 : decode cY_register 90 = .ok (.getfield 91, 3) := by decide +kernel
theorem dY_register_93 : decode cY_register 93 = .ok (.lreturn, 1) := by decide +kernel
theorem dY_register_94 : decode cY_register 94 = .ok (.aload_n 0, 1) := by decide +kernel
theorem dY_register_95 : decode cY_register 95 = .ok (.getfield 87, 3) := by decide +kernel
theorem dY_register_98 : decode cY_register 98 = .ok (.lreturn, 1) := by decide +kernel
theorem dY_register_99 : decode cY_register 99 = .ok (.aload_n 0, 1) := by decide +kernel
theorem dY_register_100 : decode cY_register 100 = .ok (.getfield 109, 3) := by decide +kernel
theorem dY_register_103 : decode cY_register 103 = .ok (.lreturn, 1) := by decide +kernel
theorem dY_register_104 : decode cY_register 104 = .ok (.aload_n 0, 1) := by decide +kernel
theorem dY_register_105 : decode cY_register 105 = .ok (.getfield 216, 3) := by decide +kernel
theorem dY_register_108 : decode cY_register 108 = .ok (.lreturn, 1) := by decide +kernel
theorem dY_register_109 : decode cY_register 109 = .ok (.aload_n 0, 1) := by decide +kernel
theorem dY_register_110 : decode cY_register 110 = .ok (.getfield 52, 3) := by decide +kernel
theorem dY_register_113 : decode cY_register 113 = .ok (.i2l, 1) := by decide +kernel
theorem dY_register_114 : decode cY_register 114 = .ok (.lreturn, 1) := by decide +kernel
theorem dY_register_115 : decode cY_register 115 = .ok (.aload_n 0, 1) := by decide +kernel
theorem dY_register_116 : decode cY_register 116 = .ok (.getfield 47, 3) := by decide +kernel
theorem dY_register_119 : decode cY_register 119 = .ok (.i2l, 1) := by decide +kernel
theorem dY_register_120 : decode cY_register 120 = .ok (.lreturn, 1) := by decide +kernel
theorem dY_register_121 : decode cY_register 121 = .ok (.ldc2_w 149, 3) := by decide +kernel
theorem dY_register_124 : decode cY_register 124 = .ok (.lreturn, 1) := by decide +kernel
theorem dY_word_0 : decode cY_word 0 = .ok (.iload_n 1, 1) := by decide +kernel
theorem dY_word_1 : decode cY_word 1 = .ok (.invokestatic 248, 3) := by decide +kernel
theorem dY_word_4 : decode cY_word 4 = .ok (.ifCond .eq 13, 3) := by decide +kernel
theorem dY_word_7 : decode cY_word 7 = .ok (.aload_n 0, 1) := by decide +kernel
theorem dY_word_8 : decode cY_word 8 = .ok (.iload_n 1, 1) := by decide +kernel
theorem dY_word_9 : decode cY_word 9 = .ok (.bipush 8, 2) := by decide +kernel
theorem dY_word_11 : decode cY_word 11 = .ok (.invokevirtual 55, 3) := by decide +kernel
theorem dY_word_14 : decode cY_word 14 = .ok (.goto 6, 3) := by decide +kernel
theorem dY_word_17 : decode cY_word 17 = .ok (.ldc2_w 149, 3) := by decide +kernel
theorem dY_word_20 : decode cY_word 20 = .ok (.lreturn, 1) := by decide +kernel
theorem dY_state_0 : decode cY_state 0 = .ok (.iload_n 1, 1) := by decide +kernel
theorem dY_state_1 : decode cY_state 1 = .ok (.tableswitch 85 0 5 #[39, 52, 65, 70, 75, 80], 39) := by decide +kernel
theorem dY_state_40 : decode cY_state 40 = .ok (.bipush 8, 2) := by decide +kernel
theorem dY_state_42 : decode cY_state 42 = .ok (.aload_n 0, 1) := by decide +kernel
theorem dY_state_43 : decode cY_state 43 = .ok (.getfield 76, 3) := by decide +kernel
theorem dY_state_46 : decode cY_state 46 = .ok (.imul, 1) := by decide +kernel
theorem dY_state_47 : decode cY_state 47 = .ok (.aload_n 0, 1) := by decide +kernel
theorem dY_state_48 : decode cY_state 48 = .ok (.getfield 17, 3) := by decide +kernel
theorem dY_state_51 : decode cY_state 51 = .ok (.iadd, 1) := by decide +kernel
theorem dY_state_52 : decode cY_state 52 = .ok (.ireturn, 1) := by decide +kernel
theorem dY_state_53 : decode cY_state 53 = .ok (.aload_n 0, 1) := by decide +kernel
theorem dY_state_54 : decode cY_state 54 = .ok (.getfield 112, 3) := by decide +kernel
theorem dY_state_57 : decode cY_state 57 = .ok (.ifCond .eq 7, 3) := by decide +kernel
theorem dY_state_60 : decode cY_state 60 = .ok (.iconst 1, 1) := by decide +kernel
theorem dY_state_61 : decode cY_state 61 = .ok (.goto 4, 3) := by decide +kernel
theorem dY_state_64 : decode cY_state 64 = .ok (.iconst 0, 1) := by decide +kernel
theorem dY_state_65 : decode cY_state 65 = .ok (.ireturn, 1) := by decide +kernel
theorem dY_state_66 : decode cY_state 66 = .ok (.aload_n 0, 1) := by decide +kernel
theorem dY_state_67 : decode cY_state 67 = .ok (.getfield 106, 3) := by decide +kernel
theorem dY_state_70 : decode cY_state 70 = .ok (.ireturn, 1) := by decide +kernel
theorem dY_state_71 : decode cY_state 71 = .ok (.aload_n 0, 1) := by decide +kernel
theorem dY_state_72 : decode cY_state 72 = .ok (.getfield 44, 3) := by decide +kernel
theorem dY_state_75 : decode cY_state 75 = .ok (.ireturn, 1) := by decide +kernel
theorem dY_state_76 : decode cY_state 76 = .ok (.aload_n 0, 1) := by decide +kernel
theorem dY_state_77 : decode cY_state 77 = .ok (.getfield 221, 3) := by decide +kernel
theorem dY_state_80 : decode cY_state 80 = .ok (.ireturn, 1) := by decide +kernel
theorem dY_state_81 : decode cY_state 81 = .ok (.aload_n 0, 1) := by decide +kernel
theorem dY_state_82 : decode cY_state 82 = .ok (.getfield 119, 3) := by decide +kernel
theorem dY_state_85 : decode cY_state 85 = .ok (.ireturn, 1) := by decide +kernel
theorem dY_state_86 : decode cY_state 86 = .ok (.iconst (-1), 1) := by decide +kernel
theorem dY_state_87 : decode cY_state 87 = .ok (.ireturn, 1) := by decide +kernel
theorem dY_init_0 : decode cY_init 0 = .ok (.aload_n 0, 1) := by decide +kernel
theorem dY_init_1 : decode cY_init 1 = .ok (.invokespecial 1, 3) := by decide +kernel
theorem dY_init_4 : decode cY_init 4 = .ok (.aload_n 0, 1) := by decide +kernel
theorem dY_init_5 : decode cY_init 5 = .ok (.sipush 4096, 3) := by decide +kernel
theorem dY_init_8 : decode cY_init 8 = .ok (.newarray .int, 2) := by decide +kernel
theorem dY_init_10 : decode cY_init 10 = .ok (.putfield 7, 3) := by decide +kernel
theorem dY_init_13 : decode cY_init 13 = .ok (.aload_n 0, 1) := by decide +kernel
theorem dY_init_14 : decode cY_init 14 = .ok (.bipush 32, 2) := by decide +kernel
theorem dY_init_16 : decode cY_init 16 = .ok (.newarray .long, 2) := by decide +kernel
theorem dY_init_18 : decode cY_init 18 = .ok (.putfield 13, 3) := by decide +kernel
theorem dY_init_21 : decode cY_init 21 = .ok (.aload_n 0, 1) := by decide +kernel
theorem dY_init_22 : decode cY_init 22 = .ok (.bipush 7, 2) := by decide +kernel
theorem dY_init_24 : decode cY_init 24 = .ok (.putfield 17, 3) := by decide +kernel
theorem dY_init_27 : decode cY_init 27 = .ok (.aload_n 0, 1) := by decide +kernel
theorem dY_init_28 : decode cY_init 28 = .ok (.bipush 6, 2) := by decide +kernel
theorem dY_init_30 : decode cY_init 30 = .ok (.newarray .long, 2) := by decide +kernel
theorem dY_init_32 : decode cY_init 32 = .ok (.putfield 21, 3) := by decide +kernel
theorem dY_init_35 : decode cY_init 35 = .ok (.aload_n 0, 1) := by decide +kernel
theorem dY_init_36 : decode cY_init 36 = .ok (.iconst 4, 1) := by decide +kernel
theorem dY_init_37 : decode cY_init 37 = .ok (.newarray .int, 2) := by decide +kernel
theorem dY_init_39 : decode cY_init 39 = .ok (.putfield 24, 3) := by decide +kernel
theorem dY_init_42 : decode cY_init 42 = .ok (.aload_n 0, 1) := by decide +kernel
theorem dY_init_43 : decode cY_init 43 = .ok (.iconst 4, 1) := by decide +kernel
theorem dY_init_44 : decode cY_init 44 = .ok (.newarray .int, 2) := by decide +kernel
theorem dY_init_46 : decode cY_init 46 = .ok (.putfield 27, 3) := by decide +kernel
theorem dY_init_49 : decode cY_init 49 = .ok (.aload_n 0, 1) := by decide +kernel
theorem dY_init_50 : decode cY_init 50 = .ok (.iconst 4, 1) := by decide +kernel
theorem dY_init_51 : decode cY_init 51 = .ok (.newarray .int, 2) := by decide +kernel
theorem dY_init_53 : decode cY_init 53 = .ok (.putfield 30, 3) := by decide +kernel
theorem dY_init_56 : decode cY_init 56 = .ok (.aload_n 0, 1) := by decide +kernel
theorem dY_init_57 : decode cY_init 57 = .ok (.iconst 4, 1) := by decide +kernel
theorem dY_init_58 : decode cY_init 58 = .ok (.newarray .int, 2) := by decide +kernel
theorem dY_init_60 : decode cY_init 60 = .ok (.putfield 33, 3) := by decide +kernel
theorem dY_init_63 : decode cY_init 63 = .ok (.aload_n 0, 1) := by decide +kernel
theorem dY_init_64 : decode cY_init 64 = .ok (.iconst 4, 1) := by decide +kernel
theorem dY_init_65 : decode cY_init 65 = .ok (.newarray .long, 2) := by decide +kernel
theorem dY_init_67 : decode cY_init 67 = .ok (.putfield 36, 3) := by decide +kernel
theorem dY_init_70 : decode cY_init 70 = .ok (.aload_n 0, 1) := by decide +kernel
theorem dY_init_71 : decode cY_init 71 = .ok (.bipush 6, 2) := by decide +kernel
theorem dY_init_73 : decode cY_init 73 = .ok (.newarray .long, 2) := by decide +kernel
theorem dY_init_75 : decode cY_init 75 = .ok (.putfield 39, 3) := by decide +kernel
theorem dY_init_78 : decode cY_init 78 = .ok (.return_, 1) := by decide +kernel
