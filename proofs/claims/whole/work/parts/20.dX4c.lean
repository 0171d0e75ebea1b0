theorem dX4_fillFrame_0 : decode cX4_fillFrame 0 = .ok (.aload_n 0, 1) := by decide +kernel
theorem dX4_fillFrame_1 : decode cX4_fillFrame 1 = .ok (.getfield 23, 3) := by decide +kernel
theorem dX4_fillFrame_4 : decode cX4_fillFrame 4 = .ok (.iconst 0, 1) := by decide +kernel
theorem dX4_fillFrame_5 : decode cX4_fillFrame 5 = .ok (.aload_n 0, 1) := by decide +kernel
theorem dX4_fillFrame_6 : decode cX4_fillFrame 6 = .ok (.invokevirtual 101, 3) := by decide +kernel
theorem dX4_fillFrame_9 : decode cX4_fillFrame 9 = .ok (.i2l, 1) := by decide +kernel
theorem dX4_fillFrame_10 : decode cX4_fillFrame 10 = .ok (.lastore, 1) := by decide +kernel
theorem dX4_fillFrame_11 : decode cX4_fillFrame 11 = .ok (.aload_n 0, 1) := by decide +kernel
theorem dX4_fillFrame_12 : decode cX4_fillFrame 12 = .ok (.getfield 23, 3) := by decide +kernel
theorem dX4_fillFrame_15 : decode cX4_fillFrame 15 = .ok (.iconst 1, 1) := by decide +kernel
theorem dX4_fillFrame_16 : decode cX4_fillFrame 16 = .ok (.aload_n 0, 1) := by decide +kernel
theorem dX4_fillFrame_17 : decode cX4_fillFrame 17 = .ok (.getfield 43, 3) := by decide +kernel
theorem dX4_fillFrame_20 : decode cX4_fillFrame 20 = .ok (.getfield 214, 3) := by decide +kernel
theorem dX4_fillFrame_23 : decode cX4_fillFrame 23 = .ok (.lastore, 1) := by decide +kernel
theorem dX4_fillFrame_24 : decode cX4_fillFrame 24 = .ok (.aload_n 0, 1) := by decide +kernel
theorem dX4_fillFrame_25 : decode cX4_fillFrame 25 = .ok (.getfield 23, 3) := by decide +kernel
theorem dX4_fillFrame_28 : decode cX4_fillFrame 28 = .ok (.iconst 2, 1) := by decide +kernel
theorem dX4_fillFrame_29 : decode cX4_fillFrame 29 = .ok (.aload_n 0, 1) := by decide +kernel
theorem dX4_fillFrame_30 : decode cX4_fillFrame 30 = .ok (.getfield 16, 3) := by decide +kernel
theorem dX4_fillFrame_33 : decode cX4_fillFrame 33 = .ok (.bipush 29, 2) := by decide +kernel
theorem dX4_fillFrame_35 : decode cX4_fillFrame 35 = .ok (.laload, 1) := by decide +kernel
theorem dX4_fillFrame_36 : decode cX4_fillFrame 36 = .ok (.lastore, 1) := by decide +kernel
theorem dX4_fillFrame_37 : decode cX4_fillFrame 37 = .ok (.aload_n 0, 1) := by decide +kernel
theorem dX4_fillFrame_38 : decode cX4_fillFrame 38 = .ok (.getfield 23, 3) := by decide +kernel
theorem dX4_fillFrame_41 : decode cX4_fillFrame 41 = .ok (.iconst 3, 1) := by decide +kernel
theorem dX4_fillFrame_42 : decode cX4_fillFrame 42 = .ok (.aload_n 0, 1) := by decide +kernel
theorem dX4_fillFrame_43 : decode cX4_fillFrame 43 = .ok (.getfield 16, 3) := by decide +kernel
theorem dX4_fillFrame_46 : decode cX4_fillFrame 46 = .ok (.bipush 16, 2) := by decide +kernel
theorem dX4_fillFrame_48 : decode cX4_fillFrame 48 = .ok (.laload, 1) := by decide +kernel
theorem dX4_fillFrame_49 : decode cX4_fillFrame 49 = .ok (.lastore, 1) := by decide +kernel
theorem dX4_fillFrame_50 : decode cX4_fillFrame 50 = .ok (.aload_n 0, 1) := by decide +kernel
theorem dX4_fillFrame_51 : decode cX4_fillFrame 51 = .ok (.getfield 23, 3) := by decide +kernel
theorem dX4_fillFrame_54 : decode cX4_fillFrame 54 = .ok (.iconst 4, 1) := by decide +kernel
theorem dX4_fillFrame_55 : decode cX4_fillFrame 55 = .ok (.aload_n 0, 1) := by decide +kernel
theorem dX4_fillFrame_56 : decode cX4_fillFrame 56 = .ok (.getfield 16, 3) := by decide +kernel
theorem dX4_fillFrame_59 : decode cX4_fillFrame 59 = .ok (.bipush 17, 2) := by decide +kernel
theorem dX4_fillFrame_61 : decode cX4_fillFrame 61 = .ok (.laload, 1) := by decide +kernel
theorem dX4_fillFrame_62 : decode cX4_fillFrame 62 = .ok (.lastore, 1) := by decide +kernel
theorem dX4_fillFrame_63 : decode cX4_fillFrame 63 = .ok (.aload_n 0, 1) := by decide +kernel
theorem dX4_fillFrame_64 : decode cX4_fillFrame 64 = .ok (.getfield 23, 3) := by decide +kernel
theorem dX4_fillFrame_67 : decode cX4_fillFrame 67 = .ok (.iconst 5, 1) := by decide +kernel
theorem dX4_fillFrame_68 : decode cX4_fillFrame 68 = .ok (.aload_n 0, 1) := by decide +kernel
theorem dX4_fillFrame_69 : decode cX4_fillFrame 69 = .ok (.getfield 16, 3) := by decide +kernel
theorem dX4_fillFrame_72 : decode cX4_fillFrame 72 = .ok (.bipush 18, 2) := by decide +kernel
theorem dX4_fillFrame_74 : decode cX4_fillFrame 74 = .ok (.laload, 1) := by decide +kernel
theorem dX4_fillFrame_75 : decode cX4_fillFrame 75 = .ok (.lastore, 1) := by decide +kernel
theorem dX4_fillFrame_76 : decode cX4_fillFrame 76 = .ok (.return_, 1) := by decide +kernel
theorem dX4_moveFrame_0 : decode cX4_moveFrame 0 = .ok (.lload_n 1, 1) := by decide +kernel
theorem dX4_moveFrame_1 : decode cX4_moveFrame 1 = .ok (.ldc2_w 215, 3) := by decide +kernel
theorem dX4_moveFrame_4 : decode cX4_moveFrame 4 = .ok (.land, 1) := by decide +kernel
theorem dX4_moveFrame_5 : decode cX4_moveFrame 5 = .ok (.lconst 0, 1) := by decide +kernel
theorem dX4_moveFrame_6 : decode cX4_moveFrame 6 = .ok (.lcmp, 1) := by decide +kernel
theorem dX4_moveFrame_7 : decode cX4_moveFrame 7 = .ok (.ifCond .eq 5, 3) := by decide +kernel
theorem dX4_moveFrame_10 : decode cX4_moveFrame 10 = .ok (.iconst 0, 1) := by decide +kernel
theorem dX4_moveFrame_11 : decode cX4_moveFrame 11 = .ok (.ireturn, 1) := by decide +kernel
theorem dX4_moveFrame_12 : decode cX4_moveFrame 12 = .ok (.iconst 0, 1) := by decide +kernel
theorem dX4_moveFrame_13 : decode cX4_moveFrame 13 = .ok (.istore 4, 2) := by decide +kernel
theorem dX4_moveFrame_15 : decode cX4_moveFrame 15 = .ok (.iload 4, 2) := by decide +kernel
theorem dX4_moveFrame_17 : decode cX4_moveFrame 17 = .ok (.bipush 6, 2) := by decide +kernel
theorem dX4_moveFrame_19 : decode cX4_moveFrame 19 = .ok (.if_icmp .ge 80, 3) := by decide +kernel
theorem dX4_moveFrame_22 : decode cX4_moveFrame 22 = .ok (.aload_n 0, 1) := by decide +kernel
theorem dX4_moveFrame_23 : decode cX4_moveFrame 23 = .ok (.getfield 10, 3) := by decide +kernel
theorem dX4_moveFrame_26 : decode cX4_moveFrame 26 = .ok (.lload_n 1, 1) := by decide +kernel
theorem dX4_moveFrame_27 : decode cX4_moveFrame 27 = .ok (.bipush 8, 2) := by decide +kernel
theorem dX4_moveFrame_29 : decode cX4_moveFrame 29 = .ok (.iload 4, 2) := by decide +kernel
theorem dX4_moveFrame_31 : decode cX4_moveFrame 31 = .ok (.imul, 1) := by decide +kernel
theorem dX4_moveFrame_32 : decode cX4_moveFrame 32 = .ok (.i2l, 1) := by decide +kernel
theorem dX4_moveFrame_33 : decode cX4_moveFrame 33 = .ok (.ladd, 1) := by decide +kernel
theorem dX4_moveFrame_34 : decode cX4_moveFrame 34 = .ok (.iload_n 3, 1) := by decide +kernel
theorem dX4_moveFrame_35 : decode cX4_moveFrame 35 = .ok (.aload_n 0, 1) := by decide +kernel
theorem dX4_moveFrame_36 : decode cX4_moveFrame 36 = .ok (.getfield 47, 3) := by decide +kernel
theorem dX4_moveFrame_39 : decode cX4_moveFrame 39 = .ok (.invokevirtual 123, 3) := by decide +kernel
theorem dX4_moveFrame_42 : decode cX4_moveFrame 42 = .ok (.istore 5, 2) := by decide +kernel
theorem dX4_moveFrame_44 : decode cX4_moveFrame 44 = .ok (.iload 5, 2) := by decide +kernel
theorem dX4_moveFrame_46 : decode cX4_moveFrame 46 = .ok (.ifCond .ge 5, 3) := by decide +kernel
theorem dX4_moveFrame_49 : decode cX4_moveFrame 49 = .ok (.iconst 0, 1) := by decide +kernel
theorem dX4_moveFrame_50 : decode cX4_moveFrame 50 = .ok (.ireturn, 1) := by decide +kernel
theorem dX4_moveFrame_51 : decode cX4_moveFrame 51 = .ok (.iload_n 3, 1) := by decide +kernel
theorem dX4_moveFrame_52 : decode cX4_moveFrame 52 = .ok (.iconst 1, 1) := by decide +kernel
theorem dX4_moveFrame_53 : decode cX4_moveFrame 53 = .ok (.if_icmp .ne 23, 3) := by decide +kernel
theorem dX4_moveFrame_56 : decode cX4_moveFrame 56 = .ok (.aload_n 0, 1) := by decide +kernel
theorem dX4_moveFrame_57 : decode cX4_moveFrame 57 = .ok (.getfield 10, 3) := by decide +kernel
theorem dX4_moveFrame_60 : decode cX4_moveFrame 60 = .ok (.iload 5, 2) := by decide +kernel
theorem dX4_moveFrame_62 : decode cX4_moveFrame 62 = .ok (.iconst 1, 1) := by decide +kernel
theorem dX4_moveFrame_63 : decode cX4_moveFrame 63 = .ok (.aload_n 0, 1) := by decide +kernel
theorem dX4_moveFrame_64 : decode cX4_moveFrame 64 = .ok (.getfield 23, 3) := by decide +kernel
theorem dX4_moveFrame_67 : decode cX4_moveFrame 67 = .ok (.iload 4, 2) := by decide +kernel
theorem dX4_moveFrame_69 : decode cX4_moveFrame 69 = .ok (.laload, 1) := by decide +kernel
theorem dX4_moveFrame_70 : decode cX4_moveFrame 70 = .ok (.invokevirtual 192, 3) := by decide +kernel
theorem dX4_moveFrame_73 : decode cX4_moveFrame 73 = .ok (.goto 20, 3) := by decide +kernel
theorem dX4_moveFrame_76 : decode cX4_moveFrame 76 = .ok (.aload_n 0, 1) := by decide +kernel
theorem dX4_moveFrame_77 : decode cX4_moveFrame 77 = .ok (.getfield 23, 3) := by decide +kernel
theorem dX4_moveFrame_80 : decode cX4_moveFrame 80 = .ok (.iload 4, 2) := by decide +kernel
theorem dX4_moveFrame_82 : decode cX4_moveFrame 82 = .ok (.aload_n 0, 1) := by decide +kernel
theorem dX4_moveFrame_83 : decode cX4_moveFrame 83 = .ok (.getfield 10, 3) := by decide +kernel
theorem dX4_moveFrame_86 : decode cX4_moveFrame 86 = .ok (.iload 5, 2) := by decide +kernel
theorem dX4_moveFrame_88 : decode cX4_moveFrame 88 = .ok (.iconst 1, 1) := by decide +kernel
theorem dX4_moveFrame_89 : decode cX4_moveFrame 89 = .ok (.invokevirtual 136, 3) := by decide +kernel
theorem dX4_moveFrame_92 : decode cX4_moveFrame 92 = .ok (.lastore, 1) := by decide +kernel
theorem dX4_moveFrame_93 : decode cX4_moveFrame 93 = .ok (.iinc 4 1, 3) := by decide +kernel
theorem dX4_moveFrame_96 : decode cX4_moveFrame 96 = .ok (.goto (-81), 3) := by decide +kernel
theorem dX4_moveFrame_99 : decode cX4_moveFrame 99 = .ok (.iconst 1, 1) := by decide +kernel
theorem dX4_moveFrame_100 : decode cX4_moveFrame 100 = .ok (.ireturn, 1) := by decide +kernel
theorem dX4_enter_0 : decode cX4_enter 0 = .ok (.aload_n 0, 1) := by decide +kernel
theorem dX4_enter_1 : decode cX4_enter 1 = .ok (.invokevirtual 196, 3) := by decide +kernel
theorem dX4_enter_4 : decode cX4_enter 4 = .ok (.aload_n 0, 1) := by decide +kernel
theorem dX4_enter_5 : decode cX4_enter 5 = .ok (.getfield 47, 3) := by decide +kernel
theorem dX4_enter_8 : decode cX4_enter 8 = .ok (.iconst 1, 1) := by decide +kernel
theorem dX4_enter_9 : decode cX4_enter 9 = .ok (.if_icmp .ne 25, 3) := by decide +kernel
theorem dX4_enter_12 : decode cX4_enter 12 = .ok (.aload_n 0, 1) := by decide +kernel
theorem dX4_enter_13 : decode cX4_enter 13 = .ok (.aload_n 0, 1) := by decide +kernel
theorem dX4_enter_14 : decode cX4_enter 14 = .ok (.getfield 16, 3) := by decide +kernel
theorem dX4_enter_17 : decode cX4_enter 17 = .ok (.bipush 30, 2) := by decide +kernel
theorem dX4_enter_19 : decode cX4_enter 19 = .ok (.laload, 1) := by decide +kernel
theorem dX4_enter_20 : decode cX4_enter 20 = .ok (.putfield 84, 3) := by decide +kernel
theorem dX4_enter_23 : decode cX4_enter 23 = .ok (.aload_n 0, 1) := by decide +kernel
theorem dX4_enter_24 : decode cX4_enter 24 = .ok (.getfield 16, 3) := by decide +kernel
theorem dX4_enter_27 : decode cX4_enter 27 = .ok (.bipush 30, 2) := by decide +kernel
theorem dX4_enter_29 : decode cX4_enter 29 = .ok (.aload_n 0, 1) := by decide +kernel
theorem dX4_enter_30 : decode cX4_enter 30 = .ok (.getfield 67, 3) := by decide +kernel
theorem dX4_enter_33 : decode cX4_enter 33 = .ok (.lastore, 1) := by decide +kernel
theorem dX4_enter_34 : decode cX4_enter 34 = .ok (.aload_n 0, 1) := by decide +kernel
theorem dX4_enter_35 : decode cX4_enter 35 = .ok (.iconst 0, 1) := by decide +kernel
theorem dX4_enter_36 : decode cX4_enter 36 = .ok (.putfield 47, 3) := by decide +kernel
theorem dX4_enter_39 : decode cX4_enter 39 = .ok (.aload_n 0, 1) := by decide +kernel
theorem dX4_enter_40 : decode cX4_enter 40 = .ok (.aload_n 0, 1) := by decide +kernel
theorem dX4_enter_41 : decode cX4_enter 41 = .ok (.getfield 16, 3) := by decide +kernel
theorem dX4_enter_44 : decode cX4_enter 44 = .ok (.bipush 30, 2) := by decide +kernel
theorem dX4_enter_46 : decode cX4_enter 46 = .ok (.laload, 1) := by decide +kernel
theorem dX4_enter_47 : decode cX4_enter 47 = .ok (.ldc2_w 199, 3) := by decide +kernel
theorem dX4_enter_50 : decode cX4_enter 50 = .ok (.lsub, 1) := by decide +kernel
theorem dX4_enter_51 : decode cX4_enter 51 = .ok (.iconst 1, 1) := by decide +kernel
theorem dX4_enter_52 : decode cX4_enter 52 = .ok (.invokevirtual 201, 3) := by decide +kernel
theorem dX4_enter_55 : decode cX4_enter 55 = .ok (.ifCond .ne 9, 3) := by decide +kernel
theorem dX4_enter_58 : decode cX4_enter 58 = .ok (.aload_n 0, 1) := by decide +kernel
theorem dX4_enter_59 : decode cX4_enter 59 = .ok (.iconst 2, 1) := by decide +kernel
theorem dX4_enter_60 : decode cX4_enter 60 = .ok (.putfield 78, 3) := by decide +kernel
theorem dX4_enter_63 : decode cX4_enter 63 = .ok (.return_, 1) := by decide +kernel
theorem dX4_enter_64 : decode cX4_enter 64 = .ok (.aload_n 0, 1) := by decide +kernel
theorem dX4_enter_65 : decode cX4_enter 65 = .ok (.getfield 16, 3) := by decide +kernel
theorem dX4_enter_68 : decode cX4_enter 68 = .ok (.bipush 30, 2) := by decide +kernel
theorem dX4_enter_70 : decode cX4_enter 70 = .ok (.dup2, 1) := by decide +kernel
theorem dX4_enter_71 : decode cX4_enter 71 = .ok (.laload, 1) := by decide +kernel
theorem dX4_enter_72 : decode cX4_enter 72 = .ok (.ldc2_w 199, 3) := by decide +kernel
theorem dX4_enter_75 : decode cX4_enter 75 = .ok (.lsub, 1) := by decide +kernel
theorem dX4_enter_76 : decode cX4_enter 76 = .ok (.lastore, 1) := by decide +kernel
theorem dX4_enter_77 : decode cX4_enter 77 = .ok (.aload_n 0, 1) := by decide +kernel
theorem dX4_enter_78 : decode cX4_enter 78 = .ok (.getfield 16, 3) := by decide +kernel
theorem dX4_enter_81 : decode cX4_enter 81 = .ok (.bipush 16, 2) := by decide +kernel
theorem dX4_enter_83 : decode cX4_enter 83 = .ok (.aload_n 0, 1) := by decide +kernel
theorem dX4_enter_84 : decode cX4_enter 84 = .ok (.getfield 43, 3) := by decide +kernel
theorem dX4_enter_87 : decode cX4_enter 87 = .ok (.getfield 205, 3) := by decide +kernel
theorem dX4_enter_90 : decode cX4_enter 90 = .ok (.lastore, 1) := by decide +kernel
theorem dX4_enter_91 : decode cX4_enter 91 = .ok (.aload_n 0, 1) := by decide +kernel
theorem dX4_enter_92 : decode cX4_enter 92 = .ok (.getfield 16, 3) := by decide +kernel
theorem dX4_enter_95 : decode cX4_enter 95 = .ok (.bipush 17, 2) := by decide +kernel
theorem dX4_enter_97 : decode cX4_enter 97 = .ok (.aload_n 0, 1) := by decide +kernel
theorem dX4_enter_98 : decode cX4_enter 98 = .ok (.getfield 43, 3) := by decide +kernel
theorem dX4_enter_101 : decode cX4_enter 101 = .ok (.getfield 208, 3) := by decide +kernel
theorem dX4_enter_104 : decode cX4_enter 104 = .ok (.lastore, 1) := by decide +kernel
theorem dX4_enter_105 : decode cX4_enter 105 = .ok (.aload_n 0, 1) := by decide +kernel
theorem dX4_enter_106 : decode cX4_enter 106 = .ok (.getfield 16, 3) := by decide +kernel
theorem dX4_enter_109 : decode cX4_enter 109 = .ok (.bipush 18, 2) := by decide +kernel
theorem dX4_enter_111 : decode cX4_enter 111 = .ok (.aload_n 0, 1) := by decide +kernel
theorem dX4_enter_112 : decode cX4_enter 112 = .ok (.getfield 43, 3) := by decide +kernel
theorem dX4_enter_115 : decode cX4_enter 115 = .ok (.getfield 211, 3) := by decide +kernel
theorem dX4_enter_118 : decode cX4_enter 118 = .ok (.lastore, 1) := by decide +kernel
theorem dX4_enter_119 : decode cX4_enter 119 = .ok (.aload_n 0, 1) := by decide +kernel
theorem dX4_enter_120 : decode cX4_enter 120 = .ok (.getfield 16, 3) := by decide +kernel
theorem dX4_enter_123 : decode cX4_enter 123 = .ok (.bipush 29, 2) := by decide +kernel
theorem dX4_enter_125 : decode cX4_enter 125 = .ok (.aload_n 0, 1) := by decide +kernel
theorem dX4_enter_126 : decode cX4_enter 126 = .ok (.getfield 87, 3) := by decide +kernel
theorem dX4_enter_129 : decode cX4_enter 129 = .ok (.lastore, 1) := by decide +kernel
theorem dX4_enter_130 : decode cX4_enter 130 = .ok (.aload_n 0, 1) := by decide +kernel
theorem dX4_enter_131 : decode cX4_enter 131 = .ok (.iconst 0, 1) := by decide +kernel
theorem dX4_enter_132 : decode cX4_enter 132 = .ok (.putfield 105, 3) := by decide +kernel
theorem dX4_enter_135 : decode cX4_enter 135 = .ok (.aload_n 0, 1) := by decide +kernel
theorem dX4_enter_136 : decode cX4_enter 136 = .ok (.aload_n 0, 1) := by decide +kernel
theorem dX4_enter_137 : decode cX4_enter 137 = .ok (.getfield 20, 3) := by decide +kernel
theorem dX4_enter_140 : decode cX4_enter 140 = .ok (.aload_n 0, 1) := by decide +kernel
theorem dX4_enter_141 : decode cX4_enter 141 = .ok (.getfield 43, 3) := by decide +kernel
theorem dX4_enter_144 : decode cX4_enter 144 = .ok (.getfield 144, 3) := by decide +kernel
theorem dX4_enter_147 : decode cX4_enter 147 = .ok (.laload, 1) := by decide +kernel
theorem dX4_enter_148 : decode cX4_enter 148 = .ok (.putfield 63, 3) := by decide +kernel
theorem dX4_enter_151 : decode cX4_enter 151 = .ok (.aload_n 0, 1) := by decide +kernel
theorem dX4_enter_152 : decode cX4_enter 152 = .ok (.dup, 1) := by decide +kernel
theorem dX4_enter_153 : decode cX4_enter 153 = .ok (.getfield 113, 3) := by decide +kernel
theorem dX4_enter_156 : decode cX4_enter 156 = .ok (.iconst 1, 1) := by decide +kernel
theorem dX4_enter_157 : decode cX4_enter 157 = .ok (.iadd, 1) := by decide +kernel
theorem dX4_enter_158 : decode cX4_enter 158 = .ok (.putfield 113, 3) := by decide +kernel
theorem dX4_enter_161 : decode cX4_enter 161 = .ok (.return_, 1) := by decide +kernel
theorem dX4_comeBack_0 : decode cX4_comeBack 0 = .ok (.aload_n 0, 1) := by decide +kernel
theorem dX4_comeBack_1 : decode cX4_comeBack 1 = .ok (.aload_n 0, 1) := by decide +kernel
theorem dX4_comeBack_2 : decode cX4_comeBack 2 = .ok (.getfield 16, 3) := by decide +kernel
theorem dX4_comeBack_5 : decode cX4_comeBack 5 = .ok (.bipush 30, 2) := by decide +kernel
theorem dX4_comeBack_7 : decode cX4_comeBack 7 = .ok (.laload, 1) := by decide +kernel
theorem dX4_comeBack_8 : decode cX4_comeBack 8 = .ok (.iconst 0, 1) := by decide +kernel
theorem dX4_comeBack_9 : decode cX4_comeBack 9 = .ok (.invokevirtual 201, 3) := by decide +kernel
theorem dX4_comeBack_12 : decode cX4_comeBack 12 = .ok (.ifCond .ne 9, 3) := by decide +kernel
theorem dX4_comeBack_15 : decode cX4_comeBack 15 = .ok (.aload_n 0, 1) := by decide +kernel
theorem dX4_comeBack_16 : decode cX4_comeBack 16 = .ok (.iconst 3, 1) := by decide +kernel
theorem dX4_comeBack_17 : decode cX4_comeBack 17 = .ok (.putfield 78, 3) := by decide +kernel
theorem dX4_comeBack_20 : decode cX4_comeBack 20 = .ok (.return_, 1) := by decide +kernel
theorem dX4_comeBack_21 : decode cX4_comeBack 21 = .ok (.aload_n 0, 1) := by decide +kernel
theorem dX4_comeBack_22 : decode cX4_comeBack 22 = .ok (.aload_n 0, 1) := by decide +kernel
theorem dX4_comeBack_23 : decode cX4_comeBack 23 = .ok (.getfield 23, 3) := by decide +kernel
theorem dX4_comeBack_26 : decode cX4_comeBack 26 = .ok (.iconst 0, 1) := by decide +kernel
theorem dX4_comeBack_27 : decode cX4_comeBack 27 = .ok (.laload, 1) := by decide +kernel
theorem dX4_comeBack_28 : decode cX4_comeBack 28 = .ok (.l2i, 1) := by decide +kernel
theorem dX4_comeBack_29 : decode cX4_comeBack 29 = .ok (.bipush 7, 2) := by decide +kernel
theorem dX4_comeBack_31 : decode cX4_comeBack 31 = .ok (.iand, 1) := by decide +kernel
theorem dX4_comeBack_32 : decode cX4_comeBack 32 = .ok (.putfield 51, 3) := by decide +kernel
theorem dX4_comeBack_35 : decode cX4_comeBack 35 = .ok (.aload_n 0, 1) := by decide +kernel
theorem dX4_comeBack_36 : decode cX4_comeBack 36 = .ok (.aload_n 0, 1) := by decide +kernel
theorem dX4_comeBack_37 : decode cX4_comeBack 37 = .ok (.getfield 23, 3) := by decide +kernel
theorem dX4_comeBack_40 : decode cX4_comeBack 40 = .ok (.iconst 0, 1) := by decide +kernel
theorem dX4_comeBack_41 : decode cX4_comeBack 41 = .ok (.laload, 1) := by decide +kernel
theorem dX4_comeBack_42 : decode cX4_comeBack 42 = .ok (.l2i, 1) := by decide +kernel
theorem dX4_comeBack_43 : decode cX4_comeBack 43 = .ok (.iconst 3, 1) := by decide +kernel
theorem dX4_comeBack_44 : decode cX4_comeBack 44 = .ok (.ishr, 1) := by decide +kernel
theorem dX4_comeBack_45 : decode cX4_comeBack 45 = .ok (.iconst 1, 1) := by decide +kernel
theorem dX4_comeBack_46 : decode cX4_comeBack 46 = .ok (.iand, 1) := by decide +kernel
theorem dX4_comeBack_47 : decode cX4_comeBack 47 = .ok (.putfield 47, 3) := by decide +kernel
theorem dX4_comeBack_50 : decode cX4_comeBack 50 = .ok (.aload_n 0, 1) := by decide +kernel
theorem dX4_comeBack_51 : decode cX4_comeBack 51 = .ok (.aload_n 0, 1) := by decide +kernel
theorem dX4_comeBack_52 : decode cX4_comeBack 52 = .ok (.getfield 23, 3) := by decide +kernel
theorem dX4_comeBack_55 : decode cX4_comeBack 55 = .ok (.iconst 1, 1) := by decide +kernel
theorem dX4_comeBack_56 : decode cX4_comeBack 56 = .ok (.laload, 1) := by decide +kernel
theorem dX4_comeBack_57 : decode cX4_comeBack 57 = .ok (.ldc2_w 61, 3) := by decide +kernel
theorem dX4_comeBack_60 : decode cX4_comeBack 60 = .ok (.land, 1) := by decide +kernel
theorem dX4_comeBack_61 : decode cX4_comeBack 61 = .ok (.putfield 63, 3) := by decide +kernel
theorem dX4_comeBack_64 : decode cX4_comeBack 64 = .ok (.aload_n 0, 1) := by decide +kernel
theorem dX4_comeBack_65 : decode cX4_comeBack 65 = .ok (.getfield 16, 3) := by decide +kernel
theorem dX4_comeBack_68 : decode cX4_comeBack 68 = .ok (.bipush 29, 2) := by decide +kernel
theorem dX4_comeBack_70 : decode cX4_comeBack 70 = .ok (.aload_n 0, 1) := by decide +kernel
theorem dX4_comeBack_71 : decode cX4_comeBack 71 = .ok (.getfield 23, 3) := by decide +kernel
theorem dX4_comeBack_74 : decode cX4_comeBack 74 = .ok (.iconst 2, 1) := by decide +kernel
theorem dX4_comeBack_75 : decode cX4_comeBack 75 = .ok (.laload, 1) := by decide +kernel
theorem dX4_comeBack_76 : decode cX4_comeBack 76 = .ok (.lastore, 1) := by decide +kernel
theorem dX4_comeBack_77 : decode cX4_comeBack 77 = .ok (.aload_n 0, 1) := by decide +kernel
theorem dX4_comeBack_78 : decode cX4_comeBack 78 = .ok (.getfield 16, 3) := by decide +kernel
theorem dX4_comeBack_81 : decode cX4_comeBack 81 = .ok (.bipush 16, 2) := by decide +kernel
theorem dX4_comeBack_83 : decode cX4_comeBack 83 = .ok (.aload_n 0, 1) := by decide +kernel
theorem dX4_comeBack_84 : decode cX4_comeBack 84 = .ok (.getfield 23, 3) := by decide +kernel
theorem dX4_comeBack_87 : decode cX4_comeBack 87 = .ok (.iconst 3, 1) := by decide +kernel
theorem dX4_comeBack_88 : decode cX4_comeBack 88 = .ok (.laload, 1) := by decide +kernel
theorem dX4_comeBack_89 : decode cX4_comeBack 89 = .ok (.lastore, 1) := by decide +kernel
theorem dX4_comeBack_90 : decode cX4_comeBack 90 = .ok (.aload_n 0, 1) := by decide +kernel
theorem dX4_comeBack_91 : decode cX4_comeBack 91 = .ok (.getfield 16, 3) := by decide +kernel
theorem dX4_comeBack_94 : decode cX4_comeBack 94 = .ok (.bipush 17, 2) := by decide +kernel
theorem dX4_comeBack_96 : decode cX4_comeBack 96 = .ok (.aload_n 0, 1) := by decide +kernel
theorem dX4_comeBack_97 : decode cX4_comeBack 97 = .ok (.getfield 23, 3) := by decide +kernel
theorem dX4_comeBack_100 : decode cX4_comeBack 100 = .ok (.iconst 4, 1) := by decide +kernel
theorem dX4_comeBack_101 : decode cX4_comeBack 101 = .ok (.laload, 1) := by decide +kernel
theorem dX4_comeBack_102 : decode cX4_comeBack 102 = .ok (.lastore, 1) := by decide +kernel
theorem dX4_comeBack_103 : decode cX4_comeBack 103 = .ok (.aload_n 0, 1) := by decide +kernel
theorem dX4_comeBack_104 : decode cX4_comeBack 104 = .ok (.getfield 16, 3) := by decide +kernel
theorem dX4_comeBack_107 : decode cX4_comeBack 107 = .ok (.bipush 18, 2) := by decide +kernel
theorem dX4_comeBack_109 : decode cX4_comeBack 109 = .ok (.aload_n 0, 1) := by decide +kernel
theorem dX4_comeBack_110 : decode cX4_comeBack 110 = .ok (.getfield 23, 3) := by decide +kernel
theorem dX4_comeBack_113 : decode cX4_comeBack 113 = .ok (.iconst 5, 1) := by decide +kernel
theorem dX4_comeBack_114 : decode cX4_comeBack 114 = .ok (.laload, 1) := by decide +kernel
theorem dX4_comeBack_115 : decode cX4_comeBack 115 = .ok (.lastore, 1) := by decide +kernel
theorem dX4_comeBack_116 : decode cX4_comeBack 116 = .ok (.aload_n 0, 1) := by decide +kernel
theorem dX4_comeBack_117 : decode cX4_comeBack 117 = .ok (.getfield 16, 3) := by decide +kernel
theorem dX4_comeBack_120 : decode cX4_comeBack 120 = .ok (.bipush 30, 2) := by decide +kernel
theorem dX4_comeBack_122 : decode cX4_comeBack 122 = .ok (.dup2, 1) := by decide +kernel
theorem dX4_comeBack_123 : decode cX4_comeBack 123 = .ok (.laload, 1) := by decide +kernel
theorem dX4_comeBack_124 : decode cX4_comeBack 124 = .ok (.ldc2_w 199, 3) := by decide +kernel
theorem dX4_comeBack_127 : decode cX4_comeBack 127 = .ok (.ladd, 1) := by decide +kernel
theorem dX4_comeBack_128 : decode cX4_comeBack 128 = .ok (.lastore, 1) := by decide +kernel
theorem dX4_comeBack_129 : decode cX4_comeBack 129 = .ok (.aload_n 0, 1) := by decide +kernel
theorem dX4_comeBack_130 : decode cX4_comeBack 130 = .ok (.getfield 47, 3) := by decide +kernel
theorem dX4_comeBack_133 : decode cX4_comeBack 133 = .ok (.iconst 1, 1) := by decide +kernel
theorem dX4_comeBack_134 : decode cX4_comeBack 134 = .ok (.if_icmp .ne 25, 3) := by decide +kernel
theorem dX4_comeBack_137 : decode cX4_comeBack 137 = .ok (.aload_n 0, 1) := by decide +kernel
theorem dX4_comeBack_138 : decode cX4_comeBack 138 = .ok (.aload_n 0, 1) := by decide +kernel
theorem dX4_comeBack_139 : decode cX4_comeBack 139 = .ok (.getfield 16, 3) := by decide +kernel
theorem dX4_comeBack_142 : decode cX4_comeBack 142 = .ok (.bipush 30, 2) := by decide +kernel
theorem dX4_comeBack_144 : decode cX4_comeBack 144 = .ok (.laload, 1) := by decide +kernel
theorem dX4_comeBack_145 : decode cX4_comeBack 145 = .ok (.putfield 67, 3) := by decide +kernel
theorem dX4_comeBack_148 : decode cX4_comeBack 148 = .ok (.aload_n 0, 1) := by decide +kernel
theorem dX4_comeBack_149 : decode cX4_comeBack 149 = .ok (.getfield 16, 3) := by decide +kernel
theorem dX4_comeBack_152 : decode cX4_comeBack 152 = .ok (.bipush 30, 2) := by decide +kernel
theorem dX4_comeBack_154 : decode cX4_comeBack 154 = .ok (.aload_n 0, 1) := by decide +kernel
theorem dX4_comeBack_155 : decode cX4_comeBack 155 = .ok (.getfield 84, 3) := by decide +kernel
theorem dX4_comeBack_158 : decode cX4_comeBack 158 = .ok (.lastore, 1) := by decide +kernel
theorem dX4_comeBack_159 : decode cX4_comeBack 159 = .ok (.aload_n 0, 1) := by decide +kernel
theorem dX4_comeBack_160 : decode cX4_comeBack 160 = .ok (.iconst 0, 1) := by decide +kernel
theorem dX4_comeBack_161 : decode cX4_comeBack 161 = .ok (.putfield 105, 3) := by decide +kernel
theorem dX4_comeBack_164 : decode cX4_comeBack 164 = .ok (.return_, 1) := by decide +kernel
theorem dX4_step_0 : decode cX4_step 0 = .ok (.aload_n 0, 1) := by decide +kernel
theorem dX4_step_1 : decode cX4_step 1 = .ok (.getfield 43, 3) := by decide +kernel
theorem dX4_step_4 : decode cX4_step 4 = .ok (.invokevirtual 116, 3) := by decide +kernel
theorem dX4_step_7 : decode cX4_step 7 = .ok (.aload_n 0, 1) := by decide +kernel
theorem dX4_step_8 : decode cX4_step 8 = .ok (.getfield 29, 3) := by decide +kernel
theorem dX4_step_11 : decode cX4_step 11 = .ok (.aload_n 0, 1) := by decide +kernel
theorem dX4_step_12 : decode cX4_step 12 = .ok (.getfield 51, 3) := by decide +kernel
theorem dX4_step_15 : decode cX4_step 15 = .ok (.invokevirtual 119, 3) := by decide +kernel
theorem dX4_step_18 : decode cX4_step 18 = .ok (.istore_n 1, 1) := by decide +kernel
theorem dX4_step_19 : decode cX4_step 19 = .ok (.iload_n 1, 1) := by decide +kernel
theorem dX4_step_20 : decode cX4_step 20 = .ok (.ifCond .lt 7, 3) := by decide +kernel
theorem dX4_step_23 : decode cX4_step 23 = .ok (.iconst (-1), 1) := by decide +kernel
theorem dX4_step_24 : decode cX4_step 24 = .ok (.goto 19, 3) := by decide +kernel
theorem dX4_step_27 : decode cX4_step 27 = .ok (.aload_n 0, 1) := by decide +kernel
theorem dX4_step_28 : decode cX4_step 28 = .ok (.getfield 10, 3) := by decide +kernel
theorem dX4_step_31 : decode cX4_step 31 = .ok (.aload_n 0, 1) := by decide +kernel
theorem dX4_step_32 : decode cX4_step 32 = .ok (.getfield 63, 3) := by decide +kernel
theorem dX4_step_35 : decode cX4_step 35 = .ok (.iconst (-1), 1) := by decide +kernel
theorem dX4_step_36 : decode cX4_step 36 = .ok (.aload_n 0, 1) := by decide +kernel
theorem dX4_step_37 : decode cX4_step 37 = .ok (.getfield 47, 3) := by decide +kernel
theorem dX4_step_40 : decode cX4_step 40 = .ok (.invokevirtual 123, 3) := by decide +kernel
theorem dX4_step_43 : decode cX4_step 43 = .ok (.istore_n 2, 1) := by decide +kernel
theorem dX4_step_44 : decode cX4_step 44 = .ok (.iload_n 1, 1) := by decide +kernel
theorem dX4_step_45 : decode cX4_step 45 = .ok (.ifCond .lt 26, 3) := by decide +kernel
theorem dX4_step_48 : decode cX4_step 48 = .ok (.aload_n 0, 1) := by decide +kernel
theorem dX4_step_49 : decode cX4_step 49 = .ok (.getfield 43, 3) := by decide +kernel
theorem dX4_step_52 : decode cX4_step 52 = .ok (.iconst 0, 1) := by decide +kernel
theorem dX4_step_53 : decode cX4_step 53 = .ok (.iload_n 1, 1) := by decide +kernel
theorem dX4_step_54 : decode cX4_step 54 = .ok (.sipush 255, 3) := by decide +kernel
theorem dX4_step_57 : decode cX4_step 57 = .ok (.iand, 1) := by decide +kernel
theorem dX4_step_58 : decode cX4_step 58 = .ok (.i2l, 1) := by decide +kernel
theorem dX4_step_59 : decode cX4_step 59 = .ok (.lconst 0, 1) := by decide +kernel
theorem dX4_step_60 : decode cX4_step 60 = .ok (.lconst 0, 1) := by decide +kernel
theorem dX4_step_61 : decode cX4_step 61 = .ok (.aload_n 0, 1) := by decide +kernel
theorem dX4_step_62 : decode cX4_step 62 = .ok (.getfield 63, 3) := by decide +kernel
theorem dX4_step_65 : decode cX4_step 65 = .ok (.invokevirtual 127, 3) := by decide +kernel
theorem dX4_step_68 : decode cX4_step 68 = .ok (.goto 60, 3) := by decide +kernel
theorem dX4_step_71 : decode cX4_step 71 = .ok (.iload_n 2, 1) := by decide +kernel
theorem dX4_step_72 : decode cX4_step 72 = .ok (.ifCond .ge 30, 3) := by decide +kernel
theorem dX4_step_75 : decode cX4_step 75 = .ok (.aload_n 0, 1) := by decide +kernel
theorem dX4_step_76 : decode cX4_step 76 = .ok (.getfield 43, 3) := by decide +kernel
theorem dX4_step_79 : decode cX4_step 79 = .ok (.iconst 2, 1) := by decide +kernel
theorem dX4_step_80 : decode cX4_step 80 = .ok (.aload_n 0, 1) := by decide +kernel
theorem dX4_step_81 : decode cX4_step 81 = .ok (.getfield 63, 3) := by decide +kernel
theorem dX4_step_84 : decode cX4_step 84 = .ok (.iload_n 2, 1) := by decide +kernel
theorem dX4_step_85 : decode cX4_step 85 = .ok (.invokestatic 131, 3) := by decide +kernel
theorem dX4_step_88 : decode cX4_step 88 = .ok (.i2l, 1) := by decide +kernel
theorem dX4_step_89 : decode cX4_step 89 = .ok (.ldc2_w 99, 3) := by decide +kernel
theorem dX4_step_92 : decode cX4_step 92 = .ok (.aload_n 0, 1) := by decide +kernel
theorem dX4_step_93 : decode cX4_step 93 = .ok (.getfield 63, 3) := by decide +kernel
theorem dX4_step_96 : decode cX4_step 96 = .ok (.invokevirtual 127, 3) := by decide +kernel
theorem dX4_step_99 : decode cX4_step 99 = .ok (.goto 29, 3) := by decide +kernel
theorem dX4_step_102 : decode cX4_step 102 = .ok (.aload_n 0, 1) := by decide +kernel
theorem dX4_step_103 : decode cX4_step 103 = .ok (.dup, 1) := by decide +kernel
theorem dX4_step_104 : decode cX4_step 104 = .ok (.getfield 63, 3) := by decide +kernel
theorem dX4_step_107 : decode cX4_step 107 = .ok (.ldc2_w 134, 3) := by decide +kernel
theorem dX4_step_110 : decode cX4_step 110 = .ok (.ladd, 1) := by decide +kernel
theorem dX4_step_111 : decode cX4_step 111 = .ok (.putfield 63, 3) := by decide +kernel
theorem dX4_step_114 : decode cX4_step 114 = .ok (.aload_n 0, 1) := by decide +kernel
theorem dX4_step_115 : decode cX4_step 115 = .ok (.aload_n 0, 1) := by decide +kernel
theorem dX4_step_116 : decode cX4_step 116 = .ok (.getfield 10, 3) := by decide +kernel
theorem dX4_step_119 : decode cX4_step 119 = .ok (.iload_n 2, 1) := by decide +kernel
theorem dX4_step_120 : decode cX4_step 120 = .ok (.iconst 0, 1) := by decide +kernel
theorem dX4_step_121 : decode cX4_step 121 = .ok (.invokevirtual 136, 3) := by decide +kernel
theorem dX4_step_124 : decode cX4_step 124 = .ok (.l2i, 1) := by decide +kernel
theorem dX4_step_125 : decode cX4_step 125 = .ok (.invokevirtual 140, 3) := by decide +kernel
theorem dX4_step_128 : decode cX4_step 128 = .ok (.aload_n 0, 1) := by decide +kernel
theorem dX4_step_129 : decode cX4_step 129 = .ok (.getfield 43, 3) := by decide +kernel
theorem dX4_step_132 : decode cX4_step 132 = .ok (.getfield 144, 3) := by decide +kernel
theorem dX4_step_135 : decode cX4_step 135 = .ok (.ifCond .lt 10, 3) := by decide +kernel
theorem dX4_step_138 : decode cX4_step 138 = .ok (.aload_n 0, 1) := by decide +kernel
theorem dX4_step_139 : decode cX4_step 139 = .ok (.invokevirtual 147, 3) := by decide +kernel
theorem dX4_step_142 : decode cX4_step 142 = .ok (.goto 18, 3) := by decide +kernel
theorem dX4_step_145 : decode cX4_step 145 = .ok (.aload_n 0, 1) := by decide +kernel
theorem dX4_step_146 : decode cX4_step 146 = .ok (.getfield 43, 3) := by decide +kernel
theorem dX4_step_149 : decode cX4_step 149 = .ok (.getfield 144, 3) := by decide +kernel
theorem dX4_step_152 : decode cX4_step 152 = .ok (.iconst (-1), 1) := by decide +kernel
theorem dX4_step_153 : decode cX4_step 153 = .ok (.if_icmp .ne 7, 3) := by decide +kernel
theorem dX4_step_156 : decode cX4_step 156 = .ok (.aload_n 0, 1) := by decide +kernel
theorem dX4_step_157 : decode cX4_step 157 = .ok (.invokevirtual 149, 3) := by decide +kernel
theorem dX4_step_160 : decode cX4_step 160 = .ok (.iload_n 1, 1) := by decide +kernel
theorem dX4_step_161 : decode cX4_step 161 = .ok (.ifCond .lt 18, 3) := by decide +kernel
theorem dX4_step_164 : decode cX4_step 164 = .ok (.aload_n 0, 1) := by decide +kernel
theorem dX4_step_165 : decode cX4_step 165 = .ok (.getfield 78, 3) := by decide +kernel
theorem dX4_step_168 : decode cX4_step 168 = .ok (.ifCond .ne 11, 3) := by decide +kernel
theorem dX4_step_171 : decode cX4_step 171 = .ok (.aload_n 0, 1) := by decide +kernel
theorem dX4_step_172 : decode cX4_step 172 = .ok (.iload_n 1, 1) := by decide +kernel
theorem dX4_step_173 : decode cX4_step 173 = .ok (.bipush 8, 2) := by decide +kernel
theorem dX4_step_175 : decode cX4_step 175 = .ok (.ishr, 1) := by decide +kernel
theorem dX4_step_176 : decode cX4_step 176 = .ok (.putfield 51, 3) := by decide +kernel
theorem dX4_step_179 : decode cX4_step 179 = .ok (.return_, 1) := by decide +kernel
theorem dX4_run_0 : decode cX4_run 0 = .ok (.iload_n 1, 1) := by decide +kernel
theorem dX4_run_1 : decode cX4_run 1 = .ok (.iconst 1, 1) := by decide +kernel
theorem dX4_run_2 : decode cX4_run 2 = .ok (.if_icmp .lt 9, 3) := by decide +kernel
theorem dX4_run_5 : decode cX4_run 5 = .ok (.iload_n 1, 1) := by decide +kernel
theorem dX4_run_6 : decode cX4_run 6 = .ok (.bipush 31, 2) := by decide +kernel
theorem dX4_run_8 : decode cX4_run 8 = .ok (.if_icmp .le 5, 3) := by decide +kernel
theorem dX4_run_11 : decode cX4_run 11 = .ok (.iconst 0, 1) := by decide +kernel
theorem dX4_run_12 : decode cX4_run 12 = .ok (.ireturn, 1) := by decide +kernel
theorem dX4_run_13 : decode cX4_run 13 = .ok (.iconst 0, 1) := by decide +kernel
theorem dX4_run_14 : decode cX4_run 14 = .ok (.istore_n 2, 1) := by decide +kernel
theorem dX4_run_15 : decode cX4_run 15 = .ok (.iload_n 2, 1) := by decide +kernel
theorem dX4_run_16 : decode cX4_run 16 = .ok (.iload_n 1, 1) := by decide +kernel
theorem dX4_run_17 : decode cX4_run 17 = .ok (.if_icmp .ge 20, 3) := by decide +kernel
theorem dX4_run_20 : decode cX4_run 20 = .ok (.aload_n 0, 1) := by decide +kernel
theorem dX4_run_21 : decode cX4_run 21 = .ok (.getfield 78, 3) := by decide +kernel
theorem dX4_run_24 : decode cX4_run 24 = .ok (.ifCond .ne 13, 3) := by decide +kernel
theorem dX4_run_27 : decode cX4_run 27 = .ok (.aload_n 0, 1) := by decide +kernel
theorem dX4_run_28 : decode cX4_run 28 = .ok (.invokevirtual 81, 3) := by decide +kernel
theorem dX4_run_31 : decode cX4_run 31 = .ok (.iinc 2 1, 3) := by decide +kernel
theorem dX4_run_34 : decode cX4_run 34 = .ok (.goto (-19), 3) := by decide +kernel
theorem dX4_run_37 : decode cX4_run 37 = .ok (.iload_n 2, 1) := by decide +kernel
theorem dX4_run_38 : decode cX4_run 38 = .ok (.ireturn, 1) := by decide +kernel
theorem dX4_init_0 : decode cX4_init 0 = .ok (.aload_n 0, 1) := by decide +kernel
theorem dX4_init_1 : decode cX4_init 1 = .ok (.invokespecial 1, 3) := by decide +kernel
theorem dX4_init_4 : decode cX4_init 4 = .ok (.aload_n 0, 1) := by decide +kernel
theorem dX4_init_5 : decode cX4_init 5 = .ok (.new 7, 3) := by decide +kernel
theorem dX4_init_8 : decode cX4_init 8 = .ok (.dup, 1) := by decide +kernel
theorem dX4_init_9 : decode cX4_init 9 = .ok (.invokespecial 9, 3) := by decide +kernel
theorem dX4_init_12 : decode cX4_init 12 = .ok (.putfield 10, 3) := by decide +kernel
theorem dX4_init_15 : decode cX4_init 15 = .ok (.aload_n 0, 1) := by decide +kernel
theorem dX4_init_16 : decode cX4_init 16 = .ok (.bipush 32, 2) := by decide +kernel
theorem dX4_init_18 : decode cX4_init 18 = .ok (.newarray .long, 2) := by decide +kernel
theorem dX4_init_20 : decode cX4_init 20 = .ok (.putfield 16, 3) := by decide +kernel
theorem dX4_init_23 : decode cX4_init 23 = .ok (.aload_n 0, 1) := by decide +kernel
theorem dX4_init_24 : decode cX4_init 24 = .ok (.bipush 6, 2) := by decide +kernel
theorem dX4_init_26 : decode cX4_init 26 = .ok (.newarray .long, 2) := by decide +kernel
theorem dX4_init_28 : decode cX4_init 28 = .ok (.putfield 20, 3) := by decide +kernel
theorem dX4_init_31 : decode cX4_init 31 = .ok (.aload_n 0, 1) := by decide +kernel
theorem dX4_init_32 : decode cX4_init 32 = .ok (.bipush 6, 2) := by decide +kernel
theorem dX4_init_34 : decode cX4_init 34 = .ok (.newarray .long, 2) := by decide +kernel
theorem dX4_init_36 : decode cX4_init 36 = .ok (.putfield 23, 3) := by decide +kernel
theorem dX4_init_39 : decode cX4_init 39 = .ok (.aload_n 0, 1) := by decide +kernel
theorem dX4_init_40 : decode cX4_init 40 = .ok (.new 26, 3) := by decide +kernel
theorem dX4_init_43 : decode cX4_init 43 = .ok (.dup, 1) := by decide +kernel
theorem dX4_init_44 : decode cX4_init 44 = .ok (.invokespecial 28, 3) := by decide +kernel
theorem dX4_init_47 : decode cX4_init 47 = .ok (.putfield 29, 3) := by decide +kernel
theorem dX4_init_50 : decode cX4_init 50 = .ok (.aload_n 0, 1) := by decide +kernel
theorem dX4_init_51 : decode cX4_init 51 = .ok (.new 33, 3) := by decide +kernel
theorem dX4_init_54 : decode cX4_init 54 = .ok (.dup, 1) := by decide +kernel
theorem dX4_init_55 : decode cX4_init 55 = .ok (.invokespecial 35, 3) := by decide +kernel
theorem dX4_init_58 : decode cX4_init 58 = .ok (.putfield 36, 3) := by decide +kernel
theorem dX4_init_61 : decode cX4_init 61 = .ok (.aload_n 0, 1) := by decide +kernel
theorem dX4_init_62 : decode cX4_init 62 = .ok (.new 40, 3) := by decide +kernel
theorem dX4_init_65 : decode cX4_init 65 = .ok (.dup, 1) := by decide +kernel
theorem dX4_init_66 : decode cX4_init 66 = .ok (.invokespecial 42, 3) := by decide +kernel
theorem dX4_init_69 : decode cX4_init 69 = .ok (.putfield 43, 3) := by decide +kernel
theorem dX4_init_72 : decode cX4_init 72 = .ok (.aload_n 0, 1) := by decide +kernel
theorem dX4_init_73 : decode cX4_init 73 = .ok (.iconst 0, 1) := by decide +kernel
theorem dX4_init_74 : decode cX4_init 74 = .ok (.putfield 47, 3) := by decide +kernel
theorem dX4_init_77 : decode cX4_init 77 = .ok (.aload_n 0, 1) := by decide +kernel
theorem dX4_init_78 : decode cX4_init 78 = .ok (.bipush 7, 2) := by decide +kernel
theorem dX4_init_80 : decode cX4_init 80 = .ok (.putfield 51, 3) := by decide +kernel
theorem dX4_init_83 : decode cX4_init 83 = .ok (.return_, 1) := by decide +kernel
