theorem dY_sx_0 : decode cY_sx 0 = .ok (.lload_n 0, 1) := by decide +kernel
theorem dY_sx_1 : decode cY_sx 1 = .ok (.l2i, 1) := by decide +kernel
theorem dY_sx_2 : decode cY_sx 2 = .ok (.i2l, 1) := by decide +kernel
theorem dY_sx_3 : decode cY_sx 3 = .ok (.lreturn, 1) := by decide +kernel
theorem dY_give_0 : decode cY_give 0 = .ok (.iload_n 1, 1) := by decide +kernel
theorem dY_give_1 : decode cY_give 1 = .ok (.bipush 31, 2) := by decide +kernel
theorem dY_give_3 : decode cY_give 3 = .ok (.if_icmp .eq 10, 3) := by decide +kernel
theorem dY_give_6 : decode cY_give 6 = .ok (.aload_n 0, 1) := by decide +kernel
theorem dY_give_7 : decode cY_give 7 = .ok (.getfield 13, 3) := by decide +kernel
theorem dY_give_10 : decode cY_give 10 = .ok (.iload_n 1, 1) := by decide +kernel
theorem dY_give_11 : decode cY_give 11 = .ok (.lload_n 2, 1) := by decide +kernel
theorem dY_give_12 : decode cY_give 12 = .ok (.lastore, 1) := by decide +kernel
theorem dY_give_13 : decode cY_give 13 = .ok (.return_, 1) := by decide +kernel
theorem dY_bytes_0 : decode cY_bytes 0 = .ok (.lconst 0, 1) := by decide +kernel
theorem dY_bytes_1 : decode cY_bytes 1 = .ok (.lstore_n 3, 1) := by decide +kernel
theorem dY_bytes_2 : decode cY_bytes 2 = .ok (.iload_n 2, 1) := by decide +kernel
theorem dY_bytes_3 : decode cY_bytes 3 = .ok (.iconst 1, 1) := by decide +kernel
theorem dY_bytes_4 : decode cY_bytes 4 = .ok (.isub, 1) := by decide +kernel
theorem dY_bytes_5 : decode cY_bytes 5 = .ok (.istore 5, 2) := by decide +kernel
theorem dY_bytes_7 : decode cY_bytes 7 = .ok (.iload 5, 2) := by decide +kernel
theorem dY_bytes_9 : decode cY_bytes 9 = .ok (.ifCond .lt 25, 3) := by decide +kernel
theorem dY_bytes_12 : decode cY_bytes 12 = .ok (.lload_n 3, 1) := by decide +kernel
theorem dY_bytes_13 : decode cY_bytes 13 = .ok (.bipush 8, 2) := by decide +kernel
theorem dY_bytes_15 : decode cY_bytes 15 = .ok (.lshl, 1) := by decide +kernel
theorem dY_bytes_16 : decode cY_bytes 16 = .ok (.aload_n 0, 1) := by decide +kernel
theorem dY_bytes_17 : decode cY_bytes 17 = .ok (.getfield 7, 3) := by decide +kernel
theorem dY_bytes_20 : decode cY_bytes 20 = .ok (.iload_n 1, 1) := by decide +kernel
theorem dY_bytes_21 : decode cY_bytes 21 = .ok (.iload 5, 2) := by decide +kernel
theorem dY_bytes_23 : decode cY_bytes 23 = .ok (.iadd, 1) := by decide +kernel
theorem dY_bytes_24 : decode cY_bytes 24 = .ok (.iaload, 1) := by decide +kernel
theorem dY_bytes_25 : decode cY_bytes 25 = .ok (.i2l, 1) := by decide +kernel
theorem dY_bytes_26 : decode cY_bytes 26 = .ok (.lor, 1) := by decide +kernel
theorem dY_bytes_27 : decode cY_bytes 27 = .ok (.lstore_n 3, 1) := by decide +kernel
theorem dY_bytes_28 : decode cY_bytes 28 = .ok (.iinc 5 (-1), 3) := by decide +kernel
theorem dY_bytes_31 : decode cY_bytes 31 = .ok (.goto (-24), 3) := by decide +kernel
theorem dY_bytes_34 : decode cY_bytes 34 = .ok (.lload_n 3, 1) := by decide +kernel
theorem dY_bytes_35 : decode cY_bytes 35 = .ok (.lreturn, 1) := by decide +kernel
theorem dY_store_0 : decode cY_store 0 = .ok (.iconst 0, 1) := by decide +kernel
theorem dY_store_1 : decode cY_store 1 = .ok (.istore 5, 2) := by decide +kernel
theorem dY_store_3 : decode cY_store 3 = .ok (.iload 5, 2) := by decide +kernel
theorem dY_store_5 : decode cY_store 5 = .ok (.iload_n 2, 1) := by decide +kernel
theorem dY_store_6 : decode cY_store 6 = .ok (.if_icmp .ge 30, 3) := by decide +kernel
theorem dY_store_9 : decode cY_store 9 = .ok (.aload_n 0, 1) := by decide +kernel
theorem dY_store_10 : decode cY_store 10 = .ok (.getfield 7, 3) := by decide +kernel
theorem dY_store_13 : decode cY_store 13 = .ok (.iload_n 1, 1) := by decide +kernel
theorem dY_store_14 : decode cY_store 14 = .ok (.iload 5, 2) := by decide +kernel
theorem dY_store_16 : decode cY_store 16 = .ok (.iadd, 1) := by decide +kernel
theorem dY_store_17 : decode cY_store 17 = .ok (.lload_n 3, 1) := by decide +kernel
theorem dY_store_18 : decode cY_store 18 = .ok (.bipush 8, 2) := by decide +kernel
theorem dY_store_20 : decode cY_store 20 = .ok (.iload 5, 2) := by decide +kernel
theorem dY_store_22 : decode cY_store 22 = .ok (.imul, 1) := by decide +kernel
theorem dY_store_23 : decode cY_store 23 = .ok (.lshr, 1) := by decide +kernel
theorem dY_store_24 : decode cY_store 24 = .ok (.ldc2_w 42, 3) := by decide +kernel
theorem dY_store_27 : decode cY_store 27 = .ok (.land, 1) := by decide +kernel
theorem dY_store_28 : decode cY_store 28 = .ok (.l2i, 1) := by decide +kernel
theorem dY_store_29 : decode cY_store 29 = .ok (.iastore, 1) := by decide +kernel
theorem dY_store_30 : decode cY_store 30 = .ok (.iinc 5 1, 3) := by decide +kernel
theorem dY_store_33 : decode cY_store 33 = .ok (.goto (-30), 3) := by decide +kernel
theorem dY_store_36 : decode cY_store 36 = .ok (.return_, 1) := by decide +kernel
theorem dY_buffered_0 : decode cY_buffered 0 = .ok (.iconst 0, 1) := by decide +kernel
theorem dY_buffered_1 : decode cY_buffered 1 = .ok (.istore_n 2, 1) := by decide +kernel
theorem dY_buffered_2 : decode cY_buffered 2 = .ok (.iload_n 2, 1) := by decide +kernel
theorem dY_buffered_3 : decode cY_buffered 3 = .ok (.aload_n 0, 1) := by decide +kernel
theorem dY_buffered_4 : decode cY_buffered 4 = .ok (.getfield 44, 3) := by decide +kernel
theorem dY_buffered_7 : decode cY_buffered 7 = .ok (.if_icmp .ge 34, 3) := by decide +kernel
theorem dY_buffered_10 : decode cY_buffered 10 = .ok (.aload_n 0, 1) := by decide +kernel
theorem dY_buffered_11 : decode cY_buffered 11 = .ok (.getfield 30, 3) := by decide +kernel
theorem dY_buffered_14 : decode cY_buffered 14 = .ok (.iload_n 2, 1) := by decide +kernel
theorem dY_buffered_15 : decode cY_buffered 15 = .ok (.iaload, 1) := by decide +kernel
theorem dY_buffered_16 : decode cY_buffered 16 = .ok (.iload_n 1, 1) := by decide +kernel
theorem dY_buffered_17 : decode cY_buffered 17 = .ok (.if_icmp .ne 18, 3) := by decide +kernel
theorem dY_buffered_20 : decode cY_buffered 20 = .ok (.aload_n 0, 1) := by decide +kernel
theorem dY_buffered_21 : decode cY_buffered 21 = .ok (.getfield 33, 3) := by decide +kernel
theorem dY_buffered_24 : decode cY_buffered 24 = .ok (.iload_n 2, 1) := by decide +kernel
theorem dY_buffered_25 : decode cY_buffered 25 = .ok (.iaload, 1) := by decide +kernel
theorem dY_buffered_26 : decode cY_buffered 26 = .ok (.aload_n 0, 1) := by decide +kernel
theorem dY_buffered_27 : decode cY_buffered 27 = .ok (.getfield 47, 3) := by decide +kernel
theorem dY_buffered_30 : decode cY_buffered 30 = .ok (.if_icmp .ne 5, 3) := by decide +kernel
theorem dY_buffered_33 : decode cY_buffered 33 = .ok (.iload_n 2, 1) := by decide +kernel
theorem dY_buffered_34 : decode cY_buffered 34 = .ok (.ireturn, 1) := by decide +kernel
theorem dY_buffered_35 : decode cY_buffered 35 = .ok (.iinc 2 1, 3) := by decide +kernel
theorem dY_buffered_38 : decode cY_buffered 38 = .ok (.goto (-36), 3) := by decide +kernel
theorem dY_buffered_41 : decode cY_buffered 41 = .ok (.iconst (-1), 1) := by decide +kernel
theorem dY_buffered_42 : decode cY_buffered 42 = .ok (.ireturn, 1) := by decide +kernel
theorem dY_keep_0 : decode cY_keep 0 = .ok (.aload_n 0, 1) := by decide +kernel
theorem dY_keep_1 : decode cY_keep 1 = .ok (.getfield 44, 3) := by decide +kernel
theorem dY_keep_4 : decode cY_keep 4 = .ok (.iconst 4, 1) := by decide +kernel
theorem dY_keep_5 : decode cY_keep 5 = .ok (.if_icmp .ne 71, 3) := by decide +kernel
theorem dY_keep_8 : decode cY_keep 8 = .ok (.iconst 0, 1) := by decide +kernel
theorem dY_keep_9 : decode cY_keep 9 = .ok (.istore 4, 2) := by decide +kernel
theorem dY_keep_11 : decode cY_keep 11 = .ok (.iload 4, 2) := by decide +kernel
theorem dY_keep_13 : decode cY_keep 13 = .ok (.iconst 3, 1) := by decide +kernel
theorem dY_keep_14 : decode cY_keep 14 = .ok (.if_icmp .ge 57, 3) := by decide +kernel
theorem dY_keep_17 : decode cY_keep 17 = .ok (.aload_n 0, 1) := by decide +kernel
theorem dY_keep_18 : decode cY_keep 18 = .ok (.getfield 30, 3) := by decide +kernel
theorem dY_keep_21 : decode cY_keep 21 = .ok (.iload 4, 2) := by decide +kernel
theorem dY_keep_23 : decode cY_keep 23 = .ok (.aload_n 0, 1) := by decide +kernel
theorem dY_keep_24 : decode cY_keep 24 = .ok (.getfield 30, 3) := by decide +kernel
theorem dY_keep_27 : decode cY_keep 27 = .ok (.iload 4, 2) := by decide +kernel
theorem dY_keep_29 : decode cY_keep 29 = .ok (.iconst 1, 1) := by decide +kernel
theorem dY_keep_30 : decode cY_keep 30 = .ok (.iadd, 1) := by decide +kernel
theorem dY_keep_31 : decode cY_keep 31 = .ok (.iaload, 1) := by decide +kernel
theorem dY_keep_32 : decode cY_keep 32 = .ok (.iastore, 1) := by decide +kernel
theorem dY_keep_33 : decode cY_keep 33 = .ok (.aload_n 0, 1) := by decide +kernel
theorem dY_keep_34 : decode cY_keep 34 = .ok (.getfield 33, 3) := by decide +kernel
theorem dY_keep_37 : decode cY_keep 37 = .ok (.iload 4, 2) := by decide +kernel
theorem dY_keep_39 : decode cY_keep 39 = .ok (.aload_n 0, 1) := by decide +kernel
theorem dY_keep_40 : decode cY_keep 40 = .ok (.getfield 33, 3) := by decide +kernel
theorem dY_keep_43 : decode cY_keep 43 = .ok (.iload 4, 2) := by decide +kernel
theorem dY_keep_45 : decode cY_keep 45 = .ok (.iconst 1, 1) := by decide +kernel
theorem dY_keep_46 : decode cY_keep 46 = .ok (.iadd, 1) := by decide +kernel
theorem dY_keep_47 : decode cY_keep 47 = .ok (.iaload, 1) := by decide +kernel
theorem dY_keep_48 : decode cY_keep 48 = .ok (.iastore, 1) := by decide +kernel
theorem dY_keep_49 : decode cY_keep 49 = .ok (.aload_n 0, 1) := by decide +kernel
theorem dY_keep_50 : decode cY_keep 50 = .ok (.getfield 36, 3) := by decide +kernel
theorem dY_keep_53 : decode cY_keep 53 = .ok (.iload 4, 2) := by decide +kernel
theorem dY_keep_55 : decode cY_keep 55 = .ok (.aload_n 0, 1) := by decide +kernel
theorem dY_keep_56 : decode cY_keep 56 = .ok (.getfield 36, 3) := by decide +kernel
theorem dY_keep_59 : decode cY_keep 59 = .ok (.iload 4, 2) := by decide +kernel
theorem dY_keep_61 : decode cY_keep 61 = .ok (.iconst 1, 1) := by decide +kernel
theorem dY_keep_62 : decode cY_keep 62 = .ok (.iadd, 1) := by decide +kernel
theorem dY_keep_63 : decode cY_keep 63 = .ok (.laload, 1) := by decide +kernel
theorem dY_keep_64 : decode cY_keep 64 = .ok (.lastore, 1) := by decide +kernel
theorem dY_keep_65 : decode cY_keep 65 = .ok (.iinc 4 1, 3) := by decide +kernel
theorem dY_keep_68 : decode cY_keep 68 = .ok (.goto (-57), 3) := by decide +kernel
theorem dY_keep_71 : decode cY_keep 71 = .ok (.aload_n 0, 1) := by decide +kernel
theorem dY_keep_72 : decode cY_keep 72 = .ok (.iconst 3, 1) := by decide +kernel
theorem dY_keep_73 : decode cY_keep 73 = .ok (.putfield 44, 3) := by decide +kernel
theorem dY_keep_76 : decode cY_keep 76 = .ok (.aload_n 0, 1) := by decide +kernel
theorem dY_keep_77 : decode cY_keep 77 = .ok (.getfield 30, 3) := by decide +kernel
theorem dY_keep_80 : decode cY_keep 80 = .ok (.aload_n 0, 1) := by decide +kernel
theorem dY_keep_81 : decode cY_keep 81 = .ok (.getfield 44, 3) := by decide +kernel
theorem dY_keep_84 : decode cY_keep 84 = .ok (.iload_n 1, 1) := by decide +kernel
theorem dY_keep_85 : decode cY_keep 85 = .ok (.iastore, 1) := by decide +kernel
theorem dY_keep_86 : decode cY_keep 86 = .ok (.aload_n 0, 1) := by decide +kernel
theorem dY_keep_87 : decode cY_keep 87 = .ok (.getfield 33, 3) := by decide +kernel
theorem dY_keep_90 : decode cY_keep 90 = .ok (.aload_n 0, 1) := by decide +kernel
theorem dY_keep_91 : decode cY_keep 91 = .ok (.getfield 44, 3) := by decide +kernel
theorem dY_keep_94 : decode cY_keep 94 = .ok (.aload_n 0, 1) := by decide +kernel
theorem dY_keep_95 : decode cY_keep 95 = .ok (.getfield 47, 3) := by decide +kernel
theorem dY_keep_98 : decode cY_keep 98 = .ok (.iastore, 1) := by decide +kernel
theorem dY_keep_99 : decode cY_keep 99 = .ok (.aload_n 0, 1) := by decide +kernel
theorem dY_keep_100 : decode cY_keep 100 = .ok (.getfield 36, 3) := by decide +kernel
theorem dY_keep_103 : decode cY_keep 103 = .ok (.aload_n 0, 1) := by decide +kernel
theorem dY_keep_104 : decode cY_keep 104 = .ok (.getfield 44, 3) := by decide +kernel
theorem dY_keep_107 : decode cY_keep 107 = .ok (.lload_n 2, 1) := by decide +kernel
theorem dY_keep_108 : decode cY_keep 108 = .ok (.lastore, 1) := by decide +kernel
theorem dY_keep_109 : decode cY_keep 109 = .ok (.aload_n 0, 1) := by decide +kernel
theorem dY_keep_110 : decode cY_keep 110 = .ok (.dup, 1) := by decide +kernel
theorem dY_keep_111 : decode cY_keep 111 = .ok (.getfield 44, 3) := by decide +kernel
theorem dY_keep_114 : decode cY_keep 114 = .ok (.iconst 1, 1) := by decide +kernel
theorem dY_keep_115 : decode cY_keep 115 = .ok (.iadd, 1) := by decide +kernel
theorem dY_keep_116 : decode cY_keep 116 = .ok (.putfield 44, 3) := by decide +kernel
theorem dY_keep_119 : decode cY_keep 119 = .ok (.return_, 1) := by decide +kernel
theorem dY_number_0 : decode cY_number 0 = .ok (.lload_n 0, 1) := by decide +kernel
theorem dY_number_1 : decode cY_number 1 = .ok (.bipush 32, 2) := by decide +kernel
theorem dY_number_3 : decode cY_number 3 = .ok (.lshr, 1) := by decide +kernel
theorem dY_number_4 : decode cY_number 4 = .ok (.ldc2_w 50, 3) := by decide +kernel
theorem dY_number_7 : decode cY_number 7 = .ok (.land, 1) := by decide +kernel
theorem dY_number_8 : decode cY_number 8 = .ok (.l2i, 1) := by decide +kernel
theorem dY_number_9 : decode cY_number 9 = .ok (.ireturn, 1) := by decide +kernel
theorem dY_walk_0 : decode cY_walk 0 = .ok (.aload_n 0, 1) := by decide +kernel
theorem dY_walk_1 : decode cY_walk 1 = .ok (.getfield 52, 3) := by decide +kernel
theorem dY_walk_4 : decode cY_walk 4 = .ok (.istore_n 2, 1) := by decide +kernel
theorem dY_walk_5 : decode cY_walk 5 = .ok (.iconst 0, 1) := by decide +kernel
theorem dY_walk_6 : decode cY_walk 6 = .ok (.istore_n 3, 1) := by decide +kernel
theorem dY_walk_7 : decode cY_walk 7 = .ok (.iload_n 3, 1) := by decide +kernel
theorem dY_walk_8 : decode cY_walk 8 = .ok (.iconst 2, 1) := by decide +kernel
theorem dY_walk_9 : decode cY_walk 9 = .ok (.if_icmp .ge 54, 3) := by decide +kernel
theorem dY_walk_12 : decode cY_walk 12 = .ok (.aload_n 0, 1) := by decide +kernel
theorem dY_walk_13 : decode cY_walk 13 = .ok (.iload_n 2, 1) := by decide +kernel
theorem dY_walk_14 : decode cY_walk 14 = .ok (.bipush 8, 2) := by decide +kernel
theorem dY_walk_16 : decode cY_walk 16 = .ok (.iload_n 1, 1) := by decide +kernel
theorem dY_walk_17 : decode cY_walk 17 = .ok (.iconst 4, 1) := by decide +kernel
theorem dY_walk_18 : decode cY_walk 18 = .ok (.iconst 2, 1) := by decide +kernel
theorem dY_walk_19 : decode cY_walk 19 = .ok (.iload_n 3, 1) := by decide +kernel
theorem dY_walk_20 : decode cY_walk 20 = .ok (.imul, 1) := by decide +kernel
theorem dY_walk_21 : decode cY_walk 21 = .ok (.isub, 1) := by decide +kernel
theorem dY_walk_22 : decode cY_walk 22 = .ok (.ishr, 1) := by decide +kernel
theorem dY_walk_23 : decode cY_walk 23 = .ok (.iconst 3, 1) := by decide +kernel
theorem dY_walk_24 : decode cY_walk 24 = .ok (.iand, 1) := by decide +kernel
theorem dY_walk_25 : decode cY_walk 25 = .ok (.imul, 1) := by decide +kernel
theorem dY_walk_26 : decode cY_walk 26 = .ok (.iadd, 1) := by decide +kernel
theorem dY_walk_27 : decode cY_walk 27 = .ok (.bipush 8, 2) := by decide +kernel
theorem dY_walk_29 : decode cY_walk 29 = .ok (.invokevirtual 55, 3) := by decide +kernel
theorem dY_walk_32 : decode cY_walk 32 = .ok (.lstore 4, 2) := by decide +kernel
theorem dY_walk_34 : decode cY_walk 34 = .ok (.lload 4, 2) := by decide +kernel
theorem dY_walk_36 : decode cY_walk 36 = .ok (.lconst 1, 1) := by decide +kernel
theorem dY_walk_37 : decode cY_walk 37 = .ok (.land, 1) := by decide +kernel
theorem dY_walk_38 : decode cY_walk 38 = .ok (.lconst 0, 1) := by decide +kernel
theorem dY_walk_39 : decode cY_walk 39 = .ok (.lcmp, 1) := by decide +kernel
theorem dY_walk_40 : decode cY_walk 40 = .ok (.ifCond .ne 7, 3) := by decide +kernel
theorem dY_walk_43 : decode cY_walk 43 = .ok (.ldc2_w 59, 3) := by decide +kernel
theorem dY_walk_46 : decode cY_walk 46 = .ok (.lreturn, 1) := by decide +kernel
theorem dY_walk_47 : decode cY_walk 47 = .ok (.sipush 256, 3) := by decide +kernel
theorem dY_walk_50 : decode cY_walk 50 = .ok (.lload 4, 2) := by decide +kernel
theorem dY_walk_52 : decode cY_walk 52 = .ok (.invokestatic 61, 3) := by decide +kernel
theorem dY_walk_55 : decode cY_walk 55 = .ok (.imul, 1) := by decide +kernel
theorem dY_walk_56 : decode cY_walk 56 = .ok (.istore_n 2, 1) := by decide +kernel
theorem dY_walk_57 : decode cY_walk 57 = .ok (.iinc 3 1, 3) := by decide +kernel
theorem dY_walk_60 : decode cY_walk 60 = .ok (.goto (-53), 3) := by decide +kernel
theorem dY_walk_63 : decode cY_walk 63 = .ok (.aload_n 0, 1) := by decide +kernel
theorem dY_walk_64 : decode cY_walk 64 = .ok (.iload_n 2, 1) := by decide +kernel
theorem dY_walk_65 : decode cY_walk 65 = .ok (.bipush 8, 2) := by decide +kernel
theorem dY_walk_67 : decode cY_walk 67 = .ok (.iload_n 1, 1) := by decide +kernel
theorem dY_walk_68 : decode cY_walk 68 = .ok (.iconst 3, 1) := by decide +kernel
theorem dY_walk_69 : decode cY_walk 69 = .ok (.iand, 1) := by decide +kernel
theorem dY_walk_70 : decode cY_walk 70 = .ok (.imul, 1) := by decide +kernel
theorem dY_walk_71 : decode cY_walk 71 = .ok (.iadd, 1) := by decide +kernel
theorem dY_walk_72 : decode cY_walk 72 = .ok (.bipush 8, 2) := by decide +kernel
theorem dY_walk_74 : decode cY_walk 74 = .ok (.invokevirtual 55, 3) := by decide +kernel
theorem dY_walk_77 : decode cY_walk 77 = .ok (.lstore_n 3, 1) := by decide +kernel
theorem dY_walk_78 : decode cY_walk 78 = .ok (.lload_n 3, 1) := by decide +kernel
theorem dY_walk_79 : decode cY_walk 79 = .ok (.lconst 1, 1) := by decide +kernel
theorem dY_walk_80 : decode cY_walk 80 = .ok (.land, 1) := by decide +kernel
theorem dY_walk_81 : decode cY_walk 81 = .ok (.lconst 0, 1) := by decide +kernel
theorem dY_walk_82 : decode cY_walk 82 = .ok (.lcmp, 1) := by decide +kernel
theorem dY_walk_83 : decode cY_walk 83 = .ok (.ifCond .eq 9, 3) := by decide +kernel
theorem dY_walk_86 : decode cY_walk 86 = .ok (.aload_n 0, 1) := by decide +kernel
theorem dY_walk_87 : decode cY_walk 87 = .ok (.iload_n 1, 1) := by decide +kernel
theorem dY_walk_88 : decode cY_walk 88 = .ok (.lload_n 3, 1) := by decide +kernel
theorem dY_walk_89 : decode cY_walk 89 = .ok (.invokevirtual 65, 3) := by decide +kernel
theorem dY_walk_92 : decode cY_walk 92 = .ok (.lload_n 3, 1) := by decide +kernel
theorem dY_walk_93 : decode cY_walk 93 = .ok (.lreturn, 1) := by decide +kernel
theorem dY_translate_0 : decode cY_translate 0 = .ok (.lload_n 1, 1) := by decide +kernel
theorem dY_translate_1 : decode cY_translate 1 = .ok (.lconst 0, 1) := by decide +kernel
theorem dY_translate_2 : decode cY_translate 2 = .ok (.lcmp, 1) := by decide +kernel
theorem dY_translate_3 : decode cY_translate 3 = .ok (.ifCond .lt 27, 3) := by decide +kernel
theorem dY_translate_6 : decode cY_translate 6 = .ok (.lload_n 1, 1) := by decide +kernel
theorem dY_translate_7 : decode cY_translate 7 = .ok (.ldc2_w 69, 3) := by decide +kernel
theorem dY_translate_10 : decode cY_translate 10 = .ok (.lcmp, 1) := by decide +kernel
theorem dY_translate_11 : decode cY_translate 11 = .ok (.ifCond .gt 19, 3) := by decide +kernel
theorem dY_translate_14 : decode cY_translate 14 = .ok (.lload_n 1, 1) := by decide +kernel
theorem dY_translate_15 : decode cY_translate 15 = .ok (.ldc2_w 71, 3) := by decide +kernel
theorem dY_translate_18 : decode cY_translate 18 = .ok (.lcmp, 1) := by decide +kernel
theorem dY_translate_19 : decode cY_translate 19 = .ok (.ifCond .le 14, 3) := by decide +kernel
theorem dY_translate_22 : decode cY_translate 22 = .ok (.lload_n 1, 1) := by decide +kernel
theorem dY_translate_23 : decode cY_translate 23 = .ok (.ldc2_w 73, 3) := by decide +kernel
theorem dY_translate_26 : decode cY_translate 26 = .ok (.lcmp, 1) := by decide +kernel
theorem dY_translate_27 : decode cY_translate 27 = .ok (.ifCond .ge 6, 3) := by decide +kernel
theorem dY_translate_30 : decode cY_translate 30 = .ok (.bipush (-2), 2) := by decide +kernel
theorem dY_translate_32 : decode cY_translate 32 = .ok (.ireturn, 1) := by decide +kernel
theorem dY_translate_33 : decode cY_translate 33 = .ok (.lload_n 1, 1) := by decide +kernel
theorem dY_translate_34 : decode cY_translate 34 = .ok (.l2i, 1) := by decide +kernel
theorem dY_translate_35 : decode cY_translate 35 = .ok (.istore 4, 2) := by decide +kernel
theorem dY_translate_37 : decode cY_translate 37 = .ok (.iload 4, 2) := by decide +kernel
theorem dY_translate_39 : decode cY_translate 39 = .ok (.sipush 32767, 3) := by decide +kernel
theorem dY_translate_42 : decode cY_translate 42 = .ok (.if_icmp .le 28, 3) := by decide +kernel
theorem dY_translate_45 : decode cY_translate 45 = .ok (.iload 4, 2) := by decide +kernel
theorem dY_translate_47 : decode cY_translate 47 = .ok (.ldc 75, 2) := by decide +kernel
theorem dY_translate_49 : decode cY_translate 49 = .ok (.if_icmp .ge 18, 3) := by decide +kernel
theorem dY_translate_52 : decode cY_translate 52 = .ok (.aload_n 0, 1) := by decide +kernel
theorem dY_translate_53 : decode cY_translate 53 = .ok (.getfield 76, 3) := by decide +kernel
theorem dY_translate_56 : decode cY_translate 56 = .ok (.ifCond .ne 11, 3) := by decide +kernel
theorem dY_translate_59 : decode cY_translate 59 = .ok (.iload 4, 2) := by decide +kernel
theorem dY_translate_61 : decode cY_translate 61 = .ok (.ldc 79, 2) := by decide +kernel
theorem dY_translate_63 : decode cY_translate 63 = .ok (.isub, 1) := by decide +kernel
theorem dY_translate_64 : decode cY_translate 64 = .ok (.goto 5, 3) := by decide +kernel
theorem dY_translate_67 : decode cY_translate 67 = .ok (.bipush (-2), 2) := by decide +kernel
theorem dY_translate_69 : decode cY_translate 69 = .ok (.ireturn, 1) := by decide +kernel
theorem dY_translate_70 : decode cY_translate 70 = .ok (.iload 4, 2) := by decide +kernel
theorem dY_translate_72 : decode cY_translate 72 = .ok (.bipush 8, 2) := by decide +kernel
theorem dY_translate_74 : decode cY_translate 74 = .ok (.ishr, 1) := by decide +kernel
theorem dY_translate_75 : decode cY_translate 75 = .ok (.istore 5, 2) := by decide +kernel
theorem dY_translate_77 : decode cY_translate 77 = .ok (.aload_n 0, 1) := by decide +kernel
theorem dY_translate_78 : decode cY_translate 78 = .ok (.iload 5, 2) := by decide +kernel
theorem dY_translate_80 : decode cY_translate 80 = .ok (.invokevirtual 80, 3) := by decide +kernel
theorem dY_translate_83 : decode cY_translate 83 = .ok (.istore 6, 2) := by decide +kernel
theorem dY_translate_85 : decode cY_translate 85 = .ok (.iload 6, 2) := by decide +kernel
theorem dY_translate_87 : decode cY_translate 87 = .ok (.ifCond .lt 13, 3) := by decide +kernel
theorem dY_translate_90 : decode cY_translate 90 = .ok (.aload_n 0, 1) := by decide +kernel
theorem dY_translate_91 : decode cY_translate 91 = .ok (.getfield 36, 3) := by decide +kernel
theorem dY_translate_94 : decode cY_translate 94 = .ok (.iload 6, 2) := by decide +kernel
theorem dY_translate_96 : decode cY_translate 96 = .ok (.laload, 1) := by decide +kernel
theorem dY_translate_97 : decode cY_translate 97 = .ok (.goto 9, 3) := by decide +kernel
theorem dY_translate_100 : decode cY_translate 100 = .ok (.aload_n 0, 1) := by decide +kernel
theorem dY_translate_101 : decode cY_translate 101 = .ok (.iload 5, 2) := by decide +kernel
theorem dY_translate_103 : decode cY_translate 103 = .ok (.invokevirtual 83, 3) := by decide +kernel
theorem dY_translate_106 : decode cY_translate 106 = .ok (.lstore 7, 2) := by decide +kernel
theorem dY_translate_108 : decode cY_translate 108 = .ok (.iload_n 3, 1) := by decide +kernel
theorem dY_translate_109 : decode cY_translate 109 = .ok (.iconst 1, 1) := by decide +kernel
theorem dY_translate_110 : decode cY_translate 110 = .ok (.if_icmp .ne 8, 3) := by decide +kernel
theorem dY_translate_113 : decode cY_translate 113 = .ok (.bipush 6, 2) := by decide +kernel
theorem dY_translate_115 : decode cY_translate 115 = .ok (.goto 4, 3) := by decide +kernel
theorem dY_translate_118 : decode cY_translate 118 = .ok (.iconst 4, 1) := by decide +kernel
theorem dY_translate_119 : decode cY_translate 119 = .ok (.aload_n 0, 1) := by decide +kernel
theorem dY_translate_120 : decode cY_translate 120 = .ok (.getfield 76, 3) := by decide +kernel
theorem dY_translate_123 : decode cY_translate 123 = .ok (.iadd, 1) := by decide +kernel
theorem dY_translate_124 : decode cY_translate 124 = .ok (.istore 9, 2) := by decide +kernel
theorem dY_translate_126 : decode cY_translate 126 = .ok (.lload 7, 2) := by decide +kernel
theorem dY_translate_128 : decode cY_translate 128 = .ok (.iload 9, 2) := by decide +kernel
theorem dY_translate_130 : decode cY_translate 130 = .ok (.lshr, 1) := by decide +kernel
theorem dY_translate_131 : decode cY_translate 131 = .ok (.lconst 1, 1) := by decide +kernel
theorem dY_translate_132 : decode cY_translate 132 = .ok (.land, 1) := by decide +kernel
theorem dY_translate_133 : decode cY_translate 133 = .ok (.lconst 0, 1) := by decide +kernel
theorem dY_translate_134 : decode cY_translate 134 = .ok (.lcmp, 1) := by decide +kernel
theorem dY_translate_135 : decode cY_translate 135 = .ok (.ifCond .ne 6, 3) := by decide +kernel
theorem dY_translate_138 : decode cY_translate 138 = .ok (.bipush (-2), 2) := by decide +kernel
theorem dY_translate_140 : decode cY_translate 140 = .ok (.ireturn, 1) := by decide +kernel
theorem dY_translate_141 : decode cY_translate 141 = .ok (.lload 7, 2) := by decide +kernel
theorem dY_translate_143 : decode cY_translate 143 = .ok (.lconst 1, 1) := by decide +kernel
theorem dY_translate_144 : decode cY_translate 144 = .ok (.land, 1) := by decide +kernel
theorem dY_translate_145 : decode cY_translate 145 = .ok (.lconst 0, 1) := by decide +kernel
theorem dY_translate_146 : decode cY_translate 146 = .ok (.lcmp, 1) := by decide +kernel
theorem dY_translate_147 : decode cY_translate 147 = .ok (.ifCond .ne 5, 3) := by decide +kernel
theorem dY_translate_150 : decode cY_translate 150 = .ok (.iconst (-1), 1) := by decide +kernel
theorem dY_translate_151 : decode cY_translate 151 = .ok (.ireturn, 1) := by decide +kernel
theorem dY_translate_152 : decode cY_translate 152 = .ok (.iload_n 3, 1) := by decide +kernel
theorem dY_translate_153 : decode cY_translate 153 = .ok (.ifCond .ne 7, 3) := by decide +kernel
theorem dY_translate_156 : decode cY_translate 156 = .ok (.iconst 1, 1) := by decide +kernel
theorem dY_translate_157 : decode cY_translate 157 = .ok (.goto 13, 3) := by decide +kernel
theorem dY_translate_160 : decode cY_translate 160 = .ok (.iload_n 3, 1) := by decide +kernel
theorem dY_translate_161 : decode cY_translate 161 = .ok (.iconst 1, 1) := by decide +kernel
theorem dY_translate_162 : decode cY_translate 162 = .ok (.if_icmp .ne 7, 3) := by decide +kernel
theorem dY_translate_165 : decode cY_translate 165 = .ok (.iconst 2, 1) := by decide +kernel
theorem dY_translate_166 : decode cY_translate 166 = .ok (.goto 4, 3) := by decide +kernel
theorem dY_translate_169 : decode cY_translate 169 = .ok (.iconst 3, 1) := by decide +kernel
theorem dY_translate_170 : decode cY_translate 170 = .ok (.istore 10, 2) := by decide +kernel
theorem dY_translate_172 : decode cY_translate 172 = .ok (.lload 7, 2) := by decide +kernel
theorem dY_translate_174 : decode cY_translate 174 = .ok (.iload 10, 2) := by decide +kernel
theorem dY_translate_176 : decode cY_translate 176 = .ok (.lshr, 1) := by decide +kernel
theorem dY_translate_177 : decode cY_translate 177 = .ok (.lconst 1, 1) := by decide +kernel
theorem dY_translate_178 : decode cY_translate 178 = .ok (.land, 1) := by decide +kernel
theorem dY_translate_179 : decode cY_translate 179 = .ok (.lconst 1, 1) := by decide +kernel
theorem dY_translate_180 : decode cY_translate 180 = .ok (.lcmp, 1) := by decide +kernel
theorem dY_translate_181 : decode cY_translate 181 = .ok (.ifCond .ne 25, 3) := by decide +kernel
theorem dY_translate_184 : decode cY_translate 184 = .ok (.iload_n 3, 1) := by decide +kernel
theorem dY_translate_185 : decode cY_translate 185 = .ok (.ifCond .ne 8, 3) := by decide +kernel
theorem dY_translate_188 : decode cY_translate 188 = .ok (.bipush (-4), 2) := by decide +kernel
theorem dY_translate_190 : decode cY_translate 190 = .ok (.goto 15, 3) := by decide +kernel
theorem dY_translate_193 : decode cY_translate 193 = .ok (.iload_n 3, 1) := by decide +kernel
theorem dY_translate_194 : decode cY_translate 194 = .ok (.iconst 1, 1) := by decide +kernel
theorem dY_translate_195 : decode cY_translate 195 = .ok (.if_icmp .ne 8, 3) := by decide +kernel
theorem dY_translate_198 : decode cY_translate 198 = .ok (.bipush (-5), 2) := by decide +kernel
theorem dY_translate_200 : decode cY_translate 200 = .ok (.goto 5, 3) := by decide +kernel
theorem dY_translate_203 : decode cY_translate 203 = .ok (.bipush (-3), 2) := by decide +kernel
theorem dY_translate_205 : decode cY_translate 205 = .ok (.ireturn, 1) := by decide +kernel
theorem dY_translate_206 : decode cY_translate 206 = .ok (.sipush 256, 3) := by decide +kernel
theorem dY_translate_209 : decode cY_translate 209 = .ok (.lload 7, 2) := by decide +kernel
theorem dY_translate_211 : decode cY_translate 211 = .ok (.invokestatic 61, 3) := by decide +kernel
theorem dY_translate_214 : decode cY_translate 214 = .ok (.imul, 1) := by decide +kernel
theorem dY_translate_215 : decode cY_translate 215 = .ok (.iload 4, 2) := by decide +kernel
theorem dY_translate_217 : decode cY_translate 217 = .ok (.sipush 255, 3) := by decide +kernel
theorem dY_translate_220 : decode cY_translate 220 = .ok (.iand, 1) := by decide +kernel
theorem dY_translate_221 : decode cY_translate 221 = .ok (.iadd, 1) := by decide +kernel
theorem dY_translate_222 : decode cY_translate 222 = .ok (.ireturn, 1) := by decide +kernel
