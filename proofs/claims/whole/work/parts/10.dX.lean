theorem dX0_init_0 : decode cX0_init 0 = .ok (.aload_n 0, 1) := by decide +kernel
theorem dX0_init_1 : decode cX0_init 1 = .ok (.invokespecial 1, 3) := by decide +kernel
theorem dX0_init_4 : decode cX0_init 4 = .ok (.return_, 1) := by decide +kernel
theorem dX0_clear_0 : decode cX0_clear 0 = .ok (.aload_n 0, 1) := by decide +kernel
theorem dX0_clear_1 : decode cX0_clear 1 = .ok (.bipush (-2), 2) := by decide +kernel
theorem dX0_clear_3 : decode cX0_clear 3 = .ok (.putfield 9, 3) := by decide +kernel
theorem dX0_clear_6 : decode cX0_clear 6 = .ok (.return_, 1) := by decide +kernel
theorem dX0_comeBack_0 : decode cX0_comeBack 0 = .ok (.aload_n 0, 1) := by decide +kernel
theorem dX0_comeBack_1 : decode cX0_comeBack 1 = .ok (.iconst (-1), 1) := by decide +kernel
theorem dX0_comeBack_2 : decode cX0_comeBack 2 = .ok (.putfield 9, 3) := by decide +kernel
theorem dX0_comeBack_5 : decode cX0_comeBack 5 = .ok (.return_, 1) := by decide +kernel
theorem dX0_enter_0 : decode cX0_enter 0 = .ok (.aload_n 0, 1) := by decide +kernel
theorem dX0_enter_1 : decode cX0_enter 1 = .ok (.iload_n 1, 1) := by decide +kernel
theorem dX0_enter_2 : decode cX0_enter 2 = .ok (.putfield 9, 3) := by decide +kernel
theorem dX0_enter_5 : decode cX0_enter 5 = .ok (.aload_n 0, 1) := by decide +kernel
theorem dX0_enter_6 : decode cX0_enter 6 = .ok (.lload_n 2, 1) := by decide +kernel
theorem dX0_enter_7 : decode cX0_enter 7 = .ok (.putfield 13, 3) := by decide +kernel
theorem dX0_enter_10 : decode cX0_enter 10 = .ok (.aload_n 0, 1) := by decide +kernel
theorem dX0_enter_11 : decode cX0_enter 11 = .ok (.lload 4, 2) := by decide +kernel
theorem dX0_enter_13 : decode cX0_enter 13 = .ok (.putfield 17, 3) := by decide +kernel
theorem dX0_enter_16 : decode cX0_enter 16 = .ok (.aload_n 0, 1) := by decide +kernel
theorem dX0_enter_17 : decode cX0_enter 17 = .ok (.lload 6, 2) := by decide +kernel
theorem dX0_enter_19 : decode cX0_enter 19 = .ok (.putfield 20, 3) := by decide +kernel
theorem dX0_enter_22 : decode cX0_enter 22 = .ok (.aload_n 0, 1) := by decide +kernel
theorem dX0_enter_23 : decode cX0_enter 23 = .ok (.lload 8, 2) := by decide +kernel
theorem dX0_enter_25 : decode cX0_enter 25 = .ok (.putfield 23, 3) := by decide +kernel
theorem dX0_enter_28 : decode cX0_enter 28 = .ok (.return_, 1) := by decide +kernel
theorem dX1_init_0 : decode cX1_init 0 = .ok (.aload_n 0, 1) := by decide +kernel
theorem dX1_init_1 : decode cX1_init 1 = .ok (.invokespecial 1, 3) := by decide +kernel
theorem dX1_init_4 : decode cX1_init 4 = .ok (.aload_n 0, 1) := by decide +kernel
theorem dX1_init_5 : decode cX1_init 5 = .ok (.iconst 4, 1) := by decide +kernel
theorem dX1_init_6 : decode cX1_init 6 = .ok (.newarray .int, 2) := by decide +kernel
theorem dX1_init_8 : decode cX1_init 8 = .ok (.putfield 9, 3) := by decide +kernel
theorem dX1_init_11 : decode cX1_init 11 = .ok (.aload_n 0, 1) := by decide +kernel
theorem dX1_init_12 : decode cX1_init 12 = .ok (.iconst 4, 1) := by decide +kernel
theorem dX1_init_13 : decode cX1_init 13 = .ok (.newarray .int, 2) := by decide +kernel
theorem dX1_init_15 : decode cX1_init 15 = .ok (.putfield 13, 3) := by decide +kernel
theorem dX1_init_18 : decode cX1_init 18 = .ok (.return_, 1) := by decide +kernel
theorem dX1_add_0 : decode cX1_add 0 = .ok (.aload_n 0, 1) := by decide +kernel
theorem dX1_add_1 : decode cX1_add 1 = .ok (.getfield 16, 3) := by decide +kernel
theorem dX1_add_4 : decode cX1_add 4 = .ok (.iconst 4, 1) := by decide +kernel
theorem dX1_add_5 : decode cX1_add 5 = .ok (.if_icmp .lt 5, 3) := by decide +kernel
theorem dX1_add_8 : decode cX1_add 8 = .ok (.iconst 0, 1) := by decide +kernel
theorem dX1_add_9 : decode cX1_add 9 = .ok (.ireturn, 1) := by decide +kernel
theorem dX1_add_10 : decode cX1_add 10 = .ok (.aload_n 0, 1) := by decide +kernel
theorem dX1_add_11 : decode cX1_add 11 = .ok (.getfield 9, 3) := by decide +kernel
theorem dX1_add_14 : decode cX1_add 14 = .ok (.aload_n 0, 1) := by decide +kernel
theorem dX1_add_15 : decode cX1_add 15 = .ok (.getfield 16, 3) := by decide +kernel
theorem dX1_add_18 : decode cX1_add 18 = .ok (.iload_n 1, 1) := by decide +kernel
theorem dX1_add_19 : decode cX1_add 19 = .ok (.iastore, 1) := by decide +kernel
theorem dX1_add_20 : decode cX1_add 20 = .ok (.aload_n 0, 1) := by decide +kernel
theorem dX1_add_21 : decode cX1_add 21 = .ok (.getfield 13, 3) := by decide +kernel
theorem dX1_add_24 : decode cX1_add 24 = .ok (.aload_n 0, 1) := by decide +kernel
theorem dX1_add_25 : decode cX1_add 25 = .ok (.getfield 16, 3) := by decide +kernel
theorem dX1_add_28 : decode cX1_add 28 = .ok (.iload_n 2, 1) := by decide +kernel
theorem dX1_add_29 : decode cX1_add 29 = .ok (.iastore, 1) := by decide +kernel
theorem dX1_add_30 : decode cX1_add 30 = .ok (.aload_n 0, 1) := by decide +kernel
theorem dX1_add_31 : decode cX1_add 31 = .ok (.dup, 1) := by decide +kernel
theorem dX1_add_32 : decode cX1_add 32 = .ok (.getfield 16, 3) := by decide +kernel
theorem dX1_add_35 : decode cX1_add 35 = .ok (.iconst 1, 1) := by decide +kernel
theorem dX1_add_36 : decode cX1_add 36 = .ok (.iadd, 1) := by decide +kernel
theorem dX1_add_37 : decode cX1_add 37 = .ok (.putfield 16, 3) := by decide +kernel
theorem dX1_add_40 : decode cX1_add 40 = .ok (.iconst 1, 1) := by decide +kernel
theorem dX1_add_41 : decode cX1_add 41 = .ok (.ireturn, 1) := by decide +kernel
theorem dX1_takeAbove_0 : decode cX1_takeAbove 0 = .ok (.iconst (-1), 1) := by decide +kernel
theorem dX1_takeAbove_1 : decode cX1_takeAbove 1 = .ok (.istore_n 2, 1) := by decide +kernel
theorem dX1_takeAbove_2 : decode cX1_takeAbove 2 = .ok (.iload_n 1, 1) := by decide +kernel
theorem dX1_takeAbove_3 : decode cX1_takeAbove 3 = .ok (.istore_n 3, 1) := by decide +kernel
theorem dX1_takeAbove_4 : decode cX1_takeAbove 4 = .ok (.iconst 0, 1) := by decide +kernel
theorem dX1_takeAbove_5 : decode cX1_takeAbove 5 = .ok (.istore 4, 2) := by decide +kernel
theorem dX1_takeAbove_7 : decode cX1_takeAbove 7 = .ok (.iload 4, 2) := by decide +kernel
theorem dX1_takeAbove_9 : decode cX1_takeAbove 9 = .ok (.aload_n 0, 1) := by decide +kernel
theorem dX1_takeAbove_10 : decode cX1_takeAbove 10 = .ok (.getfield 16, 3) := by decide +kernel
theorem dX1_takeAbove_13 : decode cX1_takeAbove 13 = .ok (.if_icmp .ge 31, 3) := by decide +kernel
theorem dX1_takeAbove_16 : decode cX1_takeAbove 16 = .ok (.aload_n 0, 1) := by decide +kernel
theorem dX1_takeAbove_17 : decode cX1_takeAbove 17 = .ok (.getfield 9, 3) := by decide +kernel
theorem dX1_takeAbove_20 : decode cX1_takeAbove 20 = .ok (.iload 4, 2) := by decide +kernel
theorem dX1_takeAbove_22 : decode cX1_takeAbove 22 = .ok (.iaload, 1) := by decide +kernel
theorem dX1_takeAbove_23 : decode cX1_takeAbove 23 = .ok (.iload_n 3, 1) := by decide +kernel
theorem dX1_takeAbove_24 : decode cX1_takeAbove 24 = .ok (.if_icmp .le 14, 3) := by decide +kernel
theorem dX1_takeAbove_27 : decode cX1_takeAbove 27 = .ok (.iload 4, 2) := by decide +kernel
theorem dX1_takeAbove_29 : decode cX1_takeAbove 29 = .ok (.istore_n 2, 1) := by decide +kernel
theorem dX1_takeAbove_30 : decode cX1_takeAbove 30 = .ok (.aload_n 0, 1) := by decide +kernel
theorem dX1_takeAbove_31 : decode cX1_takeAbove 31 = .ok (.getfield 9, 3) := by decide +kernel
theorem dX1_takeAbove_34 : decode cX1_takeAbove 34 = .ok (.iload 4, 2) := by decide +kernel
theorem dX1_takeAbove_36 : decode cX1_takeAbove 36 = .ok (.iaload, 1) := by decide +kernel
theorem dX1_takeAbove_37 : decode cX1_takeAbove 37 = .ok (.istore_n 3, 1) := by decide +kernel
theorem dX1_takeAbove_38 : decode cX1_takeAbove 38 = .ok (.iinc 4 1, 3) := by decide +kernel
theorem dX1_takeAbove_41 : decode cX1_takeAbove 41 = .ok (.goto (-34), 3) := by decide +kernel
theorem dX1_takeAbove_44 : decode cX1_takeAbove 44 = .ok (.iload_n 2, 1) := by decide +kernel
theorem dX1_takeAbove_45 : decode cX1_takeAbove 45 = .ok (.ifCond .ge 5, 3) := by decide +kernel
theorem dX1_takeAbove_48 : decode cX1_takeAbove 48 = .ok (.iconst (-1), 1) := by decide +kernel
theorem dX1_takeAbove_49 : decode cX1_takeAbove 49 = .ok (.ireturn, 1) := by decide +kernel
theorem dX1_takeAbove_50 : decode cX1_takeAbove 50 = .ok (.sipush 256, 3) := by decide +kernel
theorem dX1_takeAbove_53 : decode cX1_takeAbove 53 = .ok (.iload_n 3, 1) := by decide +kernel
theorem dX1_takeAbove_54 : decode cX1_takeAbove 54 = .ok (.imul, 1) := by decide +kernel
theorem dX1_takeAbove_55 : decode cX1_takeAbove 55 = .ok (.aload_n 0, 1) := by decide +kernel
theorem dX1_takeAbove_56 : decode cX1_takeAbove 56 = .ok (.getfield 13, 3) := by decide +kernel
theorem dX1_takeAbove_59 : decode cX1_takeAbove 59 = .ok (.iload_n 2, 1) := by decide +kernel
theorem dX1_takeAbove_60 : decode cX1_takeAbove 60 = .ok (.iaload, 1) := by decide +kernel
theorem dX1_takeAbove_61 : decode cX1_takeAbove 61 = .ok (.iadd, 1) := by decide +kernel
theorem dX1_takeAbove_62 : decode cX1_takeAbove 62 = .ok (.istore 4, 2) := by decide +kernel
theorem dX1_takeAbove_64 : decode cX1_takeAbove 64 = .ok (.aload_n 0, 1) := by decide +kernel
theorem dX1_takeAbove_65 : decode cX1_takeAbove 65 = .ok (.iload_n 2, 1) := by decide +kernel
theorem dX1_takeAbove_66 : decode cX1_takeAbove 66 = .ok (.invokevirtual 20, 3) := by decide +kernel
theorem dX1_takeAbove_69 : decode cX1_takeAbove 69 = .ok (.iload 4, 2) := by decide +kernel
theorem dX1_takeAbove_71 : decode cX1_takeAbove 71 = .ok (.ireturn, 1) := by decide +kernel
theorem dX1_remove_0 : decode cX1_remove 0 = .ok (.aload_n 0, 1) := by decide +kernel
theorem dX1_remove_1 : decode cX1_remove 1 = .ok (.dup, 1) := by decide +kernel
theorem dX1_remove_2 : decode cX1_remove 2 = .ok (.getfield 16, 3) := by decide +kernel
theorem dX1_remove_5 : decode cX1_remove 5 = .ok (.iconst 1, 1) := by decide +kernel
theorem dX1_remove_6 : decode cX1_remove 6 = .ok (.isub, 1) := by decide +kernel
theorem dX1_remove_7 : decode cX1_remove 7 = .ok (.putfield 16, 3) := by decide +kernel
theorem dX1_remove_10 : decode cX1_remove 10 = .ok (.iload_n 1, 1) := by decide +kernel
theorem dX1_remove_11 : decode cX1_remove 11 = .ok (.istore_n 2, 1) := by decide +kernel
theorem dX1_remove_12 : decode cX1_remove 12 = .ok (.iload_n 2, 1) := by decide +kernel
theorem dX1_remove_13 : decode cX1_remove 13 = .ok (.aload_n 0, 1) := by decide +kernel
theorem dX1_remove_14 : decode cX1_remove 14 = .ok (.getfield 16, 3) := by decide +kernel
theorem dX1_remove_17 : decode cX1_remove 17 = .ok (.if_icmp .ge 37, 3) := by decide +kernel
theorem dX1_remove_20 : decode cX1_remove 20 = .ok (.aload_n 0, 1) := by decide +kernel
theorem dX1_remove_21 : decode cX1_remove 21 = .ok (.getfield 9, 3) := by decide +kernel
theorem dX1_remove_24 : decode cX1_remove 24 = .ok (.iload_n 2, 1) := by decide +kernel
theorem dX1_remove_25 : decode cX1_remove 25 = .ok (.aload_n 0, 1) := by decide +kernel
theorem dX1_remove_26 : decode cX1_remove 26 = .ok (.getfield 9, 3) := by decide +kernel
theorem dX1_remove_29 : decode cX1_remove 29 = .ok (.iload_n 2, 1) := by decide +kernel
theorem dX1_remove_30 : decode cX1_remove 30 = .ok (.iconst 1, 1) := by decide +kernel
theorem dX1_remove_31 : decode cX1_remove 31 = .ok (.iadd, 1) := by decide +kernel
theorem dX1_remove_32 : decode cX1_remove 32 = .ok (.iaload, 1) := by decide +kernel
theorem dX1_remove_33 : decode cX1_remove 33 = .ok (.iastore, 1) := by decide +kernel
theorem dX1_remove_34 : decode cX1_remove 34 = .ok (.aload_n 0, 1) := by decide +kernel
theorem dX1_remove_35 : decode cX1_remove 35 = .ok (.getfield 13, 3) := by decide +kernel
theorem dX1_remove_38 : decode cX1_remove 38 = .ok (.iload_n 2, 1) := by decide +kernel
theorem dX1_remove_39 : decode cX1_remove 39 = .ok (.aload_n 0, 1) := by decide +kernel
theorem dX1_remove_40 : decode cX1_remove 40 = .ok (.getfield 13, 3) := by decide +kernel
theorem dX1_remove_43 : decode cX1_remove 43 = .ok (.iload_n 2, 1) := by decide +kernel
theorem dX1_remove_44 : decode cX1_remove 44 = .ok (.iconst 1, 1) := by decide +kernel
theorem dX1_remove_45 : decode cX1_remove 45 = .ok (.iadd, 1) := by decide +kernel
theorem dX1_remove_46 : decode cX1_remove 46 = .ok (.iaload, 1) := by decide +kernel
theorem dX1_remove_47 : decode cX1_remove 47 = .ok (.iastore, 1) := by decide +kernel
theorem dX1_remove_48 : decode cX1_remove 48 = .ok (.iinc 2 1, 3) := by decide +kernel
theorem dX1_remove_51 : decode cX1_remove 51 = .ok (.goto (-39), 3) := by decide +kernel
theorem dX1_remove_54 : decode cX1_remove 54 = .ok (.return_, 1) := by decide +kernel
theorem dX2_init_0 : decode cX2_init 0 = .ok (.aload_n 0, 1) := by decide +kernel
theorem dX2_init_1 : decode cX2_init 1 = .ok (.invokespecial 3, 3) := by decide +kernel
theorem dX2_init_4 : decode cX2_init 4 = .ok (.aload_n 0, 1) := by decide +kernel
theorem dX2_init_5 : decode cX2_init 5 = .ok (.sipush 512, 3) := by decide +kernel
theorem dX2_init_8 : decode cX2_init 8 = .ok (.newarray .long, 2) := by decide +kernel
theorem dX2_init_10 : decode cX2_init 10 = .ok (.putfield 9, 3) := by decide +kernel
theorem dX2_init_13 : decode cX2_init 13 = .ok (.aload_n 0, 1) := by decide +kernel
theorem dX2_init_14 : decode cX2_init 14 = .ok (.iconst 4, 1) := by decide +kernel
theorem dX2_init_15 : decode cX2_init 15 = .ok (.newarray .int, 2) := by decide +kernel
theorem dX2_init_17 : decode cX2_init 17 = .ok (.putfield 15, 3) := by decide +kernel
theorem dX2_init_20 : decode cX2_init 20 = .ok (.aload_n 0, 1) := by decide +kernel
theorem dX2_init_21 : decode cX2_init 21 = .ok (.iconst 4, 1) := by decide +kernel
theorem dX2_init_22 : decode cX2_init 22 = .ok (.newarray .int, 2) := by decide +kernel
theorem dX2_init_24 : decode cX2_init 24 = .ok (.putfield 19, 3) := by decide +kernel
theorem dX2_init_27 : decode cX2_init 27 = .ok (.aload_n 0, 1) := by decide +kernel
theorem dX2_init_28 : decode cX2_init 28 = .ok (.iconst 4, 1) := by decide +kernel
theorem dX2_init_29 : decode cX2_init 29 = .ok (.newarray .long, 2) := by decide +kernel
theorem dX2_init_31 : decode cX2_init 31 = .ok (.putfield 22, 3) := by decide +kernel
theorem dX2_init_34 : decode cX2_init 34 = .ok (.return_, 1) := by decide +kernel
theorem dX2_load_0 : decode cX2_load 0 = .ok (.aload_n 0, 1) := by decide +kernel
theorem dX2_load_1 : decode cX2_load 1 = .ok (.getfield 9, 3) := by decide +kernel
theorem dX2_load_4 : decode cX2_load 4 = .ok (.iload_n 1, 1) := by decide +kernel
theorem dX2_load_5 : decode cX2_load 5 = .ok (.iconst 3, 1) := by decide +kernel
theorem dX2_load_6 : decode cX2_load 6 = .ok (.ishr, 1) := by decide +kernel
theorem dX2_load_7 : decode cX2_load 7 = .ok (.laload, 1) := by decide +kernel
theorem dX2_load_8 : decode cX2_load 8 = .ok (.lstore_n 3, 1) := by decide +kernel
theorem dX2_load_9 : decode cX2_load 9 = .ok (.iload_n 2, 1) := by decide +kernel
theorem dX2_load_10 : decode cX2_load 10 = .ok (.ifCond .eq 7, 3) := by decide +kernel
theorem dX2_load_13 : decode cX2_load 13 = .ok (.lload_n 3, 1) := by decide +kernel
theorem dX2_load_14 : decode cX2_load 14 = .ok (.goto 13, 3) := by decide +kernel
theorem dX2_load_17 : decode cX2_load 17 = .ok (.lload_n 3, 1) := by decide +kernel
theorem dX2_load_18 : decode cX2_load 18 = .ok (.bipush 8, 2) := by decide +kernel
theorem dX2_load_20 : decode cX2_load 20 = .ok (.iload_n 1, 1) := by decide +kernel
theorem dX2_load_21 : decode cX2_load 21 = .ok (.iconst 4, 1) := by decide +kernel
theorem dX2_load_22 : decode cX2_load 22 = .ok (.iand, 1) := by decide +kernel
theorem dX2_load_23 : decode cX2_load 23 = .ok (.imul, 1) := by decide +kernel
theorem dX2_load_24 : decode cX2_load 24 = .ok (.lushr, 1) := by decide +kernel
theorem dX2_load_25 : decode cX2_load 25 = .ok (.l2i, 1) := by decide +kernel
theorem dX2_load_26 : decode cX2_load 26 = .ok (.i2l, 1) := by decide +kernel
theorem dX2_load_27 : decode cX2_load 27 = .ok (.lreturn, 1) := by decide +kernel
theorem dX2_store_0 : decode cX2_store 0 = .ok (.bipush 8, 2) := by decide +kernel
theorem dX2_store_2 : decode cX2_store 2 = .ok (.iload_n 1, 1) := by decide +kernel
theorem dX2_store_3 : decode cX2_store 3 = .ok (.iconst 4, 1) := by decide +kernel
theorem dX2_store_4 : decode cX2_store 4 = .ok (.iand, 1) := by decide +kernel
theorem dX2_store_5 : decode cX2_store 5 = .ok (.imul, 1) := by decide +kernel
theorem dX2_store_6 : decode cX2_store 6 = .ok (.istore 5, 2) := by decide +kernel
theorem dX2_store_8 : decode cX2_store 8 = .ok (.iload_n 2, 1) := by decide +kernel
theorem dX2_store_9 : decode cX2_store 9 = .ok (.ifCond .eq 9, 3) := by decide +kernel
theorem dX2_store_12 : decode cX2_store 12 = .ok (.ldc2_w 25, 3) := by decide +kernel
theorem dX2_store_15 : decode cX2_store 15 = .ok (.goto 9, 3) := by decide +kernel
theorem dX2_store_18 : decode cX2_store 18 = .ok (.ldc2_w 27, 3) := by decide +kernel
theorem dX2_store_21 : decode cX2_store 21 = .ok (.iload 5, 2) := by decide +kernel
theorem dX2_store_23 : decode cX2_store 23 = .ok (.lshl, 1) := by decide +kernel
theorem dX2_store_24 : decode cX2_store 24 = .ok (.lstore 6, 2) := by decide +kernel
theorem dX2_store_26 : decode cX2_store 26 = .ok (.iload_n 2, 1) := by decide +kernel
theorem dX2_store_27 : decode cX2_store 27 = .ok (.ifCond .eq 7, 3) := by decide +kernel
theorem dX2_store_30 : decode cX2_store 30 = .ok (.lload_n 3, 1) := by decide +kernel
theorem dX2_store_31 : decode cX2_store 31 = .ok (.goto 7, 3) := by decide +kernel
theorem dX2_store_34 : decode cX2_store 34 = .ok (.lload_n 3, 1) := by decide +kernel
theorem dX2_store_35 : decode cX2_store 35 = .ok (.iload 5, 2) := by decide +kernel
theorem dX2_store_37 : decode cX2_store 37 = .ok (.lshl, 1) := by decide +kernel
theorem dX2_store_38 : decode cX2_store 38 = .ok (.lstore 8, 2) := by decide +kernel
theorem dX2_store_40 : decode cX2_store 40 = .ok (.aload_n 0, 1) := by decide +kernel
theorem dX2_store_41 : decode cX2_store 41 = .ok (.getfield 9, 3) := by decide +kernel
theorem dX2_store_44 : decode cX2_store 44 = .ok (.iload_n 1, 1) := by decide +kernel
theorem dX2_store_45 : decode cX2_store 45 = .ok (.iconst 3, 1) := by decide +kernel
theorem dX2_store_46 : decode cX2_store 46 = .ok (.ishr, 1) := by decide +kernel
theorem dX2_store_47 : decode cX2_store 47 = .ok (.aload_n 0, 1) := by decide +kernel
theorem dX2_store_48 : decode cX2_store 48 = .ok (.getfield 9, 3) := by decide +kernel
theorem dX2_store_51 : decode cX2_store 51 = .ok (.iload_n 1, 1) := by decide +kernel
theorem dX2_store_52 : decode cX2_store 52 = .ok (.iconst 3, 1) := by decide +kernel
theorem dX2_store_53 : decode cX2_store 53 = .ok (.ishr, 1) := by decide +kernel
theorem dX2_store_54 : decode cX2_store 54 = .ok (.laload, 1) := by decide +kernel
theorem dX2_store_55 : decode cX2_store 55 = .ok (.lload 6, 2) := by decide +kernel
theorem dX2_store_57 : decode cX2_store 57 = .ok (.ldc2_w 25, 3) := by decide +kernel
theorem dX2_store_60 : decode cX2_store 60 = .ok (.lxor, 1) := by decide +kernel
theorem dX2_store_61 : decode cX2_store 61 = .ok (.land, 1) := by decide +kernel
theorem dX2_store_62 : decode cX2_store 62 = .ok (.lload 8, 2) := by decide +kernel
theorem dX2_store_64 : decode cX2_store 64 = .ok (.lload 6, 2) := by decide +kernel
theorem dX2_store_66 : decode cX2_store 66 = .ok (.land, 1) := by decide +kernel
theorem dX2_store_67 : decode cX2_store 67 = .ok (.lor, 1) := by decide +kernel
theorem dX2_store_68 : decode cX2_store 68 = .ok (.lastore, 1) := by decide +kernel
theorem dX2_store_69 : decode cX2_store 69 = .ok (.return_, 1) := by decide +kernel
theorem dX2_emptyBuffer_0 : decode cX2_emptyBuffer 0 = .ok (.aload_n 0, 1) := by decide +kernel
theorem dX2_emptyBuffer_1 : decode cX2_emptyBuffer 1 = .ok (.iconst 0, 1) := by decide +kernel
theorem dX2_emptyBuffer_2 : decode cX2_emptyBuffer 2 = .ok (.putfield 29, 3) := by decide +kernel
theorem dX2_emptyBuffer_5 : decode cX2_emptyBuffer 5 = .ok (.aload_n 0, 1) := by decide +kernel
theorem dX2_emptyBuffer_6 : decode cX2_emptyBuffer 6 = .ok (.iconst 0, 1) := by decide +kernel
theorem dX2_emptyBuffer_7 : decode cX2_emptyBuffer 7 = .ok (.putfield 33, 3) := by decide +kernel
theorem dX2_emptyBuffer_10 : decode cX2_emptyBuffer 10 = .ok (.return_, 1) := by decide +kernel
theorem dX2_faulted_0 : decode cX2_faulted 0 = .ok (.iconst (-1), 1) := by decide +kernel
theorem dX2_faulted_1 : decode cX2_faulted 1 = .ok (.iload_n 0, 1) := by decide +kernel
theorem dX2_faulted_2 : decode cX2_faulted 2 = .ok (.isub, 1) := by decide +kernel
theorem dX2_faulted_3 : decode cX2_faulted 3 = .ok (.ireturn, 1) := by decide +kernel
theorem dX2_faultOf_0 : decode cX2_faultOf 0 = .ok (.iconst (-1), 1) := by decide +kernel
theorem dX2_faultOf_1 : decode cX2_faultOf 1 = .ok (.iload_n 0, 1) := by decide +kernel
theorem dX2_faultOf_2 : decode cX2_faultOf 2 = .ok (.isub, 1) := by decide +kernel
theorem dX2_faultOf_3 : decode cX2_faultOf 3 = .ok (.ireturn, 1) := by decide +kernel
theorem dX2_place_0 : decode cX2_place 0 = .ok (.lload_n 1, 1) := by decide +kernel
theorem dX2_place_1 : decode cX2_place 1 = .ok (.lconst 0, 1) := by decide +kernel
theorem dX2_place_2 : decode cX2_place 2 = .ok (.lcmp, 1) := by decide +kernel
theorem dX2_place_3 : decode cX2_place 3 = .ok (.ifCond .lt 11, 3) := by decide +kernel
theorem dX2_place_6 : decode cX2_place 6 = .ok (.lload_n 1, 1) := by decide +kernel
theorem dX2_place_7 : decode cX2_place 7 = .ok (.ldc2_w 36, 3) := by decide +kernel
theorem dX2_place_10 : decode cX2_place 10 = .ok (.lcmp, 1) := by decide +kernel
theorem dX2_place_11 : decode cX2_place 11 = .ok (.ifCond .lt 10, 3) := by decide +kernel
theorem dX2_place_14 : decode cX2_place 14 = .ok (.lload_n 1, 1) := by decide +kernel
theorem dX2_place_15 : decode cX2_place 15 = .ok (.iload 4, 2) := by decide +kernel
theorem dX2_place_17 : decode cX2_place 17 = .ok (.invokestatic 38, 3) := by decide +kernel
theorem dX2_place_20 : decode cX2_place 20 = .ok (.ireturn, 1) := by decide +kernel
theorem dX2_place_21 : decode cX2_place 21 = .ok (.lload_n 1, 1) := by decide +kernel
theorem dX2_place_22 : decode cX2_place 22 = .ok (.l2i, 1) := by decide +kernel
theorem dX2_place_23 : decode cX2_place 23 = .ok (.bipush 8, 2) := by decide +kernel
theorem dX2_place_25 : decode cX2_place 25 = .ok (.ishr, 1) := by decide +kernel
theorem dX2_place_26 : decode cX2_place 26 = .ok (.istore 5, 2) := by decide +kernel
theorem dX2_place_28 : decode cX2_place 28 = .ok (.aload_n 0, 1) := by decide +kernel
theorem dX2_place_29 : decode cX2_place 29 = .ok (.iload 5, 2) := by decide +kernel
theorem dX2_place_31 : decode cX2_place 31 = .ok (.invokevirtual 42, 3) := by decide +kernel
theorem dX2_place_34 : decode cX2_place 34 = .ok (.istore 6, 2) := by decide +kernel
theorem dX2_place_36 : decode cX2_place 36 = .ok (.iload 6, 2) := by decide +kernel
theorem dX2_place_38 : decode cX2_place 38 = .ok (.ifCond .lt 13, 3) := by decide +kernel
theorem dX2_place_41 : decode cX2_place 41 = .ok (.aload_n 0, 1) := by decide +kernel
theorem dX2_place_42 : decode cX2_place 42 = .ok (.getfield 22, 3) := by decide +kernel
theorem dX2_place_45 : decode cX2_place 45 = .ok (.iload 6, 2) := by decide +kernel
theorem dX2_place_47 : decode cX2_place 47 = .ok (.laload, 1) := by decide +kernel
theorem dX2_place_48 : decode cX2_place 48 = .ok (.goto 9, 3) := by decide +kernel
theorem dX2_place_51 : decode cX2_place 51 = .ok (.aload_n 0, 1) := by decide +kernel
theorem dX2_place_52 : decode cX2_place 52 = .ok (.iload 5, 2) := by decide +kernel
theorem dX2_place_54 : decode cX2_place 54 = .ok (.invokevirtual 46, 3) := by decide +kernel
theorem dX2_place_57 : decode cX2_place 57 = .ok (.lstore 7, 2) := by decide +kernel
theorem dX2_place_59 : decode cX2_place 59 = .ok (.lload 7, 2) := by decide +kernel
theorem dX2_place_61 : decode cX2_place 61 = .ok (.iload_n 3, 1) := by decide +kernel
theorem dX2_place_62 : decode cX2_place 62 = .ok (.iload 4, 2) := by decide +kernel
theorem dX2_place_64 : decode cX2_place 64 = .ok (.invokestatic 50, 3) := by decide +kernel
theorem dX2_place_67 : decode cX2_place 67 = .ok (.istore 9, 2) := by decide +kernel
theorem dX2_place_69 : decode cX2_place 69 = .ok (.iload 9, 2) := by decide +kernel
theorem dX2_place_71 : decode cX2_place 71 = .ok (.ifCond .lt 11, 3) := by decide +kernel
theorem dX2_place_74 : decode cX2_place 74 = .ok (.iload 9, 2) := by decide +kernel
theorem dX2_place_76 : decode cX2_place 76 = .ok (.invokestatic 54, 3) := by decide +kernel
theorem dX2_place_79 : decode cX2_place 79 = .ok (.goto 19, 3) := by decide +kernel
theorem dX2_place_82 : decode cX2_place 82 = .ok (.sipush 256, 3) := by decide +kernel
theorem dX2_place_85 : decode cX2_place 85 = .ok (.lload 7, 2) := by decide +kernel
theorem dX2_place_87 : decode cX2_place 87 = .ok (.invokestatic 57, 3) := by decide +kernel
theorem dX2_place_90 : decode cX2_place 90 = .ok (.imul, 1) := by decide +kernel
theorem dX2_place_91 : decode cX2_place 91 = .ok (.lload_n 1, 1) := by decide +kernel
theorem dX2_place_92 : decode cX2_place 92 = .ok (.l2i, 1) := by decide +kernel
theorem dX2_place_93 : decode cX2_place 93 = .ok (.sipush 255, 3) := by decide +kernel
theorem dX2_place_96 : decode cX2_place 96 = .ok (.iand, 1) := by decide +kernel
theorem dX2_place_97 : decode cX2_place 97 = .ok (.iadd, 1) := by decide +kernel
theorem dX2_place_98 : decode cX2_place 98 = .ok (.ireturn, 1) := by decide +kernel
theorem dX2_directPlace_0 : decode cX2_directPlace 0 = .ok (.lload_n 0, 1) := by decide +kernel
theorem dX2_directPlace_1 : decode cX2_directPlace 1 = .ok (.ldc2_w 61, 3) := by decide +kernel
theorem dX2_directPlace_4 : decode cX2_directPlace 4 = .ok (.lcmp, 1) := by decide +kernel
theorem dX2_directPlace_5 : decode cX2_directPlace 5 = .ok (.ifCond .lt 15, 3) := by decide +kernel
theorem dX2_directPlace_8 : decode cX2_directPlace 8 = .ok (.lload_n 0, 1) := by decide +kernel
theorem dX2_directPlace_9 : decode cX2_directPlace 9 = .ok (.ldc2_w 63, 3) := by decide +kernel
theorem dX2_directPlace_12 : decode cX2_directPlace 12 = .ok (.lcmp, 1) := by decide +kernel
theorem dX2_directPlace_13 : decode cX2_directPlace 13 = .ok (.ifCond .ge 7, 3) := by decide +kernel
theorem dX2_directPlace_16 : decode cX2_directPlace 16 = .ok (.iconst 1, 1) := by decide +kernel
theorem dX2_directPlace_17 : decode cX2_directPlace 17 = .ok (.goto 4, 3) := by decide +kernel
theorem dX2_directPlace_20 : decode cX2_directPlace 20 = .ok (.iconst 0, 1) := by decide +kernel
theorem dX2_directPlace_21 : decode cX2_directPlace 21 = .ok (.istore_n 3, 1) := by decide +kernel
theorem dX2_directPlace_22 : decode cX2_directPlace 22 = .ok (.iload_n 3, 1) := by decide +kernel
theorem dX2_directPlace_23 : decode cX2_directPlace 23 = .ok (.ifCond .eq 15, 3) := by decide +kernel
theorem dX2_directPlace_26 : decode cX2_directPlace 26 = .ok (.iload_n 2, 1) := by decide +kernel
theorem dX2_directPlace_27 : decode cX2_directPlace 27 = .ok (.ifCond .ne 11, 3) := by decide +kernel
theorem dX2_directPlace_30 : decode cX2_directPlace 30 = .ok (.lload_n 0, 1) := by decide +kernel
theorem dX2_directPlace_31 : decode cX2_directPlace 31 = .ok (.l2i, 1) := by decide +kernel
theorem dX2_directPlace_32 : decode cX2_directPlace 32 = .ok (.ldc 65, 2) := by decide +kernel
theorem dX2_directPlace_34 : decode cX2_directPlace 34 = .ok (.isub, 1) := by decide +kernel
theorem dX2_directPlace_35 : decode cX2_directPlace 35 = .ok (.goto 7, 3) := by decide +kernel
theorem dX2_directPlace_38 : decode cX2_directPlace 38 = .ok (.iconst 1, 1) := by decide +kernel
theorem dX2_directPlace_39 : decode cX2_directPlace 39 = .ok (.invokestatic 54, 3) := by decide +kernel
theorem dX2_directPlace_42 : decode cX2_directPlace 42 = .ok (.ireturn, 1) := by decide +kernel
theorem dX2_find_0 : decode cX2_find 0 = .ok (.iconst 0, 1) := by decide +kernel
theorem dX2_find_1 : decode cX2_find 1 = .ok (.istore_n 2, 1) := by decide +kernel
theorem dX2_find_2 : decode cX2_find 2 = .ok (.iload_n 2, 1) := by decide +kernel
theorem dX2_find_3 : decode cX2_find 3 = .ok (.aload_n 0, 1) := by decide +kernel
theorem dX2_find_4 : decode cX2_find 4 = .ok (.getfield 29, 3) := by decide +kernel
theorem dX2_find_7 : decode cX2_find 7 = .ok (.if_icmp .ge 34, 3) := by decide +kernel
theorem dX2_find_10 : decode cX2_find 10 = .ok (.aload_n 0, 1) := by decide +kernel
theorem dX2_find_11 : decode cX2_find 11 = .ok (.getfield 15, 3) := by decide +kernel
theorem dX2_find_14 : decode cX2_find 14 = .ok (.iload_n 2, 1) := by decide +kernel
theorem dX2_find_15 : decode cX2_find 15 = .ok (.iaload, 1) := by decide +kernel
theorem dX2_find_16 : decode cX2_find 16 = .ok (.iload_n 1, 1) := by decide +kernel
theorem dX2_find_17 : decode cX2_find 17 = .ok (.if_icmp .ne 18, 3) := by decide +kernel
theorem dX2_find_20 : decode cX2_find 20 = .ok (.aload_n 0, 1) := by decide +kernel
theorem dX2_find_21 : decode cX2_find 21 = .ok (.getfield 19, 3) := by decide +kernel
theorem dX2_find_24 : decode cX2_find 24 = .ok (.iload_n 2, 1) := by decide +kernel
theorem dX2_find_25 : decode cX2_find 25 = .ok (.iaload, 1) := by decide +kernel
theorem dX2_find_26 : decode cX2_find 26 = .ok (.aload_n 0, 1) := by decide +kernel
theorem dX2_find_27 : decode cX2_find 27 = .ok (.getfield 66, 3) := by decide +kernel
theorem dX2_find_30 : decode cX2_find 30 = .ok (.if_icmp .ne 5, 3) := by decide +kernel
theorem dX2_find_33 : decode cX2_find 33 = .ok (.iload_n 2, 1) := by decide +kernel
theorem dX2_find_34 : decode cX2_find 34 = .ok (.ireturn, 1) := by decide +kernel
theorem dX2_find_35 : decode cX2_find 35 = .ok (.iinc 2 1, 3) := by decide +kernel
theorem dX2_find_38 : decode cX2_find 38 = .ok (.goto (-36), 3) := by decide +kernel
theorem dX2_find_41 : decode cX2_find 41 = .ok (.iconst (-1), 1) := by decide +kernel
theorem dX2_find_42 : decode cX2_find 42 = .ok (.ireturn, 1) := by decide +kernel
theorem dX2_walk_0 : decode cX2_walk 0 = .ok (.aload_n 0, 1) := by decide +kernel
theorem dX2_walk_1 : decode cX2_walk 1 = .ok (.getfield 9, 3) := by decide +kernel
theorem dX2_walk_4 : decode cX2_walk 4 = .ok (.aload_n 0, 1) := by decide +kernel
theorem dX2_walk_5 : decode cX2_walk 5 = .ok (.getfield 69, 3) := by decide +kernel
theorem dX2_walk_8 : decode cX2_walk 8 = .ok (.iconst 3, 1) := by decide +kernel
theorem dX2_walk_9 : decode cX2_walk 9 = .ok (.ishr, 1) := by decide +kernel
theorem dX2_walk_10 : decode cX2_walk 10 = .ok (.iload_n 1, 1) := by decide +kernel
theorem dX2_walk_11 : decode cX2_walk 11 = .ok (.iconst 4, 1) := by decide +kernel
theorem dX2_walk_12 : decode cX2_walk 12 = .ok (.ishr, 1) := by decide +kernel
theorem dX2_walk_13 : decode cX2_walk 13 = .ok (.iconst 3, 1) := by decide +kernel
theorem dX2_walk_14 : decode cX2_walk 14 = .ok (.iand, 1) := by decide +kernel
theorem dX2_walk_15 : decode cX2_walk 15 = .ok (.iadd, 1) := by decide +kernel
theorem dX2_walk_16 : decode cX2_walk 16 = .ok (.laload, 1) := by decide +kernel
theorem dX2_walk_17 : decode cX2_walk 17 = .ok (.lstore_n 2, 1) := by decide +kernel
theorem dX2_walk_18 : decode cX2_walk 18 = .ok (.lload_n 2, 1) := by decide +kernel
theorem dX2_walk_19 : decode cX2_walk 19 = .ok (.lconst 1, 1) := by decide +kernel
theorem dX2_walk_20 : decode cX2_walk 20 = .ok (.land, 1) := by decide +kernel
theorem dX2_walk_21 : decode cX2_walk 21 = .ok (.lconst 0, 1) := by decide +kernel
theorem dX2_walk_22 : decode cX2_walk 22 = .ok (.lcmp, 1) := by decide +kernel
theorem dX2_walk_23 : decode cX2_walk 23 = .ok (.ifCond .ne 7, 3) := by decide +kernel
theorem dX2_walk_26 : decode cX2_walk 26 = .ok (.ldc2_w 72, 3) := by decide +kernel
theorem dX2_walk_29 : decode cX2_walk 29 = .ok (.lreturn, 1) := by decide +kernel
theorem dX2_walk_30 : decode cX2_walk 30 = .ok (.aload_n 0, 1) := by decide +kernel
theorem dX2_walk_31 : decode cX2_walk 31 = .ok (.getfield 9, 3) := by decide +kernel
theorem dX2_walk_34 : decode cX2_walk 34 = .ok (.bipush 32, 2) := by decide +kernel
theorem dX2_walk_36 : decode cX2_walk 36 = .ok (.lload_n 2, 1) := by decide +kernel
theorem dX2_walk_37 : decode cX2_walk 37 = .ok (.invokestatic 57, 3) := by decide +kernel
theorem dX2_walk_40 : decode cX2_walk 40 = .ok (.imul, 1) := by decide +kernel
theorem dX2_walk_41 : decode cX2_walk 41 = .ok (.iload_n 1, 1) := by decide +kernel
theorem dX2_walk_42 : decode cX2_walk 42 = .ok (.iconst 2, 1) := by decide +kernel
theorem dX2_walk_43 : decode cX2_walk 43 = .ok (.ishr, 1) := by decide +kernel
theorem dX2_walk_44 : decode cX2_walk 44 = .ok (.iconst 3, 1) := by decide +kernel
theorem dX2_walk_45 : decode cX2_walk 45 = .ok (.iand, 1) := by decide +kernel
theorem dX2_walk_46 : decode cX2_walk 46 = .ok (.iadd, 1) := by decide +kernel
theorem dX2_walk_47 : decode cX2_walk 47 = .ok (.laload, 1) := by decide +kernel
theorem dX2_walk_48 : decode cX2_walk 48 = .ok (.lstore 4, 2) := by decide +kernel
theorem dX2_walk_50 : decode cX2_walk 50 = .ok (.lload 4, 2) := by decide +kernel
theorem dX2_walk_52 : decode cX2_walk 52 = .ok (.lconst 1, 1) := by decide +kernel
theorem dX2_walk_53 : decode cX2_walk 53 = .ok (.land, 1) := by decide +kernel
theorem dX2_walk_54 : decode cX2_walk 54 = .ok (.lconst 0, 1) := by decide +kernel
theorem dX2_walk_55 : decode cX2_walk 55 = .ok (.lcmp, 1) := by decide +kernel
theorem dX2_walk_56 : decode cX2_walk 56 = .ok (.ifCond .ne 7, 3) := by decide +kernel
theorem dX2_walk_59 : decode cX2_walk 59 = .ok (.ldc2_w 72, 3) := by decide +kernel
theorem dX2_walk_62 : decode cX2_walk 62 = .ok (.lreturn, 1) := by decide +kernel
theorem dX2_walk_63 : decode cX2_walk 63 = .ok (.aload_n 0, 1) := by decide +kernel
theorem dX2_walk_64 : decode cX2_walk 64 = .ok (.getfield 9, 3) := by decide +kernel
theorem dX2_walk_67 : decode cX2_walk 67 = .ok (.bipush 32, 2) := by decide +kernel
theorem dX2_walk_69 : decode cX2_walk 69 = .ok (.lload 4, 2) := by decide +kernel
theorem dX2_walk_71 : decode cX2_walk 71 = .ok (.invokestatic 57, 3) := by decide +kernel
theorem dX2_walk_74 : decode cX2_walk 74 = .ok (.imul, 1) := by decide +kernel
theorem dX2_walk_75 : decode cX2_walk 75 = .ok (.iload_n 1, 1) := by decide +kernel
theorem dX2_walk_76 : decode cX2_walk 76 = .ok (.iconst 3, 1) := by decide +kernel
theorem dX2_walk_77 : decode cX2_walk 77 = .ok (.iand, 1) := by decide +kernel
theorem dX2_walk_78 : decode cX2_walk 78 = .ok (.iadd, 1) := by decide +kernel
theorem dX2_walk_79 : decode cX2_walk 79 = .ok (.laload, 1) := by decide +kernel
theorem dX2_walk_80 : decode cX2_walk 80 = .ok (.lstore 6, 2) := by decide +kernel
theorem dX2_walk_82 : decode cX2_walk 82 = .ok (.lload 6, 2) := by decide +kernel
theorem dX2_walk_84 : decode cX2_walk 84 = .ok (.lconst 1, 1) := by decide +kernel
theorem dX2_walk_85 : decode cX2_walk 85 = .ok (.land, 1) := by decide +kernel
theorem dX2_walk_86 : decode cX2_walk 86 = .ok (.lconst 0, 1) := by decide +kernel
theorem dX2_walk_87 : decode cX2_walk 87 = .ok (.lcmp, 1) := by decide +kernel
theorem dX2_walk_88 : decode cX2_walk 88 = .ok (.ifCond .eq 10, 3) := by decide +kernel
theorem dX2_walk_91 : decode cX2_walk 91 = .ok (.aload_n 0, 1) := by decide +kernel
theorem dX2_walk_92 : decode cX2_walk 92 = .ok (.iload_n 1, 1) := by decide +kernel
theorem dX2_walk_93 : decode cX2_walk 93 = .ok (.lload 6, 2) := by decide +kernel
theorem dX2_walk_95 : decode cX2_walk 95 = .ok (.invokevirtual 74, 3) := by decide +kernel
theorem dX2_walk_98 : decode cX2_walk 98 = .ok (.lload 6, 2) := by decide +kernel
theorem dX2_walk_100 : decode cX2_walk 100 = .ok (.lreturn, 1) := by decide +kernel
theorem dX2_keep_0 : decode cX2_keep 0 = .ok (.aload_n 0, 1) := by decide +kernel
theorem dX2_keep_1 : decode cX2_keep 1 = .ok (.getfield 29, 3) := by decide +kernel
theorem dX2_keep_4 : decode cX2_keep 4 = .ok (.istore 4, 2) := by decide +kernel
theorem dX2_keep_6 : decode cX2_keep 6 = .ok (.aload_n 0, 1) := by decide +kernel
theorem dX2_keep_7 : decode cX2_keep 7 = .ok (.getfield 29, 3) := by decide +kernel
theorem dX2_keep_10 : decode cX2_keep 10 = .ok (.iconst 4, 1) := by decide +kernel
theorem dX2_keep_11 : decode cX2_keep 11 = .ok (.if_icmp .ge 16, 3) := by decide +kernel
theorem dX2_keep_14 : decode cX2_keep 14 = .ok (.aload_n 0, 1) := by decide +kernel
theorem dX2_keep_15 : decode cX2_keep 15 = .ok (.dup, 1) := by decide +kernel
theorem dX2_keep_16 : decode cX2_keep 16 = .ok (.getfield 29, 3) := by decide +kernel
theorem dX2_keep_19 : decode cX2_keep 19 = .ok (.iconst 1, 1) := by decide +kernel
theorem dX2_keep_20 : decode cX2_keep 20 = .ok (.iadd, 1) := by decide +kernel
theorem dX2_keep_21 : decode cX2_keep 21 = .ok (.putfield 29, 3) := by decide +kernel
theorem dX2_keep_24 : decode cX2_keep 24 = .ok (.goto 21, 3) := by decide +kernel
theorem dX2_keep_27 : decode cX2_keep 27 = .ok (.aload_n 0, 1) := by decide +kernel
theorem dX2_keep_28 : decode cX2_keep 28 = .ok (.getfield 33, 3) := by decide +kernel
theorem dX2_keep_31 : decode cX2_keep 31 = .ok (.istore 4, 2) := by decide +kernel
theorem dX2_keep_33 : decode cX2_keep 33 = .ok (.aload_n 0, 1) := by decide +kernel
theorem dX2_keep_34 : decode cX2_keep 34 = .ok (.aload_n 0, 1) := by decide +kernel
theorem dX2_keep_35 : decode cX2_keep 35 = .ok (.getfield 33, 3) := by decide +kernel
theorem dX2_keep_38 : decode cX2_keep 38 = .ok (.iconst 1, 1) := by decide +kernel
theorem dX2_keep_39 : decode cX2_keep 39 = .ok (.iadd, 1) := by decide +kernel
theorem dX2_keep_40 : decode cX2_keep 40 = .ok (.iconst 4, 1) := by decide +kernel
theorem dX2_keep_41 : decode cX2_keep 41 = .ok (.irem, 1) := by decide +kernel
theorem dX2_keep_42 : decode cX2_keep 42 = .ok (.putfield 33, 3) := by decide +kernel
theorem dX2_keep_45 : decode cX2_keep 45 = .ok (.aload_n 0, 1) := by decide +kernel
theorem dX2_keep_46 : decode cX2_keep 46 = .ok (.getfield 15, 3) := by decide +kernel
theorem dX2_keep_49 : decode cX2_keep 49 = .ok (.iload 4, 2) := by decide +kernel
theorem dX2_keep_51 : decode cX2_keep 51 = .ok (.iload_n 1, 1) := by decide +kernel
theorem dX2_keep_52 : decode cX2_keep 52 = .ok (.iastore, 1) := by decide +kernel
theorem dX2_keep_53 : decode cX2_keep 53 = .ok (.aload_n 0, 1) := by decide +kernel
theorem dX2_keep_54 : decode cX2_keep 54 = .ok (.getfield 19, 3) := by decide +kernel
theorem dX2_keep_57 : decode cX2_keep 57 = .ok (.iload 4, 2) := by decide +kernel
theorem dX2_keep_59 : decode cX2_keep 59 = .ok (.aload_n 0, 1) := by decide +kernel
theorem dX2_keep_60 : decode cX2_keep 60 = .ok (.getfield 66, 3) := by decide +kernel
theorem dX2_keep_63 : decode cX2_keep 63 = .ok (.iastore, 1) := by decide +kernel
theorem dX2_keep_64 : decode cX2_keep 64 = .ok (.aload_n 0, 1) := by decide +kernel
theorem dX2_keep_65 : decode cX2_keep 65 = .ok (.getfield 22, 3) := by decide +kernel
theorem dX2_keep_68 : decode cX2_keep 68 = .ok (.iload 4, 2) := by decide +kernel
theorem dX2_keep_70 : decode cX2_keep 70 = .ok (.lload_n 2, 1) := by decide +kernel
theorem dX2_keep_71 : decode cX2_keep 71 = .ok (.lastore, 1) := by decide +kernel
theorem dX2_keep_72 : decode cX2_keep 72 = .ok (.return_, 1) := by decide +kernel
theorem dX2_numberOf_0 : decode cX2_numberOf 0 = .ok (.lload_n 0, 1) := by decide +kernel
theorem dX2_numberOf_1 : decode cX2_numberOf 1 = .ok (.bipush 32, 2) := by decide +kernel
theorem dX2_numberOf_3 : decode cX2_numberOf 3 = .ok (.lushr, 1) := by decide +kernel
theorem dX2_numberOf_4 : decode cX2_numberOf 4 = .ok (.l2i, 1) := by decide +kernel
theorem dX2_numberOf_5 : decode cX2_numberOf 5 = .ok (.bipush 15, 2) := by decide +kernel
theorem dX2_numberOf_7 : decode cX2_numberOf 7 = .ok (.iand, 1) := by decide +kernel
theorem dX2_numberOf_8 : decode cX2_numberOf 8 = .ok (.ireturn, 1) := by decide +kernel
theorem dX2_faultIn_0 : decode cX2_faultIn 0 = .ok (.lload_n 0, 1) := by decide +kernel
theorem dX2_faultIn_1 : decode cX2_faultIn 1 = .ok (.l2i, 1) := by decide +kernel
theorem dX2_faultIn_2 : decode cX2_faultIn 2 = .ok (.istore 4, 2) := by decide +kernel
theorem dX2_faultIn_4 : decode cX2_faultIn 4 = .ok (.iload_n 2, 1) := by decide +kernel
theorem dX2_faultIn_5 : decode cX2_faultIn 5 = .ok (.iconst 1, 1) := by decide +kernel
theorem dX2_faultIn_6 : decode cX2_faultIn 6 = .ok (.if_icmp .ne 8, 3) := by decide +kernel
theorem dX2_faultIn_9 : decode cX2_faultIn 9 = .ok (.bipush 6, 2) := by decide +kernel
theorem dX2_faultIn_11 : decode cX2_faultIn 11 = .ok (.goto 4, 3) := by decide +kernel
theorem dX2_faultIn_14 : decode cX2_faultIn 14 = .ok (.iconst 4, 1) := by decide +kernel
theorem dX2_faultIn_15 : decode cX2_faultIn 15 = .ok (.iload_n 3, 1) := by decide +kernel
theorem dX2_faultIn_16 : decode cX2_faultIn 16 = .ok (.iadd, 1) := by decide +kernel
theorem dX2_faultIn_17 : decode cX2_faultIn 17 = .ok (.istore 5, 2) := by decide +kernel
theorem dX2_faultIn_19 : decode cX2_faultIn 19 = .ok (.iload 4, 2) := by decide +kernel
theorem dX2_faultIn_21 : decode cX2_faultIn 21 = .ok (.iload 5, 2) := by decide +kernel
theorem dX2_faultIn_23 : decode cX2_faultIn 23 = .ok (.ishr, 1) := by decide +kernel
theorem dX2_faultIn_24 : decode cX2_faultIn 24 = .ok (.iconst 1, 1) := by decide +kernel
theorem dX2_faultIn_25 : decode cX2_faultIn 25 = .ok (.iand, 1) := by decide +kernel
theorem dX2_faultIn_26 : decode cX2_faultIn 26 = .ok (.ifCond .ne 5, 3) := by decide +kernel
theorem dX2_faultIn_29 : decode cX2_faultIn 29 = .ok (.iconst 1, 1) := by decide +kernel
theorem dX2_faultIn_30 : decode cX2_faultIn 30 = .ok (.ireturn, 1) := by decide +kernel
theorem dX2_faultIn_31 : decode cX2_faultIn 31 = .ok (.iload 4, 2) := by decide +kernel
theorem dX2_faultIn_33 : decode cX2_faultIn 33 = .ok (.iconst 1, 1) := by decide +kernel
theorem dX2_faultIn_34 : decode cX2_faultIn 34 = .ok (.iand, 1) := by decide +kernel
theorem dX2_faultIn_35 : decode cX2_faultIn 35 = .ok (.ifCond .ne 5, 3) := by decide +kernel
theorem dX2_faultIn_38 : decode cX2_faultIn 38 = .ok (.iconst 0, 1) := by decide +kernel
theorem dX2_faultIn_39 : decode cX2_faultIn 39 = .ok (.ireturn, 1) := by decide +kernel
theorem dX2_faultIn_40 : decode cX2_faultIn 40 = .ok (.iload_n 2, 1) := by decide +kernel
theorem dX2_faultIn_41 : decode cX2_faultIn 41 = .ok (.lookupswitch 53 #[(0, 27), (1, 40)], 27) := by decide +kernel
theorem dX2_faultIn_68 : decode cX2_faultIn 68 = .ok (.iload 4, 2) := by decide +kernel
theorem dX2_faultIn_70 : decode cX2_faultIn 70 = .ok (.iconst 2, 1) := by decide +kernel
theorem dX2_faultIn_71 : decode cX2_faultIn 71 = .ok (.iand, 1) := by decide +kernel
theorem dX2_faultIn_72 : decode cX2_faultIn 72 = .ok (.ifCond .eq 7, 3) := by decide +kernel
theorem dX2_faultIn_75 : decode cX2_faultIn 75 = .ok (.iconst 3, 1) := by decide +kernel
theorem dX2_faultIn_76 : decode cX2_faultIn 76 = .ok (.goto 4, 3) := by decide +kernel
theorem dX2_faultIn_79 : decode cX2_faultIn 79 = .ok (.iconst (-1), 1) := by decide +kernel
theorem dX2_faultIn_80 : decode cX2_faultIn 80 = .ok (.ireturn, 1) := by decide +kernel
theorem dX2_faultIn_81 : decode cX2_faultIn 81 = .ok (.iload 4, 2) := by decide +kernel
theorem dX2_faultIn_83 : decode cX2_faultIn 83 = .ok (.iconst 4, 1) := by decide +kernel
theorem dX2_faultIn_84 : decode cX2_faultIn 84 = .ok (.iand, 1) := by decide +kernel
theorem dX2_faultIn_85 : decode cX2_faultIn 85 = .ok (.ifCond .eq 7, 3) := by decide +kernel
theorem dX2_faultIn_88 : decode cX2_faultIn 88 = .ok (.iconst 4, 1) := by decide +kernel
theorem dX2_faultIn_89 : decode cX2_faultIn 89 = .ok (.goto 4, 3) := by decide +kernel
theorem dX2_faultIn_92 : decode cX2_faultIn 92 = .ok (.iconst (-1), 1) := by decide +kernel
theorem dX2_faultIn_93 : decode cX2_faultIn 93 = .ok (.ireturn, 1) := by decide +kernel
theorem dX2_faultIn_94 : decode cX2_faultIn 94 = .ok (.iload 4, 2) := by decide +kernel
theorem dX2_faultIn_96 : decode cX2_faultIn 96 = .ok (.bipush 8, 2) := by decide +kernel
theorem dX2_faultIn_98 : decode cX2_faultIn 98 = .ok (.iand, 1) := by decide +kernel
theorem dX2_faultIn_99 : decode cX2_faultIn 99 = .ok (.ifCond .eq 7, 3) := by decide +kernel
theorem dX2_faultIn_102 : decode cX2_faultIn 102 = .ok (.iconst 2, 1) := by decide +kernel
theorem dX2_faultIn_103 : decode cX2_faultIn 103 = .ok (.goto 4, 3) := by decide +kernel
theorem dX2_faultIn_106 : decode cX2_faultIn 106 = .ok (.iconst (-1), 1) := by decide +kernel
theorem dX2_faultIn_107 : decode cX2_faultIn 107 = .ok (.ireturn, 1) := by decide +kernel
