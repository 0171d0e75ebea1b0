theorem dX4_isWordAddress_0 : decode cX4_isWordAddress 0 = .ok (.iload_n 0, 1) := by decide +kernel
theorem dX4_isWordAddress_1 : decode cX4_isWordAddress 1 = .ok (.ifCond .lt 21, 3) := by decide +kernel
theorem dX4_isWordAddress_4 : decode cX4_isWordAddress 4 = .ok (.iload_n 0, 1) := by decide +kernel
theorem dX4_isWordAddress_5 : decode cX4_isWordAddress 5 = .ok (.sipush 4096, 3) := by decide +kernel
theorem dX4_isWordAddress_8 : decode cX4_isWordAddress 8 = .ok (.if_icmp .ge 14, 3) := by decide +kernel
theorem dX4_isWordAddress_11 : decode cX4_isWordAddress 11 = .ok (.iload_n 0, 1) := by decide +kernel
theorem dX4_isWordAddress_12 : decode cX4_isWordAddress 12 = .ok (.bipush 7, 2) := by decide +kernel
theorem dX4_isWordAddress_14 : decode cX4_isWordAddress 14 = .ok (.iand, 1) := by decide +kernel
theorem dX4_isWordAddress_15 : decode cX4_isWordAddress 15 = .ok (.ifCond .ne 7, 3) := by decide +kernel
theorem dX4_isWordAddress_18 : decode cX4_isWordAddress 18 = .ok (.iconst 1, 1) := by decide +kernel
theorem dX4_isWordAddress_19 : decode cX4_isWordAddress 19 = .ok (.goto 4, 3) := by decide +kernel
theorem dX4_isWordAddress_22 : decode cX4_isWordAddress 22 = .ok (.iconst 0, 1) := by decide +kernel
theorem dX4_isWordAddress_23 : decode cX4_isWordAddress 23 = .ok (.ireturn, 1) := by decide +kernel
theorem dX4_status_0 : decode cX4_status 0 = .ok (.bipush 8, 2) := by decide +kernel
theorem dX4_status_2 : decode cX4_status 2 = .ok (.aload_n 0, 1) := by decide +kernel
theorem dX4_status_3 : decode cX4_status 3 = .ok (.getfield 47, 3) := by decide +kernel
theorem dX4_status_6 : decode cX4_status 6 = .ok (.imul, 1) := by decide +kernel
theorem dX4_status_7 : decode cX4_status 7 = .ok (.aload_n 0, 1) := by decide +kernel
theorem dX4_status_8 : decode cX4_status 8 = .ok (.getfield 51, 3) := by decide +kernel
theorem dX4_status_11 : decode cX4_status 11 = .ok (.iadd, 1) := by decide +kernel
theorem dX4_status_12 : decode cX4_status 12 = .ok (.ireturn, 1) := by decide +kernel
theorem dX4_write_0 : decode cX4_write 0 = .ok (.iload_n 1, 1) := by decide +kernel
theorem dX4_write_1 : decode cX4_write 1 = .ok (.bipush 31, 2) := by decide +kernel
theorem dX4_write_3 : decode cX4_write 3 = .ok (.if_icmp .eq 13, 3) := by decide +kernel
theorem dX4_write_6 : decode cX4_write 6 = .ok (.aload_n 0, 1) := by decide +kernel
theorem dX4_write_7 : decode cX4_write 7 = .ok (.getfield 16, 3) := by decide +kernel
theorem dX4_write_10 : decode cX4_write 10 = .ok (.iload_n 1, 1) := by decide +kernel
theorem dX4_write_11 : decode cX4_write 11 = .ok (.bipush 31, 2) := by decide +kernel
theorem dX4_write_13 : decode cX4_write 13 = .ok (.iand, 1) := by decide +kernel
theorem dX4_write_14 : decode cX4_write 14 = .ok (.lload_n 2, 1) := by decide +kernel
theorem dX4_write_15 : decode cX4_write 15 = .ok (.lastore, 1) := by decide +kernel
theorem dX4_write_16 : decode cX4_write 16 = .ok (.return_, 1) := by decide +kernel
theorem dX4_set_0 : decode cX4_set 0 = .ok (.iload_n 1, 1) := by decide +kernel
theorem dX4_set_1 : decode cX4_set 1 = .ok (.invokestatic 54, 3) := by decide +kernel
theorem dX4_set_4 : decode cX4_set 4 = .ok (.ifCond .ne 5, 3) := by decide +kernel
theorem dX4_set_7 : decode cX4_set 7 = .ok (.iconst 0, 1) := by decide +kernel
theorem dX4_set_8 : decode cX4_set 8 = .ok (.ireturn, 1) := by decide +kernel
theorem dX4_set_9 : decode cX4_set 9 = .ok (.aload_n 0, 1) := by decide +kernel
theorem dX4_set_10 : decode cX4_set 10 = .ok (.getfield 10, 3) := by decide +kernel
theorem dX4_set_13 : decode cX4_set 13 = .ok (.getfield 58, 3) := by decide +kernel
theorem dX4_set_16 : decode cX4_set 16 = .ok (.iload_n 1, 1) := by decide +kernel
theorem dX4_set_17 : decode cX4_set 17 = .ok (.iconst 3, 1) := by decide +kernel
theorem dX4_set_18 : decode cX4_set 18 = .ok (.ishr, 1) := by decide +kernel
theorem dX4_set_19 : decode cX4_set 19 = .ok (.lload_n 2, 1) := by decide +kernel
theorem dX4_set_20 : decode cX4_set 20 = .ok (.lastore, 1) := by decide +kernel
theorem dX4_set_21 : decode cX4_set 21 = .ok (.iconst 1, 1) := by decide +kernel
theorem dX4_set_22 : decode cX4_set 22 = .ok (.ireturn, 1) := by decide +kernel
theorem dX4_put_0 : decode cX4_put 0 = .ok (.iload_n 1, 1) := by decide +kernel
theorem dX4_put_1 : decode cX4_put 1 = .ok (.ifCond .lt 9, 3) := by decide +kernel
theorem dX4_put_4 : decode cX4_put 4 = .ok (.iload_n 1, 1) := by decide +kernel
theorem dX4_put_5 : decode cX4_put 5 = .ok (.bipush 33, 2) := by decide +kernel
theorem dX4_put_7 : decode cX4_put 7 = .ok (.if_icmp .le 5, 3) := by decide +kernel
theorem dX4_put_10 : decode cX4_put 10 = .ok (.iconst 0, 1) := by decide +kernel
theorem dX4_put_11 : decode cX4_put 11 = .ok (.ireturn, 1) := by decide +kernel
theorem dX4_put_12 : decode cX4_put 12 = .ok (.iload_n 1, 1) := by decide +kernel
theorem dX4_put_13 : decode cX4_put 13 = .ok (.bipush 32, 2) := by decide +kernel
theorem dX4_put_15 : decode cX4_put 15 = .ok (.if_icmp .ne 15, 3) := by decide +kernel
theorem dX4_put_18 : decode cX4_put 18 = .ok (.aload_n 0, 1) := by decide +kernel
theorem dX4_put_19 : decode cX4_put 19 = .ok (.lload_n 2, 1) := by decide +kernel
theorem dX4_put_20 : decode cX4_put 20 = .ok (.ldc2_w 61, 3) := by decide +kernel
theorem dX4_put_23 : decode cX4_put 23 = .ok (.land, 1) := by decide +kernel
theorem dX4_put_24 : decode cX4_put 24 = .ok (.putfield 63, 3) := by decide +kernel
theorem dX4_put_27 : decode cX4_put 27 = .ok (.goto 23, 3) := by decide +kernel
theorem dX4_put_30 : decode cX4_put 30 = .ok (.iload_n 1, 1) := by decide +kernel
theorem dX4_put_31 : decode cX4_put 31 = .ok (.bipush 33, 2) := by decide +kernel
theorem dX4_put_33 : decode cX4_put 33 = .ok (.if_icmp .ne 11, 3) := by decide +kernel
theorem dX4_put_36 : decode cX4_put 36 = .ok (.aload_n 0, 1) := by decide +kernel
theorem dX4_put_37 : decode cX4_put 37 = .ok (.lload_n 2, 1) := by decide +kernel
theorem dX4_put_38 : decode cX4_put 38 = .ok (.putfield 67, 3) := by decide +kernel
theorem dX4_put_41 : decode cX4_put 41 = .ok (.goto 9, 3) := by decide +kernel
theorem dX4_put_44 : decode cX4_put 44 = .ok (.aload_n 0, 1) := by decide +kernel
theorem dX4_put_45 : decode cX4_put 45 = .ok (.iload_n 1, 1) := by decide +kernel
theorem dX4_put_46 : decode cX4_put 46 = .ok (.lload_n 2, 1) := by decide +kernel
theorem dX4_put_47 : decode cX4_put 47 = .ok (.invokevirtual 70, 3) := by decide +kernel
theorem dX4_put_50 : decode cX4_put 50 = .ok (.iconst 1, 1) := by decide +kernel
theorem dX4_put_51 : decode cX4_put 51 = .ok (.ireturn, 1) := by decide +kernel
theorem dX4_interrupt_0 : decode cX4_interrupt 0 = .ok (.iload_n 1, 1) := by decide +kernel
theorem dX4_interrupt_1 : decode cX4_interrupt 1 = .ok (.iconst 1, 1) := by decide +kernel
theorem dX4_interrupt_2 : decode cX4_interrupt 2 = .ok (.if_icmp .lt 20, 3) := by decide +kernel
theorem dX4_interrupt_5 : decode cX4_interrupt 5 = .ok (.iload_n 1, 1) := by decide +kernel
theorem dX4_interrupt_6 : decode cX4_interrupt 6 = .ok (.bipush 7, 2) := by decide +kernel
theorem dX4_interrupt_8 : decode cX4_interrupt 8 = .ok (.if_icmp .gt 14, 3) := by decide +kernel
theorem dX4_interrupt_11 : decode cX4_interrupt 11 = .ok (.iload_n 2, 1) := by decide +kernel
theorem dX4_interrupt_12 : decode cX4_interrupt 12 = .ok (.ifCond .lt 10, 3) := by decide +kernel
theorem dX4_interrupt_15 : decode cX4_interrupt 15 = .ok (.iload_n 2, 1) := by decide +kernel
theorem dX4_interrupt_16 : decode cX4_interrupt 16 = .ok (.sipush 255, 3) := by decide +kernel
theorem dX4_interrupt_19 : decode cX4_interrupt 19 = .ok (.if_icmp .le 5, 3) := by decide +kernel
theorem dX4_interrupt_22 : decode cX4_interrupt 22 = .ok (.iconst 0, 1) := by decide +kernel
theorem dX4_interrupt_23 : decode cX4_interrupt 23 = .ok (.ireturn, 1) := by decide +kernel
theorem dX4_interrupt_24 : decode cX4_interrupt 24 = .ok (.aload_n 0, 1) := by decide +kernel
theorem dX4_interrupt_25 : decode cX4_interrupt 25 = .ok (.getfield 29, 3) := by decide +kernel
theorem dX4_interrupt_28 : decode cX4_interrupt 28 = .ok (.iload_n 1, 1) := by decide +kernel
theorem dX4_interrupt_29 : decode cX4_interrupt 29 = .ok (.iload_n 2, 1) := by decide +kernel
theorem dX4_interrupt_30 : decode cX4_interrupt 30 = .ok (.invokevirtual 74, 3) := by decide +kernel
theorem dX4_interrupt_33 : decode cX4_interrupt 33 = .ok (.ireturn, 1) := by decide +kernel
theorem dX4_register_0 : decode cX4_register 0 = .ok (.iload_n 1, 1) := by decide +kernel
theorem dX4_register_1 : decode cX4_register 1 = .ok (.ifCond .lt 16, 3) := by decide +kernel
theorem dX4_register_4 : decode cX4_register 4 = .ok (.iload_n 1, 1) := by decide +kernel
theorem dX4_register_5 : decode cX4_register 5 = .ok (.bipush 32, 2) := by decide +kernel
theorem dX4_register_7 : decode cX4_register 7 = .ok (.if_icmp .ge 10, 3) := by decide +kernel
theorem dX4_register_10 : decode cX4_register 10 = .ok (.aload_n 0, 1) := by decide +kernel
theorem dX4_register_11 : decode cX4_register 11 = .ok (.getfield 16, 3) := by decide +kernel
theorem dX4_register_14 : decode cX4_register 14 = .ok (.iload_n 1, 1) := by decide +kernel
theorem dX4_register_15 : decode cX4_register 15 = .ok (.laload, 1) := by decide +kernel
theorem dX4_register_16 : decode cX4_register 16 = .ok (.lreturn, 1) := by decide +kernel
theorem dX4_register_17 : decode cX4_register 17 = .ok (.iload_n 1, 1) := by decide +kernel
theorem dX4_register_18 : decode cX4_register 18 = .ok (.bipush 40, 2) := by decide +kernel
theorem dX4_register_20 : decode cX4_register 20 = .ok (.if_icmp .lt 19, 3) := by decide +kernel
theorem dX4_register_23 : decode cX4_register 23 = .ok (.iload_n 1, 1) := by decide +kernel
theorem dX4_register_24 : decode cX4_register 24 = .ok (.bipush 45, 2) := by decide +kernel
theorem dX4_register_26 : decode cX4_register 26 = .ok (.if_icmp .gt 13, 3) := by decide +kernel
theorem dX4_register_29 : decode cX4_register 29 = .ok (.aload_n 0, 1) := by decide +kernel
theorem dX4_register_30 : decode cX4_register 30 = .ok (.getfield 20, 3) := by decide +kernel
theorem dX4_register_33 : decode cX4_register 33 = .ok (.iload_n 1, 1) := by decide +kernel
theorem dX4_register_34 : decode cX4_register 34 = .ok (.bipush 40, 2) := by decide +kernel
theorem dX4_register_36 : decode cX4_register 36 = .ok (.isub, 1) := by decide +kernel
theorem dX4_register_37 : decode cX4_register 37 = .ok (.laload, 1) := by decide +kernel
theorem dX4_register_38 : decode cX4_register 38 = .ok (.lreturn, 1) := by decide +kernel
theorem dX4_register_39 : decode cX4_register 39 = .ok (.iload_n 1, 1) := by decide +kernel
theorem dX4_register_40 : decode cX4_register 40 = .ok (.tableswitch 87 32 38 #[44, 49, 54, 59, 64, 69, 78], 44) := by decide +kernel
theorem dX4_register_84 : decode cX4_register 84 = .ok (.aload_n 0, 1) := by decide +kernel
theorem dX4_register_85 : decode cX4_register 85 = .ok (.getfield 63, 3) := by decide +kernel
theorem dX4_register_88 : decode cX4_register 88 = .ok (.lreturn, 1) := by decide +kernel
theorem dX4_register_89 : decode cX4_register 89 = .ok (.aload_n 0, 1) := by decide +kernel
theorem dX4_register_90 : decode cX4_register 90 = .ok (.getfield 67, 3) := by decide +kernel
theorem dX4_register_93 : decode cX4_register 93 = .ok (.lreturn, 1) := by decide +kernel
theorem dX4_register_94 : decode cX4_register 94 = .ok (.aload_n 0, 1) := by decide +kernel
theorem dX4_register_95 : decode cX4_register 95 = .ok (.getfield 84, 3) := by decide +kernel
theorem dX4_register_98 : decode cX4_register 98 = .ok (.lreturn, 1) := by decide +kernel
theorem dX4_register_99 : decode cX4_register 99 = .ok (.aload_n 0, 1) := by decide +kernel
theorem dX4_register_100 : decode cX4_register 100 = .ok (.getfield 87, 3) := by decide +kernel
theorem dX4_register_103 : decode cX4_register 103 = .ok (.lreturn, 1) := by decide +kernel
theorem dX4_register_104 : decode cX4_register 104 = .ok (.aload_n 0, 1) := by decide +kernel
theorem dX4_register_105 : decode cX4_register 105 = .ok (.getfield 90, 3) := by decide +kernel
theorem dX4_register_108 : decode cX4_register 108 = .ok (.lreturn, 1) := by decide +kernel
theorem dX4_register_109 : decode cX4_register 109 = .ok (.aload_n 0, 1) := by decide +kernel
theorem dX4_register_110 : decode cX4_register 110 = .ok (.getfield 10, 3) := by decide +kernel
theorem dX4_register_113 : decode cX4_register 113 = .ok (.getfield 93, 3) := by decide +kernel
theorem dX4_register_116 : decode cX4_register 116 = .ok (.i2l, 1) := by decide +kernel
theorem dX4_register_117 : decode cX4_register 117 = .ok (.lreturn, 1) := by decide +kernel
theorem dX4_register_118 : decode cX4_register 118 = .ok (.aload_n 0, 1) := by decide +kernel
theorem dX4_register_119 : decode cX4_register 119 = .ok (.getfield 10, 3) := by decide +kernel
theorem dX4_register_122 : decode cX4_register 122 = .ok (.getfield 96, 3) := by decide +kernel
theorem dX4_register_125 : decode cX4_register 125 = .ok (.i2l, 1) := by decide +kernel
theorem dX4_register_126 : decode cX4_register 126 = .ok (.lreturn, 1) := by decide +kernel
theorem dX4_register_127 : decode cX4_register 127 = .ok (.ldc2_w 99, 3) := by decide +kernel
theorem dX4_register_130 : decode cX4_register 130 = .ok (.lreturn, 1) := by decide +kernel
theorem dX4_word_0 : decode cX4_word 0 = .ok (.iload_n 1, 1) := by decide +kernel
theorem dX4_word_1 : decode cX4_word 1 = .ok (.invokestatic 54, 3) := by decide +kernel
theorem dX4_word_4 : decode cX4_word 4 = .ok (.ifCond .eq 17, 3) := by decide +kernel
theorem dX4_word_7 : decode cX4_word 7 = .ok (.aload_n 0, 1) := by decide +kernel
theorem dX4_word_8 : decode cX4_word 8 = .ok (.getfield 10, 3) := by decide +kernel
theorem dX4_word_11 : decode cX4_word 11 = .ok (.getfield 58, 3) := by decide +kernel
theorem dX4_word_14 : decode cX4_word 14 = .ok (.iload_n 1, 1) := by decide +kernel
theorem dX4_word_15 : decode cX4_word 15 = .ok (.iconst 3, 1) := by decide +kernel
theorem dX4_word_16 : decode cX4_word 16 = .ok (.ishr, 1) := by decide +kernel
theorem dX4_word_17 : decode cX4_word 17 = .ok (.laload, 1) := by decide +kernel
theorem dX4_word_18 : decode cX4_word 18 = .ok (.goto 6, 3) := by decide +kernel
theorem dX4_word_21 : decode cX4_word 21 = .ok (.ldc2_w 99, 3) := by decide +kernel
theorem dX4_word_24 : decode cX4_word 24 = .ok (.lreturn, 1) := by decide +kernel
theorem dX4_state_0 : decode cX4_state 0 = .ok (.iload_n 1, 1) := by decide +kernel
theorem dX4_state_1 : decode cX4_state 1 = .ok (.tableswitch 83 0 5 #[39, 44, 57, 62, 70, 78], 39) := by decide +kernel
theorem dX4_state_40 : decode cX4_state 40 = .ok (.aload_n 0, 1) := by decide +kernel
theorem dX4_state_41 : decode cX4_state 41 = .ok (.invokevirtual 101, 3) := by decide +kernel
theorem dX4_state_44 : decode cX4_state 44 = .ok (.ireturn, 1) := by decide +kernel
theorem dX4_state_45 : decode cX4_state 45 = .ok (.aload_n 0, 1) := by decide +kernel
theorem dX4_state_46 : decode cX4_state 46 = .ok (.getfield 105, 3) := by decide +kernel
theorem dX4_state_49 : decode cX4_state 49 = .ok (.ifCond .eq 7, 3) := by decide +kernel
theorem dX4_state_52 : decode cX4_state 52 = .ok (.iconst 1, 1) := by decide +kernel
theorem dX4_state_53 : decode cX4_state 53 = .ok (.goto 4, 3) := by decide +kernel
theorem dX4_state_56 : decode cX4_state 56 = .ok (.iconst 0, 1) := by decide +kernel
theorem dX4_state_57 : decode cX4_state 57 = .ok (.ireturn, 1) := by decide +kernel
theorem dX4_state_58 : decode cX4_state 58 = .ok (.aload_n 0, 1) := by decide +kernel
theorem dX4_state_59 : decode cX4_state 59 = .ok (.getfield 78, 3) := by decide +kernel
theorem dX4_state_62 : decode cX4_state 62 = .ok (.ireturn, 1) := by decide +kernel
theorem dX4_state_63 : decode cX4_state 63 = .ok (.aload_n 0, 1) := by decide +kernel
theorem dX4_state_64 : decode cX4_state 64 = .ok (.getfield 10, 3) := by decide +kernel
theorem dX4_state_67 : decode cX4_state 67 = .ok (.getfield 109, 3) := by decide +kernel
theorem dX4_state_70 : decode cX4_state 70 = .ok (.ireturn, 1) := by decide +kernel
theorem dX4_state_71 : decode cX4_state 71 = .ok (.aload_n 0, 1) := by decide +kernel
theorem dX4_state_72 : decode cX4_state 72 = .ok (.getfield 29, 3) := by decide +kernel
theorem dX4_state_75 : decode cX4_state 75 = .ok (.getfield 112, 3) := by decide +kernel
theorem dX4_state_78 : decode cX4_state 78 = .ok (.ireturn, 1) := by decide +kernel
theorem dX4_state_79 : decode cX4_state 79 = .ok (.aload_n 0, 1) := by decide +kernel
theorem dX4_state_80 : decode cX4_state 80 = .ok (.getfield 113, 3) := by decide +kernel
theorem dX4_state_83 : decode cX4_state 83 = .ok (.ireturn, 1) := by decide +kernel
theorem dX4_state_84 : decode cX4_state 84 = .ok (.iconst (-1), 1) := by decide +kernel
theorem dX4_state_85 : decode cX4_state 85 = .ok (.ireturn, 1) := by decide +kernel
theorem dX4_refuse_0 : decode cX4_refuse 0 = .ok (.aload_n 0, 1) := by decide +kernel
theorem dX4_refuse_1 : decode cX4_refuse 1 = .ok (.getfield 43, 3) := by decide +kernel
theorem dX4_refuse_4 : decode cX4_refuse 4 = .ok (.iconst 3, 1) := by decide +kernel
theorem dX4_refuse_5 : decode cX4_refuse 5 = .ok (.iload_n 1, 1) := by decide +kernel
theorem dX4_refuse_6 : decode cX4_refuse 6 = .ok (.i2l, 1) := by decide +kernel
theorem dX4_refuse_7 : decode cX4_refuse 7 = .ok (.lconst 0, 1) := by decide +kernel
theorem dX4_refuse_8 : decode cX4_refuse 8 = .ok (.lconst 0, 1) := by decide +kernel
theorem dX4_refuse_9 : decode cX4_refuse 9 = .ok (.aload_n 0, 1) := by decide +kernel
theorem dX4_refuse_10 : decode cX4_refuse 10 = .ok (.getfield 63, 3) := by decide +kernel
theorem dX4_refuse_13 : decode cX4_refuse 13 = .ok (.ldc2_w 134, 3) := by decide +kernel
theorem dX4_refuse_16 : decode cX4_refuse 16 = .ok (.lsub, 1) := by decide +kernel
theorem dX4_refuse_17 : decode cX4_refuse 17 = .ok (.invokevirtual 127, 3) := by decide +kernel
theorem dX4_refuse_20 : decode cX4_refuse 20 = .ok (.return_, 1) := by decide +kernel
theorem dX4_branch_0 : decode cX4_branch 0 = .ok (.iload_n 1, 1) := by decide +kernel
theorem dX4_branch_1 : decode cX4_branch 1 = .ok (.bipush 11, 2) := by decide +kernel
theorem dX4_branch_3 : decode cX4_branch 3 = .ok (.ishl, 1) := by decide +kernel
theorem dX4_branch_4 : decode cX4_branch 4 = .ok (.bipush 11, 2) := by decide +kernel
theorem dX4_branch_6 : decode cX4_branch 6 = .ok (.ishr, 1) := by decide +kernel
theorem dX4_branch_7 : decode cX4_branch 7 = .ok (.i2l, 1) := by decide +kernel
theorem dX4_branch_8 : decode cX4_branch 8 = .ok (.lstore_n 2, 1) := by decide +kernel
theorem dX4_branch_9 : decode cX4_branch 9 = .ok (.aload_n 0, 1) := by decide +kernel
theorem dX4_branch_10 : decode cX4_branch 10 = .ok (.dup, 1) := by decide +kernel
theorem dX4_branch_11 : decode cX4_branch 11 = .ok (.getfield 63, 3) := by decide +kernel
theorem dX4_branch_14 : decode cX4_branch 14 = .ok (.ldc2_w 134, 3) := by decide +kernel
theorem dX4_branch_17 : decode cX4_branch 17 = .ok (.lload_n 2, 1) := by decide +kernel
theorem dX4_branch_18 : decode cX4_branch 18 = .ok (.lmul, 1) := by decide +kernel
theorem dX4_branch_19 : decode cX4_branch 19 = .ok (.ladd, 1) := by decide +kernel
theorem dX4_branch_20 : decode cX4_branch 20 = .ok (.putfield 63, 3) := by decide +kernel
theorem dX4_branch_23 : decode cX4_branch 23 = .ok (.return_, 1) := by decide +kernel
theorem dX4_isTaken_0 : decode cX4_isTaken 0 = .ok (.iload_n 0, 1) := by decide +kernel
theorem dX4_isTaken_1 : decode cX4_isTaken 1 = .ok (.tableswitch 147 56 63 #[47, 61, 73, 85, 97, 111, 123, 135], 47) := by decide +kernel
theorem dX4_isTaken_48 : decode cX4_isTaken 48 = .ok (.lload_n 1, 1) := by decide +kernel
theorem dX4_isTaken_49 : decode cX4_isTaken 49 = .ok (.lconst 1, 1) := by decide +kernel
theorem dX4_isTaken_50 : decode cX4_isTaken 50 = .ok (.land, 1) := by decide +kernel
theorem dX4_isTaken_51 : decode cX4_isTaken 51 = .ok (.lconst 0, 1) := by decide +kernel
theorem dX4_isTaken_52 : decode cX4_isTaken 52 = .ok (.lcmp, 1) := by decide +kernel
theorem dX4_isTaken_53 : decode cX4_isTaken 53 = .ok (.ifCond .ne 7, 3) := by decide +kernel
theorem dX4_isTaken_56 : decode cX4_isTaken 56 = .ok (.iconst 1, 1) := by decide +kernel
theorem dX4_isTaken_57 : decode cX4_isTaken 57 = .ok (.goto 4, 3) := by decide +kernel
theorem dX4_isTaken_60 : decode cX4_isTaken 60 = .ok (.iconst 0, 1) := by decide +kernel
theorem dX4_isTaken_61 : decode cX4_isTaken 61 = .ok (.ireturn, 1) := by decide +kernel
theorem dX4_isTaken_62 : decode cX4_isTaken 62 = .ok (.lload_n 1, 1) := by decide +kernel
theorem dX4_isTaken_63 : decode cX4_isTaken 63 = .ok (.lconst 0, 1) := by decide +kernel
theorem dX4_isTaken_64 : decode cX4_isTaken 64 = .ok (.lcmp, 1) := by decide +kernel
theorem dX4_isTaken_65 : decode cX4_isTaken 65 = .ok (.ifCond .ne 7, 3) := by decide +kernel
theorem dX4_isTaken_68 : decode cX4_isTaken 68 = .ok (.iconst 1, 1) := by decide +kernel
theorem dX4_isTaken_69 : decode cX4_isTaken 69 = .ok (.goto 4, 3) := by decide +kernel
theorem dX4_isTaken_72 : decode cX4_isTaken 72 = .ok (.iconst 0, 1) := by decide +kernel
theorem dX4_isTaken_73 : decode cX4_isTaken 73 = .ok (.ireturn, 1) := by decide +kernel
theorem dX4_isTaken_74 : decode cX4_isTaken 74 = .ok (.lload_n 1, 1) := by decide +kernel
theorem dX4_isTaken_75 : decode cX4_isTaken 75 = .ok (.lconst 0, 1) := by decide +kernel
theorem dX4_isTaken_76 : decode cX4_isTaken 76 = .ok (.lcmp, 1) := by decide +kernel
theorem dX4_isTaken_77 : decode cX4_isTaken 77 = .ok (.ifCond .ge 7, 3) := by decide +kernel
theorem dX4_isTaken_80 : decode cX4_isTaken 80 = .ok (.iconst 1, 1) := by decide +kernel
theorem dX4_isTaken_81 : decode cX4_isTaken 81 = .ok (.goto 4, 3) := by decide +kernel
theorem dX4_isTaken_84 : decode cX4_isTaken 84 = .ok (.iconst 0, 1) := by decide +kernel
theorem dX4_isTaken_85 : decode cX4_isTaken 85 = .ok (.ireturn, 1) := by decide +kernel
theorem dX4_isTaken_86 : decode cX4_isTaken 86 = .ok (.lload_n 1, 1) := by decide +kernel
theorem dX4_isTaken_87 : decode cX4_isTaken 87 = .ok (.lconst 0, 1) := by decide +kernel
theorem dX4_isTaken_88 : decode cX4_isTaken 88 = .ok (.lcmp, 1) := by decide +kernel
theorem dX4_isTaken_89 : decode cX4_isTaken 89 = .ok (.ifCond .gt 7, 3) := by decide +kernel
theorem dX4_isTaken_92 : decode cX4_isTaken 92 = .ok (.iconst 1, 1) := by decide +kernel
theorem dX4_isTaken_93 : decode cX4_isTaken 93 = .ok (.goto 4, 3) := by decide +kernel
theorem dX4_isTaken_96 : decode cX4_isTaken 96 = .ok (.iconst 0, 1) := by decide +kernel
theorem dX4_isTaken_97 : decode cX4_isTaken 97 = .ok (.ireturn, 1) := by decide +kernel
theorem dX4_isTaken_98 : decode cX4_isTaken 98 = .ok (.lload_n 1, 1) := by decide +kernel
theorem dX4_isTaken_99 : decode cX4_isTaken 99 = .ok (.lconst 1, 1) := by decide +kernel
theorem dX4_isTaken_100 : decode cX4_isTaken 100 = .ok (.land, 1) := by decide +kernel
theorem dX4_isTaken_101 : decode cX4_isTaken 101 = .ok (.lconst 0, 1) := by decide +kernel
theorem dX4_isTaken_102 : decode cX4_isTaken 102 = .ok (.lcmp, 1) := by decide +kernel
theorem dX4_isTaken_103 : decode cX4_isTaken 103 = .ok (.ifCond .eq 7, 3) := by decide +kernel
theorem dX4_isTaken_106 : decode cX4_isTaken 106 = .ok (.iconst 1, 1) := by decide +kernel
theorem dX4_isTaken_107 : decode cX4_isTaken 107 = .ok (.goto 4, 3) := by decide +kernel
theorem dX4_isTaken_110 : decode cX4_isTaken 110 = .ok (.iconst 0, 1) := by decide +kernel
theorem dX4_isTaken_111 : decode cX4_isTaken 111 = .ok (.ireturn, 1) := by decide +kernel
theorem dX4_isTaken_112 : decode cX4_isTaken 112 = .ok (.lload_n 1, 1) := by decide +kernel
theorem dX4_isTaken_113 : decode cX4_isTaken 113 = .ok (.lconst 0, 1) := by decide +kernel
theorem dX4_isTaken_114 : decode cX4_isTaken 114 = .ok (.lcmp, 1) := by decide +kernel
theorem dX4_isTaken_115 : decode cX4_isTaken 115 = .ok (.ifCond .eq 7, 3) := by decide +kernel
theorem dX4_isTaken_118 : decode cX4_isTaken 118 = .ok (.iconst 1, 1) := by decide +kernel
theorem dX4_isTaken_119 : decode cX4_isTaken 119 = .ok (.goto 4, 3) := by decide +kernel
theorem dX4_isTaken_122 : decode cX4_isTaken 122 = .ok (.iconst 0, 1) := by decide +kernel
theorem dX4_isTaken_123 : decode cX4_isTaken 123 = .ok (.ireturn, 1) := by decide +kernel
theorem dX4_isTaken_124 : decode cX4_isTaken 124 = .ok (.lload_n 1, 1) := by decide +kernel
theorem dX4_isTaken_125 : decode cX4_isTaken 125 = .ok (.lconst 0, 1) := by decide +kernel
theorem dX4_isTaken_126 : decode cX4_isTaken 126 = .ok (.lcmp, 1) := by decide +kernel
theorem dX4_isTaken_127 : decode cX4_isTaken 127 = .ok (.ifCond .lt 7, 3) := by decide +kernel
theorem dX4_isTaken_130 : decode cX4_isTaken 130 = .ok (.iconst 1, 1) := by decide +kernel
theorem dX4_isTaken_131 : decode cX4_isTaken 131 = .ok (.goto 4, 3) := by decide +kernel
theorem dX4_isTaken_134 : decode cX4_isTaken 134 = .ok (.iconst 0, 1) := by decide +kernel
theorem dX4_isTaken_135 : decode cX4_isTaken 135 = .ok (.ireturn, 1) := by decide +kernel
theorem dX4_isTaken_136 : decode cX4_isTaken 136 = .ok (.lload_n 1, 1) := by decide +kernel
theorem dX4_isTaken_137 : decode cX4_isTaken 137 = .ok (.lconst 0, 1) := by decide +kernel
theorem dX4_isTaken_138 : decode cX4_isTaken 138 = .ok (.lcmp, 1) := by decide +kernel
theorem dX4_isTaken_139 : decode cX4_isTaken 139 = .ok (.ifCond .le 7, 3) := by decide +kernel
theorem dX4_isTaken_142 : decode cX4_isTaken 142 = .ok (.iconst 1, 1) := by decide +kernel
theorem dX4_isTaken_143 : decode cX4_isTaken 143 = .ok (.goto 4, 3) := by decide +kernel
theorem dX4_isTaken_146 : decode cX4_isTaken 146 = .ok (.iconst 0, 1) := by decide +kernel
theorem dX4_isTaken_147 : decode cX4_isTaken 147 = .ok (.ireturn, 1) := by decide +kernel
theorem dX4_isTaken_148 : decode cX4_isTaken 148 = .ok (.iconst 0, 1) := by decide +kernel
theorem dX4_isTaken_149 : decode cX4_isTaken 149 = .ok (.ireturn, 1) := by decide +kernel
theorem dX4_changeSpace_0 : decode cX4_changeSpace 0 = .ok (.aload_n 0, 1) := by decide +kernel
theorem dX4_changeSpace_1 : decode cX4_changeSpace 1 = .ok (.getfield 16, 3) := by decide +kernel
theorem dX4_changeSpace_4 : decode cX4_changeSpace 4 = .ok (.iconst 0, 1) := by decide +kernel
theorem dX4_changeSpace_5 : decode cX4_changeSpace 5 = .ok (.sipush 256, 3) := by decide +kernel
theorem dX4_changeSpace_8 : decode cX4_changeSpace 8 = .ok (.aload_n 0, 1) := by decide +kernel
theorem dX4_changeSpace_9 : decode cX4_changeSpace 9 = .ok (.getfield 10, 3) := by decide +kernel
theorem dX4_changeSpace_12 : decode cX4_changeSpace 12 = .ok (.getfield 96, 3) := by decide +kernel
theorem dX4_changeSpace_15 : decode cX4_changeSpace 15 = .ok (.imul, 1) := by decide +kernel
theorem dX4_changeSpace_16 : decode cX4_changeSpace 16 = .ok (.aload_n 0, 1) := by decide +kernel
theorem dX4_changeSpace_17 : decode cX4_changeSpace 17 = .ok (.getfield 10, 3) := by decide +kernel
theorem dX4_changeSpace_20 : decode cX4_changeSpace 20 = .ok (.getfield 93, 3) := by decide +kernel
theorem dX4_changeSpace_23 : decode cX4_changeSpace 23 = .ok (.iadd, 1) := by decide +kernel
theorem dX4_changeSpace_24 : decode cX4_changeSpace 24 = .ok (.i2l, 1) := by decide +kernel
theorem dX4_changeSpace_25 : decode cX4_changeSpace 25 = .ok (.lastore, 1) := by decide +kernel
theorem dX4_changeSpace_26 : decode cX4_changeSpace 26 = .ok (.aload_n 0, 1) := by decide +kernel
theorem dX4_changeSpace_27 : decode cX4_changeSpace 27 = .ok (.getfield 10, 3) := by decide +kernel
theorem dX4_changeSpace_30 : decode cX4_changeSpace 30 = .ok (.aload_n 0, 1) := by decide +kernel
theorem dX4_changeSpace_31 : decode cX4_changeSpace 31 = .ok (.getfield 16, 3) := by decide +kernel
theorem dX4_changeSpace_34 : decode cX4_changeSpace 34 = .ok (.bipush 16, 2) := by decide +kernel
theorem dX4_changeSpace_36 : decode cX4_changeSpace 36 = .ok (.laload, 1) := by decide +kernel
theorem dX4_changeSpace_37 : decode cX4_changeSpace 37 = .ok (.l2i, 1) := by decide +kernel
theorem dX4_changeSpace_38 : decode cX4_changeSpace 38 = .ok (.sipush 4064, 3) := by decide +kernel
theorem dX4_changeSpace_41 : decode cX4_changeSpace 41 = .ok (.iand, 1) := by decide +kernel
theorem dX4_changeSpace_42 : decode cX4_changeSpace 42 = .ok (.putfield 93, 3) := by decide +kernel
theorem dX4_changeSpace_45 : decode cX4_changeSpace 45 = .ok (.aload_n 0, 1) := by decide +kernel
theorem dX4_changeSpace_46 : decode cX4_changeSpace 46 = .ok (.getfield 10, 3) := by decide +kernel
theorem dX4_changeSpace_49 : decode cX4_changeSpace 49 = .ok (.aload_n 0, 1) := by decide +kernel
theorem dX4_changeSpace_50 : decode cX4_changeSpace 50 = .ok (.getfield 16, 3) := by decide +kernel
theorem dX4_changeSpace_53 : decode cX4_changeSpace 53 = .ok (.bipush 17, 2) := by decide +kernel
theorem dX4_changeSpace_55 : decode cX4_changeSpace 55 = .ok (.laload, 1) := by decide +kernel
theorem dX4_changeSpace_56 : decode cX4_changeSpace 56 = .ok (.l2i, 1) := by decide +kernel
theorem dX4_changeSpace_57 : decode cX4_changeSpace 57 = .ok (.sipush 255, 3) := by decide +kernel
theorem dX4_changeSpace_60 : decode cX4_changeSpace 60 = .ok (.iand, 1) := by decide +kernel
theorem dX4_changeSpace_61 : decode cX4_changeSpace 61 = .ok (.putfield 96, 3) := by decide +kernel
theorem dX4_changeSpace_64 : decode cX4_changeSpace 64 = .ok (.return_, 1) := by decide +kernel
theorem dX4_changeVector_0 : decode cX4_changeVector 0 = .ok (.aload_n 0, 1) := by decide +kernel
theorem dX4_changeVector_1 : decode cX4_changeVector 1 = .ok (.getfield 16, 3) := by decide +kernel
theorem dX4_changeVector_4 : decode cX4_changeVector 4 = .ok (.bipush 17, 2) := by decide +kernel
theorem dX4_changeVector_6 : decode cX4_changeVector 6 = .ok (.laload, 1) := by decide +kernel
theorem dX4_changeVector_7 : decode cX4_changeVector 7 = .ok (.l2i, 1) := by decide +kernel
theorem dX4_changeVector_8 : decode cX4_changeVector 8 = .ok (.bipush 7, 2) := by decide +kernel
theorem dX4_changeVector_10 : decode cX4_changeVector 10 = .ok (.iand, 1) := by decide +kernel
theorem dX4_changeVector_11 : decode cX4_changeVector 11 = .ok (.istore_n 1, 1) := by decide +kernel
theorem dX4_changeVector_12 : decode cX4_changeVector 12 = .ok (.iload_n 1, 1) := by decide +kernel
theorem dX4_changeVector_13 : decode cX4_changeVector 13 = .ok (.aload_n 0, 1) := by decide +kernel
theorem dX4_changeVector_14 : decode cX4_changeVector 14 = .ok (.getfield 20, 3) := by decide +kernel
theorem dX4_changeVector_17 : decode cX4_changeVector 17 = .ok (.arraylength, 1) := by decide +kernel
theorem dX4_changeVector_18 : decode cX4_changeVector 18 = .ok (.if_icmp .ge 20, 3) := by decide +kernel
theorem dX4_changeVector_21 : decode cX4_changeVector 21 = .ok (.aload_n 0, 1) := by decide +kernel
theorem dX4_changeVector_22 : decode cX4_changeVector 22 = .ok (.getfield 20, 3) := by decide +kernel
theorem dX4_changeVector_25 : decode cX4_changeVector 25 = .ok (.iload_n 1, 1) := by decide +kernel
theorem dX4_changeVector_26 : decode cX4_changeVector 26 = .ok (.aload_n 0, 1) := by decide +kernel
theorem dX4_changeVector_27 : decode cX4_changeVector 27 = .ok (.getfield 16, 3) := by decide +kernel
theorem dX4_changeVector_30 : decode cX4_changeVector 30 = .ok (.bipush 16, 2) := by decide +kernel
theorem dX4_changeVector_32 : decode cX4_changeVector 32 = .ok (.laload, 1) := by decide +kernel
theorem dX4_changeVector_33 : decode cX4_changeVector 33 = .ok (.ldc2_w 61, 3) := by decide +kernel
theorem dX4_changeVector_36 : decode cX4_changeVector 36 = .ok (.land, 1) := by decide +kernel
theorem dX4_changeVector_37 : decode cX4_changeVector 37 = .ok (.lastore, 1) := by decide +kernel
theorem dX4_changeVector_38 : decode cX4_changeVector 38 = .ok (.return_, 1) := by decide +kernel
theorem dX4_kernelCall_0 : decode cX4_kernelCall 0 = .ok (.aload_n 0, 1) := by decide +kernel
theorem dX4_kernelCall_1 : decode cX4_kernelCall 1 = .ok (.getfield 16, 3) := by decide +kernel
theorem dX4_kernelCall_4 : decode cX4_kernelCall 4 = .ok (.bipush 16, 2) := by decide +kernel
theorem dX4_kernelCall_6 : decode cX4_kernelCall 6 = .ok (.laload, 1) := by decide +kernel
theorem dX4_kernelCall_7 : decode cX4_kernelCall 7 = .ok (.lstore_n 2, 1) := by decide +kernel
theorem dX4_kernelCall_8 : decode cX4_kernelCall 8 = .ok (.iload_n 1, 1) := by decide +kernel
theorem dX4_kernelCall_9 : decode cX4_kernelCall 9 = .ok (.lookupswitch 236 #[(0, 107), (48, 115), (49, 122), (50, 130), (51, 143), (52, 153), (53, 160), (54, 183), (55, 197), (56, 205), (58, 213), (63, 226)], 107) := by decide +kernel
theorem dX4_kernelCall_116 : decode cX4_kernelCall 116 = .ok (.aload_n 0, 1) := by decide +kernel
theorem dX4_kernelCall_117 : decode cX4_kernelCall 117 = .ok (.iconst 1, 1) := by decide +kernel
theorem dX4_kernelCall_118 : decode cX4_kernelCall 118 = .ok (.putfield 78, 3) := by decide +kernel
theorem dX4_kernelCall_121 : decode cX4_kernelCall 121 = .ok (.goto 124, 3) := by decide +kernel
theorem dX4_kernelCall_124 : decode cX4_kernelCall 124 = .ok (.aload_n 0, 1) := by decide +kernel
theorem dX4_kernelCall_125 : decode cX4_kernelCall 125 = .ok (.invokevirtual 222, 3) := by decide +kernel
theorem dX4_kernelCall_128 : decode cX4_kernelCall 128 = .ok (.goto 117, 3) := by decide +kernel
theorem dX4_kernelCall_131 : decode cX4_kernelCall 131 = .ok (.aload_n 0, 1) := by decide +kernel
theorem dX4_kernelCall_132 : decode cX4_kernelCall 132 = .ok (.lload_n 2, 1) := by decide +kernel
theorem dX4_kernelCall_133 : decode cX4_kernelCall 133 = .ok (.putfield 90, 3) := by decide +kernel
theorem dX4_kernelCall_136 : decode cX4_kernelCall 136 = .ok (.goto 109, 3) := by decide +kernel
theorem dX4_kernelCall_139 : decode cX4_kernelCall 139 = .ok (.aload_n 0, 1) := by decide +kernel
theorem dX4_kernelCall_140 : decode cX4_kernelCall 140 = .ok (.getfield 16, 3) := by decide +kernel
theorem dX4_kernelCall_143 : decode cX4_kernelCall 143 = .ok (.iconst 0, 1) := by decide +kernel
theorem dX4_kernelCall_144 : decode cX4_kernelCall 144 = .ok (.aload_n 0, 1) := by decide +kernel
theorem dX4_kernelCall_145 : decode cX4_kernelCall 145 = .ok (.getfield 90, 3) := by decide +kernel
theorem dX4_kernelCall_148 : decode cX4_kernelCall 148 = .ok (.lastore, 1) := by decide +kernel
theorem dX4_kernelCall_149 : decode cX4_kernelCall 149 = .ok (.goto 96, 3) := by decide +kernel
theorem dX4_kernelCall_152 : decode cX4_kernelCall 152 = .ok (.aload_n 0, 1) := by decide +kernel
theorem dX4_kernelCall_153 : decode cX4_kernelCall 153 = .ok (.getfield 10, 3) := by decide +kernel
theorem dX4_kernelCall_156 : decode cX4_kernelCall 156 = .ok (.invokevirtual 225, 3) := by decide +kernel
theorem dX4_kernelCall_159 : decode cX4_kernelCall 159 = .ok (.goto 86, 3) := by decide +kernel
theorem dX4_kernelCall_162 : decode cX4_kernelCall 162 = .ok (.aload_n 0, 1) := by decide +kernel
theorem dX4_kernelCall_163 : decode cX4_kernelCall 163 = .ok (.invokevirtual 228, 3) := by decide +kernel
theorem dX4_kernelCall_166 : decode cX4_kernelCall 166 = .ok (.goto 79, 3) := by decide +kernel
theorem dX4_kernelCall_169 : decode cX4_kernelCall 169 = .ok (.aload_n 0, 1) := by decide +kernel
theorem dX4_kernelCall_170 : decode cX4_kernelCall 170 = .ok (.getfield 16, 3) := by decide +kernel
theorem dX4_kernelCall_173 : decode cX4_kernelCall 173 = .ok (.iconst 0, 1) := by decide +kernel
theorem dX4_kernelCall_174 : decode cX4_kernelCall 174 = .ok (.aload_n 0, 1) := by decide +kernel
theorem dX4_kernelCall_175 : decode cX4_kernelCall 175 = .ok (.getfield 51, 3) := by decide +kernel
theorem dX4_kernelCall_178 : decode cX4_kernelCall 178 = .ok (.i2l, 1) := by decide +kernel
theorem dX4_kernelCall_179 : decode cX4_kernelCall 179 = .ok (.lastore, 1) := by decide +kernel
theorem dX4_kernelCall_180 : decode cX4_kernelCall 180 = .ok (.aload_n 0, 1) := by decide +kernel
theorem dX4_kernelCall_181 : decode cX4_kernelCall 181 = .ok (.lload_n 2, 1) := by decide +kernel
theorem dX4_kernelCall_182 : decode cX4_kernelCall 182 = .ok (.l2i, 1) := by decide +kernel
theorem dX4_kernelCall_183 : decode cX4_kernelCall 183 = .ok (.bipush 7, 2) := by decide +kernel
theorem dX4_kernelCall_185 : decode cX4_kernelCall 185 = .ok (.iand, 1) := by decide +kernel
theorem dX4_kernelCall_186 : decode cX4_kernelCall 186 = .ok (.putfield 51, 3) := by decide +kernel
theorem dX4_kernelCall_189 : decode cX4_kernelCall 189 = .ok (.goto 56, 3) := by decide +kernel
theorem dX4_kernelCall_192 : decode cX4_kernelCall 192 = .ok (.aload_n 0, 1) := by decide +kernel
theorem dX4_kernelCall_193 : decode cX4_kernelCall 193 = .ok (.getfield 16, 3) := by decide +kernel
theorem dX4_kernelCall_196 : decode cX4_kernelCall 196 = .ok (.iconst 0, 1) := by decide +kernel
theorem dX4_kernelCall_197 : decode cX4_kernelCall 197 = .ok (.aload_n 0, 1) := by decide +kernel
theorem dX4_kernelCall_198 : decode cX4_kernelCall 198 = .ok (.invokevirtual 101, 3) := by decide +kernel
theorem dX4_kernelCall_201 : decode cX4_kernelCall 201 = .ok (.i2l, 1) := by decide +kernel
theorem dX4_kernelCall_202 : decode cX4_kernelCall 202 = .ok (.lastore, 1) := by decide +kernel
theorem dX4_kernelCall_203 : decode cX4_kernelCall 203 = .ok (.goto 42, 3) := by decide +kernel
theorem dX4_kernelCall_206 : decode cX4_kernelCall 206 = .ok (.aload_n 0, 1) := by decide +kernel
theorem dX4_kernelCall_207 : decode cX4_kernelCall 207 = .ok (.lload_n 2, 1) := by decide +kernel
theorem dX4_kernelCall_208 : decode cX4_kernelCall 208 = .ok (.putfield 87, 3) := by decide +kernel
theorem dX4_kernelCall_211 : decode cX4_kernelCall 211 = .ok (.goto 34, 3) := by decide +kernel
theorem dX4_kernelCall_214 : decode cX4_kernelCall 214 = .ok (.aload_n 0, 1) := by decide +kernel
theorem dX4_kernelCall_215 : decode cX4_kernelCall 215 = .ok (.lload_n 2, 1) := by decide +kernel
theorem dX4_kernelCall_216 : decode cX4_kernelCall 216 = .ok (.putfield 84, 3) := by decide +kernel
theorem dX4_kernelCall_219 : decode cX4_kernelCall 219 = .ok (.goto 26, 3) := by decide +kernel
theorem dX4_kernelCall_222 : decode cX4_kernelCall 222 = .ok (.aload_n 0, 1) := by decide +kernel
theorem dX4_kernelCall_223 : decode cX4_kernelCall 223 = .ok (.getfield 16, 3) := by decide +kernel
theorem dX4_kernelCall_226 : decode cX4_kernelCall 226 = .ok (.iconst 0, 1) := by decide +kernel
theorem dX4_kernelCall_227 : decode cX4_kernelCall 227 = .ok (.aload_n 0, 1) := by decide +kernel
theorem dX4_kernelCall_228 : decode cX4_kernelCall 228 = .ok (.getfield 84, 3) := by decide +kernel
theorem dX4_kernelCall_231 : decode cX4_kernelCall 231 = .ok (.lastore, 1) := by decide +kernel
theorem dX4_kernelCall_232 : decode cX4_kernelCall 232 = .ok (.goto 13, 3) := by decide +kernel
theorem dX4_kernelCall_235 : decode cX4_kernelCall 235 = .ok (.aload_n 0, 1) := by decide +kernel
theorem dX4_kernelCall_236 : decode cX4_kernelCall 236 = .ok (.getfield 43, 3) := by decide +kernel
theorem dX4_kernelCall_239 : decode cX4_kernelCall 239 = .ok (.invokevirtual 231, 3) := by decide +kernel
theorem dX4_kernelCall_242 : decode cX4_kernelCall 242 = .ok (.goto 3, 3) := by decide +kernel
theorem dX4_kernelCall_245 : decode cX4_kernelCall 245 = .ok (.return_, 1) := by decide +kernel
theorem dX4_call_0 : decode cX4_call 0 = .ok (.iload_n 1, 1) := by decide +kernel
theorem dX4_call_1 : decode cX4_call 1 = .ok (.lookupswitch 266 #[(0, 242), (48, 242), (49, 242), (50, 242), (51, 242), (52, 242), (53, 242), (54, 242), (55, 242), (56, 242), (58, 242), (63, 242), (128, 147), (129, 165), (131, 203), (134, 239), (170, 183)], 147) := by decide +kernel
theorem dX4_call_148 : decode cX4_call 148 = .ok (.aload_n 0, 1) := by decide +kernel
theorem dX4_call_149 : decode cX4_call 149 = .ok (.getfield 43, 3) := by decide +kernel
theorem dX4_call_152 : decode cX4_call 152 = .ok (.iconst 3, 1) := by decide +kernel
theorem dX4_call_153 : decode cX4_call 153 = .ok (.lconst 0, 1) := by decide +kernel
theorem dX4_call_154 : decode cX4_call 154 = .ok (.lconst 0, 1) := by decide +kernel
theorem dX4_call_155 : decode cX4_call 155 = .ok (.lconst 0, 1) := by decide +kernel
theorem dX4_call_156 : decode cX4_call 156 = .ok (.aload_n 0, 1) := by decide +kernel
theorem dX4_call_157 : decode cX4_call 157 = .ok (.getfield 63, 3) := by decide +kernel
theorem dX4_call_160 : decode cX4_call 160 = .ok (.invokevirtual 127, 3) := by decide +kernel
theorem dX4_call_163 : decode cX4_call 163 = .ok (.goto 109, 3) := by decide +kernel
theorem dX4_call_166 : decode cX4_call 166 = .ok (.aload_n 0, 1) := by decide +kernel
theorem dX4_call_167 : decode cX4_call 167 = .ok (.getfield 43, 3) := by decide +kernel
theorem dX4_call_170 : decode cX4_call 170 = .ok (.iconst 3, 1) := by decide +kernel
theorem dX4_call_171 : decode cX4_call 171 = .ok (.lconst 1, 1) := by decide +kernel
theorem dX4_call_172 : decode cX4_call 172 = .ok (.lconst 0, 1) := by decide +kernel
theorem dX4_call_173 : decode cX4_call 173 = .ok (.lconst 0, 1) := by decide +kernel
theorem dX4_call_174 : decode cX4_call 174 = .ok (.aload_n 0, 1) := by decide +kernel
theorem dX4_call_175 : decode cX4_call 175 = .ok (.getfield 63, 3) := by decide +kernel
theorem dX4_call_178 : decode cX4_call 178 = .ok (.invokevirtual 127, 3) := by decide +kernel
theorem dX4_call_181 : decode cX4_call 181 = .ok (.goto 91, 3) := by decide +kernel
theorem dX4_call_184 : decode cX4_call 184 = .ok (.aload_n 0, 1) := by decide +kernel
theorem dX4_call_185 : decode cX4_call 185 = .ok (.getfield 43, 3) := by decide +kernel
theorem dX4_call_188 : decode cX4_call 188 = .ok (.iconst 3, 1) := by decide +kernel
theorem dX4_call_189 : decode cX4_call 189 = .ok (.ldc2_w 217, 3) := by decide +kernel
theorem dX4_call_192 : decode cX4_call 192 = .ok (.lconst 0, 1) := by decide +kernel
theorem dX4_call_193 : decode cX4_call 193 = .ok (.lconst 0, 1) := by decide +kernel
theorem dX4_call_194 : decode cX4_call 194 = .ok (.aload_n 0, 1) := by decide +kernel
theorem dX4_call_195 : decode cX4_call 195 = .ok (.getfield 63, 3) := by decide +kernel
theorem dX4_call_198 : decode cX4_call 198 = .ok (.invokevirtual 127, 3) := by decide +kernel
theorem dX4_call_201 : decode cX4_call 201 = .ok (.goto 71, 3) := by decide +kernel
theorem dX4_call_204 : decode cX4_call 204 = .ok (.aload_n 0, 1) := by decide +kernel
theorem dX4_call_205 : decode cX4_call 205 = .ok (.getfield 43, 3) := by decide +kernel
theorem dX4_call_208 : decode cX4_call 208 = .ok (.iconst 5, 1) := by decide +kernel
theorem dX4_call_209 : decode cX4_call 209 = .ok (.aload_n 0, 1) := by decide +kernel
theorem dX4_call_210 : decode cX4_call 210 = .ok (.getfield 16, 3) := by decide +kernel
theorem dX4_call_213 : decode cX4_call 213 = .ok (.bipush 16, 2) := by decide +kernel
theorem dX4_call_215 : decode cX4_call 215 = .ok (.laload, 1) := by decide +kernel
theorem dX4_call_216 : decode cX4_call 216 = .ok (.aload_n 0, 1) := by decide +kernel
theorem dX4_call_217 : decode cX4_call 217 = .ok (.getfield 16, 3) := by decide +kernel
theorem dX4_call_220 : decode cX4_call 220 = .ok (.bipush 17, 2) := by decide +kernel
theorem dX4_call_222 : decode cX4_call 222 = .ok (.laload, 1) := by decide +kernel
theorem dX4_call_223 : decode cX4_call 223 = .ok (.aload_n 0, 1) := by decide +kernel
theorem dX4_call_224 : decode cX4_call 224 = .ok (.getfield 16, 3) := by decide +kernel
theorem dX4_call_227 : decode cX4_call 227 = .ok (.bipush 18, 2) := by decide +kernel
theorem dX4_call_229 : decode cX4_call 229 = .ok (.laload, 1) := by decide +kernel
theorem dX4_call_230 : decode cX4_call 230 = .ok (.aload_n 0, 1) := by decide +kernel
theorem dX4_call_231 : decode cX4_call 231 = .ok (.getfield 63, 3) := by decide +kernel
theorem dX4_call_234 : decode cX4_call 234 = .ok (.invokevirtual 127, 3) := by decide +kernel
theorem dX4_call_237 : decode cX4_call 237 = .ok (.goto 35, 3) := by decide +kernel
theorem dX4_call_240 : decode cX4_call 240 = .ok (.goto 32, 3) := by decide +kernel
theorem dX4_call_243 : decode cX4_call 243 = .ok (.aload_n 0, 1) := by decide +kernel
theorem dX4_call_244 : decode cX4_call 244 = .ok (.getfield 47, 3) := by decide +kernel
theorem dX4_call_247 : decode cX4_call 247 = .ok (.iconst 1, 1) := by decide +kernel
theorem dX4_call_248 : decode cX4_call 248 = .ok (.if_icmp .ne 11, 3) := by decide +kernel
theorem dX4_call_251 : decode cX4_call 251 = .ok (.aload_n 0, 1) := by decide +kernel
theorem dX4_call_252 : decode cX4_call 252 = .ok (.iconst 3, 1) := by decide +kernel
theorem dX4_call_253 : decode cX4_call 253 = .ok (.invokevirtual 173, 3) := by decide +kernel
theorem dX4_call_256 : decode cX4_call 256 = .ok (.goto 16, 3) := by decide +kernel
theorem dX4_call_259 : decode cX4_call 259 = .ok (.aload_n 0, 1) := by decide +kernel
theorem dX4_call_260 : decode cX4_call 260 = .ok (.iload_n 1, 1) := by decide +kernel
theorem dX4_call_261 : decode cX4_call 261 = .ok (.invokevirtual 219, 3) := by decide +kernel
theorem dX4_call_264 : decode cX4_call 264 = .ok (.goto 8, 3) := by decide +kernel
theorem dX4_call_267 : decode cX4_call 267 = .ok (.aload_n 0, 1) := by decide +kernel
theorem dX4_call_268 : decode cX4_call 268 = .ok (.iconst 4, 1) := by decide +kernel
theorem dX4_call_269 : decode cX4_call 269 = .ok (.invokevirtual 173, 3) := by decide +kernel
theorem dX4_call_272 : decode cX4_call 272 = .ok (.return_, 1) := by decide +kernel
