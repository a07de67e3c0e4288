theorem dX10_init_0 : decode cX10_init 0 = .ok (.aload_n 0, 1) := by decide +kernel
theorem dX10_init_1 : decode cX10_init 1 = .ok (.invokespecial 1, 3) := by decide +kernel
theorem dX10_init_4 : decode cX10_init 4 = .ok (.aload_n 0, 1) := by decide +kernel
theorem dX10_init_5 : decode cX10_init 5 = .ok (.sipush 215, 3) := by decide +kernel
theorem dX10_init_8 : decode cX10_init 8 = .ok (.newarray .int, 2) := by decide +kernel
theorem dX10_init_10 : decode cX10_init 10 = .ok (.putfield 7, 3) := by decide +kernel
theorem dX10_init_13 : decode cX10_init 13 = .ok (.aload_n 0, 1) := by decide +kernel
theorem dX10_init_14 : decode cX10_init 14 = .ok (.sipush 860, 3) := by decide +kernel
theorem dX10_init_17 : decode cX10_init 17 = .ok (.newarray .int, 2) := by decide +kernel
theorem dX10_init_19 : decode cX10_init 19 = .ok (.putfield 13, 3) := by decide +kernel
theorem dX10_init_22 : decode cX10_init 22 = .ok (.aload_n 0, 1) := by decide +kernel
theorem dX10_init_23 : decode cX10_init 23 = .ok (.sipush 215, 3) := by decide +kernel
theorem dX10_init_26 : decode cX10_init 26 = .ok (.newarray .int, 2) := by decide +kernel
theorem dX10_init_28 : decode cX10_init 28 = .ok (.putfield 16, 3) := by decide +kernel
theorem dX10_init_31 : decode cX10_init 31 = .ok (.aload_n 0, 1) := by decide +kernel
theorem dX10_init_32 : decode cX10_init 32 = .ok (.bipush 64, 2) := by decide +kernel
theorem dX10_init_34 : decode cX10_init 34 = .ok (.newarray .int, 2) := by decide +kernel
theorem dX10_init_36 : decode cX10_init 36 = .ok (.putfield 19, 3) := by decide +kernel
theorem dX10_init_39 : decode cX10_init 39 = .ok (.aload_n 0, 1) := by decide +kernel
theorem dX10_init_40 : decode cX10_init 40 = .ok (.sipush 150, 3) := by decide +kernel
theorem dX10_init_43 : decode cX10_init 43 = .ok (.newarray .byte, 2) := by decide +kernel
theorem dX10_init_45 : decode cX10_init 45 = .ok (.putfield 22, 3) := by decide +kernel
theorem dX10_init_48 : decode cX10_init 48 = .ok (.aload_n 0, 1) := by decide +kernel
theorem dX10_init_49 : decode cX10_init 49 = .ok (.iconst 4, 1) := by decide +kernel
theorem dX10_init_50 : decode cX10_init 50 = .ok (.newarray .int, 2) := by decide +kernel
theorem dX10_init_52 : decode cX10_init 52 = .ok (.putfield 26, 3) := by decide +kernel
theorem dX10_init_55 : decode cX10_init 55 = .ok (.return_, 1) := by decide +kernel
theorem dX10_thrown_0 : decode cX10_thrown 0 = .ok (.aload_n 0, 1) := by decide +kernel
theorem dX10_thrown_1 : decode cX10_thrown 1 = .ok (.getfield 29, 3) := by decide +kernel
theorem dX10_thrown_4 : decode cX10_thrown 4 = .ok (.ireturn, 1) := by decide +kernel
theorem dX10_in_0 : decode cX10_in 0 = .ok (.iload_n 0, 1) := by decide +kernel
theorem dX10_in_1 : decode cX10_in 1 = .ok (.iload_n 1, 1) := by decide +kernel
theorem dX10_in_2 : decode cX10_in 2 = .ok (.if_icmp .lt 12, 3) := by decide +kernel
theorem dX10_in_5 : decode cX10_in 5 = .ok (.iload_n 0, 1) := by decide +kernel
theorem dX10_in_6 : decode cX10_in 6 = .ok (.iload_n 2, 1) := by decide +kernel
theorem dX10_in_7 : decode cX10_in 7 = .ok (.if_icmp .gt 7, 3) := by decide +kernel
theorem dX10_in_10 : decode cX10_in 10 = .ok (.iconst 1, 1) := by decide +kernel
theorem dX10_in_11 : decode cX10_in 11 = .ok (.goto 4, 3) := by decide +kernel
theorem dX10_in_14 : decode cX10_in 14 = .ok (.iconst 0, 1) := by decide +kernel
theorem dX10_in_15 : decode cX10_in 15 = .ok (.ireturn, 1) := by decide +kernel
theorem dX10_fails_0 : decode cX10_fails 0 = .ok (.aload_n 0, 1) := by decide +kernel
theorem dX10_fails_1 : decode cX10_fails 1 = .ok (.iload_n 1, 1) := by decide +kernel
theorem dX10_fails_2 : decode cX10_fails 2 = .ok (.ifCond .ne 7, 3) := by decide +kernel
theorem dX10_fails_5 : decode cX10_fails 5 = .ok (.iconst 1, 1) := by decide +kernel
theorem dX10_fails_6 : decode cX10_fails 6 = .ok (.goto 20, 3) := by decide +kernel
theorem dX10_fails_9 : decode cX10_fails 9 = .ok (.iload_n 2, 1) := by decide +kernel
theorem dX10_fails_10 : decode cX10_fails 10 = .ok (.ifCond .ne 7, 3) := by decide +kernel
theorem dX10_fails_13 : decode cX10_fails 13 = .ok (.iconst 2, 1) := by decide +kernel
theorem dX10_fails_14 : decode cX10_fails 14 = .ok (.goto 12, 3) := by decide +kernel
theorem dX10_fails_17 : decode cX10_fails 17 = .ok (.iload_n 3, 1) := by decide +kernel
theorem dX10_fails_18 : decode cX10_fails 18 = .ok (.ifCond .ne 7, 3) := by decide +kernel
theorem dX10_fails_21 : decode cX10_fails 21 = .ok (.iconst 3, 1) := by decide +kernel
theorem dX10_fails_22 : decode cX10_fails 22 = .ok (.goto 4, 3) := by decide +kernel
theorem dX10_fails_25 : decode cX10_fails 25 = .ok (.iconst 0, 1) := by decide +kernel
theorem dX10_fails_26 : decode cX10_fails 26 = .ok (.putfield 29, 3) := by decide +kernel
theorem dX10_fails_29 : decode cX10_fails 29 = .ok (.aload_n 0, 1) := by decide +kernel
theorem dX10_fails_30 : decode cX10_fails 30 = .ok (.getfield 29, 3) := by decide +kernel
theorem dX10_fails_33 : decode cX10_fails 33 = .ok (.ifCond .eq 7, 3) := by decide +kernel
theorem dX10_fails_36 : decode cX10_fails 36 = .ok (.iconst 1, 1) := by decide +kernel
theorem dX10_fails_37 : decode cX10_fails 37 = .ok (.goto 4, 3) := by decide +kernel
theorem dX10_fails_40 : decode cX10_fails 40 = .ok (.iconst 0, 1) := by decide +kernel
theorem dX10_fails_41 : decode cX10_fails 41 = .ok (.ireturn, 1) := by decide +kernel
theorem dX10_save_0 : decode cX10_save 0 = .ok (.aload_n 0, 1) := by decide +kernel
theorem dX10_save_1 : decode cX10_save 1 = .ok (.getfield 33, 3) := by decide +kernel
theorem dX10_save_4 : decode cX10_save 4 = .ok (.iconst 4, 1) := by decide +kernel
theorem dX10_save_5 : decode cX10_save 5 = .ok (.if_icmp .ne 44, 3) := by decide +kernel
theorem dX10_save_8 : decode cX10_save 8 = .ok (.iconst 0, 1) := by decide +kernel
theorem dX10_save_9 : decode cX10_save 9 = .ok (.istore_n 1, 1) := by decide +kernel
theorem dX10_save_10 : decode cX10_save 10 = .ok (.iload_n 1, 1) := by decide +kernel
theorem dX10_save_11 : decode cX10_save 11 = .ok (.sipush 645, 3) := by decide +kernel
theorem dX10_save_14 : decode cX10_save 14 = .ok (.if_icmp .ge 25, 3) := by decide +kernel
theorem dX10_save_17 : decode cX10_save 17 = .ok (.aload_n 0, 1) := by decide +kernel
theorem dX10_save_18 : decode cX10_save 18 = .ok (.getfield 13, 3) := by decide +kernel
theorem dX10_save_21 : decode cX10_save 21 = .ok (.iload_n 1, 1) := by decide +kernel
theorem dX10_save_22 : decode cX10_save 22 = .ok (.aload_n 0, 1) := by decide +kernel
theorem dX10_save_23 : decode cX10_save 23 = .ok (.getfield 13, 3) := by decide +kernel
theorem dX10_save_26 : decode cX10_save 26 = .ok (.sipush 215, 3) := by decide +kernel
theorem dX10_save_29 : decode cX10_save 29 = .ok (.iload_n 1, 1) := by decide +kernel
theorem dX10_save_30 : decode cX10_save 30 = .ok (.iadd, 1) := by decide +kernel
theorem dX10_save_31 : decode cX10_save 31 = .ok (.iaload, 1) := by decide +kernel
theorem dX10_save_32 : decode cX10_save 32 = .ok (.iastore, 1) := by decide +kernel
theorem dX10_save_33 : decode cX10_save 33 = .ok (.iinc 1 1, 3) := by decide +kernel
theorem dX10_save_36 : decode cX10_save 36 = .ok (.goto (-26), 3) := by decide +kernel
theorem dX10_save_39 : decode cX10_save 39 = .ok (.aload_n 0, 1) := by decide +kernel
theorem dX10_save_40 : decode cX10_save 40 = .ok (.dup, 1) := by decide +kernel
theorem dX10_save_41 : decode cX10_save 41 = .ok (.getfield 33, 3) := by decide +kernel
theorem dX10_save_44 : decode cX10_save 44 = .ok (.iconst 1, 1) := by decide +kernel
theorem dX10_save_45 : decode cX10_save 45 = .ok (.isub, 1) := by decide +kernel
theorem dX10_save_46 : decode cX10_save 46 = .ok (.putfield 33, 3) := by decide +kernel
theorem dX10_save_49 : decode cX10_save 49 = .ok (.iconst 0, 1) := by decide +kernel
theorem dX10_save_50 : decode cX10_save 50 = .ok (.istore_n 1, 1) := by decide +kernel
theorem dX10_save_51 : decode cX10_save 51 = .ok (.iload_n 1, 1) := by decide +kernel
theorem dX10_save_52 : decode cX10_save 52 = .ok (.sipush 215, 3) := by decide +kernel
theorem dX10_save_55 : decode cX10_save 55 = .ok (.if_icmp .ge 30, 3) := by decide +kernel
theorem dX10_save_58 : decode cX10_save 58 = .ok (.aload_n 0, 1) := by decide +kernel
theorem dX10_save_59 : decode cX10_save 59 = .ok (.getfield 13, 3) := by decide +kernel
theorem dX10_save_62 : decode cX10_save 62 = .ok (.sipush 215, 3) := by decide +kernel
theorem dX10_save_65 : decode cX10_save 65 = .ok (.aload_n 0, 1) := by decide +kernel
theorem dX10_save_66 : decode cX10_save 66 = .ok (.getfield 33, 3) := by decide +kernel
theorem dX10_save_69 : decode cX10_save 69 = .ok (.imul, 1) := by decide +kernel
theorem dX10_save_70 : decode cX10_save 70 = .ok (.iload_n 1, 1) := by decide +kernel
theorem dX10_save_71 : decode cX10_save 71 = .ok (.iadd, 1) := by decide +kernel
theorem dX10_save_72 : decode cX10_save 72 = .ok (.aload_n 0, 1) := by decide +kernel
theorem dX10_save_73 : decode cX10_save 73 = .ok (.getfield 7, 3) := by decide +kernel
theorem dX10_save_76 : decode cX10_save 76 = .ok (.iload_n 1, 1) := by decide +kernel
theorem dX10_save_77 : decode cX10_save 77 = .ok (.iaload, 1) := by decide +kernel
theorem dX10_save_78 : decode cX10_save 78 = .ok (.iastore, 1) := by decide +kernel
theorem dX10_save_79 : decode cX10_save 79 = .ok (.iinc 1 1, 3) := by decide +kernel
theorem dX10_save_82 : decode cX10_save 82 = .ok (.goto (-31), 3) := by decide +kernel
theorem dX10_save_85 : decode cX10_save 85 = .ok (.aload_n 0, 1) := by decide +kernel
theorem dX10_save_86 : decode cX10_save 86 = .ok (.dup, 1) := by decide +kernel
theorem dX10_save_87 : decode cX10_save 87 = .ok (.getfield 33, 3) := by decide +kernel
theorem dX10_save_90 : decode cX10_save 90 = .ok (.iconst 1, 1) := by decide +kernel
theorem dX10_save_91 : decode cX10_save 91 = .ok (.iadd, 1) := by decide +kernel
theorem dX10_save_92 : decode cX10_save 92 = .ok (.putfield 33, 3) := by decide +kernel
theorem dX10_save_95 : decode cX10_save 95 = .ok (.return_, 1) := by decide +kernel
theorem dX10_hold_0 : decode cX10_hold 0 = .ok (.iconst 0, 1) := by decide +kernel
theorem dX10_hold_1 : decode cX10_hold 1 = .ok (.istore_n 1, 1) := by decide +kernel
theorem dX10_hold_2 : decode cX10_hold 2 = .ok (.iload_n 1, 1) := by decide +kernel
theorem dX10_hold_3 : decode cX10_hold 3 = .ok (.sipush 215, 3) := by decide +kernel
theorem dX10_hold_6 : decode cX10_hold 6 = .ok (.if_icmp .ge 21, 3) := by decide +kernel
theorem dX10_hold_9 : decode cX10_hold 9 = .ok (.aload_n 0, 1) := by decide +kernel
theorem dX10_hold_10 : decode cX10_hold 10 = .ok (.getfield 16, 3) := by decide +kernel
theorem dX10_hold_13 : decode cX10_hold 13 = .ok (.iload_n 1, 1) := by decide +kernel
theorem dX10_hold_14 : decode cX10_hold 14 = .ok (.aload_n 0, 1) := by decide +kernel
theorem dX10_hold_15 : decode cX10_hold 15 = .ok (.getfield 7, 3) := by decide +kernel
theorem dX10_hold_18 : decode cX10_hold 18 = .ok (.iload_n 1, 1) := by decide +kernel
theorem dX10_hold_19 : decode cX10_hold 19 = .ok (.iaload, 1) := by decide +kernel
theorem dX10_hold_20 : decode cX10_hold 20 = .ok (.iastore, 1) := by decide +kernel
theorem dX10_hold_21 : decode cX10_hold 21 = .ok (.iinc 1 1, 3) := by decide +kernel
theorem dX10_hold_24 : decode cX10_hold 24 = .ok (.goto (-22), 3) := by decide +kernel
theorem dX10_hold_27 : decode cX10_hold 27 = .ok (.return_, 1) := by decide +kernel
theorem dX10_putBack_0 : decode cX10_putBack 0 = .ok (.iconst 0, 1) := by decide +kernel
theorem dX10_putBack_1 : decode cX10_putBack 1 = .ok (.istore_n 1, 1) := by decide +kernel
theorem dX10_putBack_2 : decode cX10_putBack 2 = .ok (.iload_n 1, 1) := by decide +kernel
theorem dX10_putBack_3 : decode cX10_putBack 3 = .ok (.sipush 215, 3) := by decide +kernel
theorem dX10_putBack_6 : decode cX10_putBack 6 = .ok (.if_icmp .ge 21, 3) := by decide +kernel
theorem dX10_putBack_9 : decode cX10_putBack 9 = .ok (.aload_n 0, 1) := by decide +kernel
theorem dX10_putBack_10 : decode cX10_putBack 10 = .ok (.getfield 7, 3) := by decide +kernel
theorem dX10_putBack_13 : decode cX10_putBack 13 = .ok (.iload_n 1, 1) := by decide +kernel
theorem dX10_putBack_14 : decode cX10_putBack 14 = .ok (.aload_n 0, 1) := by decide +kernel
theorem dX10_putBack_15 : decode cX10_putBack 15 = .ok (.getfield 16, 3) := by decide +kernel
theorem dX10_putBack_18 : decode cX10_putBack 18 = .ok (.iload_n 1, 1) := by decide +kernel
theorem dX10_putBack_19 : decode cX10_putBack 19 = .ok (.iaload, 1) := by decide +kernel
theorem dX10_putBack_20 : decode cX10_putBack 20 = .ok (.iastore, 1) := by decide +kernel
theorem dX10_putBack_21 : decode cX10_putBack 21 = .ok (.iinc 1 1, 3) := by decide +kernel
theorem dX10_putBack_24 : decode cX10_putBack 24 = .ok (.goto (-22), 3) := by decide +kernel
theorem dX10_putBack_27 : decode cX10_putBack 27 = .ok (.return_, 1) := by decide +kernel
theorem dX10_isSite_0 : decode cX10_isSite 0 = .ok (.iload_n 0, 1) := by decide +kernel
theorem dX10_isSite_1 : decode cX10_isSite 1 = .ok (.iconst 0, 1) := by decide +kernel
theorem dX10_isSite_2 : decode cX10_isSite 2 = .ok (.bipush 7, 2) := by decide +kernel
theorem dX10_isSite_4 : decode cX10_isSite 4 = .ok (.invokestatic 36, 3) := by decide +kernel
theorem dX10_isSite_7 : decode cX10_isSite 7 = .ok (.ireturn, 1) := by decide +kernel
theorem dX10_isKind_0 : decode cX10_isKind 0 = .ok (.iload_n 0, 1) := by decide +kernel
theorem dX10_isKind_1 : decode cX10_isKind 1 = .ok (.iconst 0, 1) := by decide +kernel
theorem dX10_isKind_2 : decode cX10_isKind 2 = .ok (.iconst 2, 1) := by decide +kernel
theorem dX10_isKind_3 : decode cX10_isKind 3 = .ok (.invokestatic 36, 3) := by decide +kernel
theorem dX10_isKind_6 : decode cX10_isKind 6 = .ok (.ireturn, 1) := by decide +kernel
theorem dX10_isLevel_0 : decode cX10_isLevel 0 = .ok (.iload_n 0, 1) := by decide +kernel
theorem dX10_isLevel_1 : decode cX10_isLevel 1 = .ok (.iconst 0, 1) := by decide +kernel
theorem dX10_isLevel_2 : decode cX10_isLevel 2 = .ok (.iconst 5, 1) := by decide +kernel
theorem dX10_isLevel_3 : decode cX10_isLevel 3 = .ok (.invokestatic 36, 3) := by decide +kernel
theorem dX10_isLevel_6 : decode cX10_isLevel 6 = .ok (.ireturn, 1) := by decide +kernel
theorem dX10_isTool_0 : decode cX10_isTool 0 = .ok (.iload_n 1, 1) := by decide +kernel
theorem dX10_isTool_1 : decode cX10_isTool 1 = .ok (.iconst 0, 1) := by decide +kernel
theorem dX10_isTool_2 : decode cX10_isTool 2 = .ok (.aload_n 0, 1) := by decide +kernel
theorem dX10_isTool_3 : decode cX10_isTool 3 = .ok (.getfield 7, 3) := by decide +kernel
theorem dX10_isTool_6 : decode cX10_isTool 6 = .ok (.bipush 10, 2) := by decide +kernel
theorem dX10_isTool_8 : decode cX10_isTool 8 = .ok (.iaload, 1) := by decide +kernel
theorem dX10_isTool_9 : decode cX10_isTool 9 = .ok (.iconst 1, 1) := by decide +kernel
theorem dX10_isTool_10 : decode cX10_isTool 10 = .ok (.isub, 1) := by decide +kernel
theorem dX10_isTool_11 : decode cX10_isTool 11 = .ok (.invokestatic 36, 3) := by decide +kernel
theorem dX10_isTool_14 : decode cX10_isTool 14 = .ok (.ireturn, 1) := by decide +kernel
theorem dX10_upwards_0 : decode cX10_upwards 0 = .ok (.iload_n 0, 1) := by decide +kernel
theorem dX10_upwards_1 : decode cX10_upwards 1 = .ok (.iload_n 1, 1) := by decide +kernel
theorem dX10_upwards_2 : decode cX10_upwards 2 = .ok (.iadd, 1) := by decide +kernel
theorem dX10_upwards_3 : decode cX10_upwards 3 = .ok (.iconst 1, 1) := by decide +kernel
theorem dX10_upwards_4 : decode cX10_upwards 4 = .ok (.isub, 1) := by decide +kernel
theorem dX10_upwards_5 : decode cX10_upwards 5 = .ok (.iload_n 1, 1) := by decide +kernel
theorem dX10_upwards_6 : decode cX10_upwards 6 = .ok (.idiv, 1) := by decide +kernel
theorem dX10_upwards_7 : decode cX10_upwards 7 = .ok (.ireturn, 1) := by decide +kernel
theorem dX10_drop_0 : decode cX10_drop 0 = .ok (.iconst 0, 1) := by decide +kernel
theorem dX10_drop_1 : decode cX10_drop 1 = .ok (.istore_n 2, 1) := by decide +kernel
theorem dX10_drop_2 : decode cX10_drop 2 = .ok (.iconst 0, 1) := by decide +kernel
theorem dX10_drop_3 : decode cX10_drop 3 = .ok (.istore_n 3, 1) := by decide +kernel
theorem dX10_drop_4 : decode cX10_drop 4 = .ok (.iload_n 3, 1) := by decide +kernel
theorem dX10_drop_5 : decode cX10_drop 5 = .ok (.aload_n 0, 1) := by decide +kernel
theorem dX10_drop_6 : decode cX10_drop 6 = .ok (.getfield 7, 3) := by decide +kernel
theorem dX10_drop_9 : decode cX10_drop 9 = .ok (.bipush 12, 2) := by decide +kernel
theorem dX10_drop_11 : decode cX10_drop 11 = .ok (.iload_n 1, 1) := by decide +kernel
theorem dX10_drop_12 : decode cX10_drop 12 = .ok (.iadd, 1) := by decide +kernel
theorem dX10_drop_13 : decode cX10_drop 13 = .ok (.iaload, 1) := by decide +kernel
theorem dX10_drop_14 : decode cX10_drop 14 = .ok (.if_icmp .ge 86, 3) := by decide +kernel
theorem dX10_drop_17 : decode cX10_drop 17 = .ok (.bipush 6, 2) := by decide +kernel
theorem dX10_drop_19 : decode cX10_drop 19 = .ok (.iload_n 1, 1) := by decide +kernel
theorem dX10_drop_20 : decode cX10_drop 20 = .ok (.imul, 1) := by decide +kernel
theorem dX10_drop_21 : decode cX10_drop 21 = .ok (.iload_n 3, 1) := by decide +kernel
theorem dX10_drop_22 : decode cX10_drop 22 = .ok (.iadd, 1) := by decide +kernel
theorem dX10_drop_23 : decode cX10_drop 23 = .ok (.istore 4, 2) := by decide +kernel
theorem dX10_drop_25 : decode cX10_drop 25 = .ok (.bipush 6, 2) := by decide +kernel
theorem dX10_drop_27 : decode cX10_drop 27 = .ok (.iload_n 1, 1) := by decide +kernel
theorem dX10_drop_28 : decode cX10_drop 28 = .ok (.imul, 1) := by decide +kernel
theorem dX10_drop_29 : decode cX10_drop 29 = .ok (.iload_n 2, 1) := by decide +kernel
theorem dX10_drop_30 : decode cX10_drop 30 = .ok (.iadd, 1) := by decide +kernel
theorem dX10_drop_31 : decode cX10_drop 31 = .ok (.istore 5, 2) := by decide +kernel
theorem dX10_drop_33 : decode cX10_drop 33 = .ok (.aload_n 0, 1) := by decide +kernel
theorem dX10_drop_34 : decode cX10_drop 34 = .ok (.getfield 7, 3) := by decide +kernel
theorem dX10_drop_37 : decode cX10_drop 37 = .ok (.bipush 44, 2) := by decide +kernel
theorem dX10_drop_39 : decode cX10_drop 39 = .ok (.iload 5, 2) := by decide +kernel
theorem dX10_drop_41 : decode cX10_drop 41 = .ok (.iadd, 1) := by decide +kernel
theorem dX10_drop_42 : decode cX10_drop 42 = .ok (.aload_n 0, 1) := by decide +kernel
theorem dX10_drop_43 : decode cX10_drop 43 = .ok (.getfield 7, 3) := by decide +kernel
theorem dX10_drop_46 : decode cX10_drop 46 = .ok (.bipush 44, 2) := by decide +kernel
theorem dX10_drop_48 : decode cX10_drop 48 = .ok (.iload 4, 2) := by decide +kernel
theorem dX10_drop_50 : decode cX10_drop 50 = .ok (.iadd, 1) := by decide +kernel
theorem dX10_drop_51 : decode cX10_drop 51 = .ok (.iaload, 1) := by decide +kernel
theorem dX10_drop_52 : decode cX10_drop 52 = .ok (.iastore, 1) := by decide +kernel
theorem dX10_drop_53 : decode cX10_drop 53 = .ok (.aload_n 0, 1) := by decide +kernel
theorem dX10_drop_54 : decode cX10_drop 54 = .ok (.getfield 7, 3) := by decide +kernel
theorem dX10_drop_57 : decode cX10_drop 57 = .ok (.bipush 92, 2) := by decide +kernel
theorem dX10_drop_59 : decode cX10_drop 59 = .ok (.iload 5, 2) := by decide +kernel
theorem dX10_drop_61 : decode cX10_drop 61 = .ok (.iadd, 1) := by decide +kernel
theorem dX10_drop_62 : decode cX10_drop 62 = .ok (.aload_n 0, 1) := by decide +kernel
theorem dX10_drop_63 : decode cX10_drop 63 = .ok (.getfield 7, 3) := by decide +kernel
theorem dX10_drop_66 : decode cX10_drop 66 = .ok (.bipush 92, 2) := by decide +kernel
theorem dX10_drop_68 : decode cX10_drop 68 = .ok (.iload 4, 2) := by decide +kernel
theorem dX10_drop_70 : decode cX10_drop 70 = .ok (.iadd, 1) := by decide +kernel
theorem dX10_drop_71 : decode cX10_drop 71 = .ok (.iaload, 1) := by decide +kernel
theorem dX10_drop_72 : decode cX10_drop 72 = .ok (.iastore, 1) := by decide +kernel
theorem dX10_drop_73 : decode cX10_drop 73 = .ok (.iload_n 2, 1) := by decide +kernel
theorem dX10_drop_74 : decode cX10_drop 74 = .ok (.aload_n 0, 1) := by decide +kernel
theorem dX10_drop_75 : decode cX10_drop 75 = .ok (.getfield 7, 3) := by decide +kernel
theorem dX10_drop_78 : decode cX10_drop 78 = .ok (.bipush 92, 2) := by decide +kernel
theorem dX10_drop_80 : decode cX10_drop 80 = .ok (.iload 5, 2) := by decide +kernel
theorem dX10_drop_82 : decode cX10_drop 82 = .ok (.iadd, 1) := by decide +kernel
theorem dX10_drop_83 : decode cX10_drop 83 = .ok (.iaload, 1) := by decide +kernel
theorem dX10_drop_84 : decode cX10_drop 84 = .ok (.ifCond .le 7, 3) := by decide +kernel
theorem dX10_drop_87 : decode cX10_drop 87 = .ok (.iconst 1, 1) := by decide +kernel
theorem dX10_drop_88 : decode cX10_drop 88 = .ok (.goto 4, 3) := by decide +kernel
theorem dX10_drop_91 : decode cX10_drop 91 = .ok (.iconst 0, 1) := by decide +kernel
theorem dX10_drop_92 : decode cX10_drop 92 = .ok (.iadd, 1) := by decide +kernel
theorem dX10_drop_93 : decode cX10_drop 93 = .ok (.istore_n 2, 1) := by decide +kernel
theorem dX10_drop_94 : decode cX10_drop 94 = .ok (.iinc 3 1, 3) := by decide +kernel
theorem dX10_drop_97 : decode cX10_drop 97 = .ok (.goto (-93), 3) := by decide +kernel
theorem dX10_drop_100 : decode cX10_drop 100 = .ok (.aload_n 0, 1) := by decide +kernel
theorem dX10_drop_101 : decode cX10_drop 101 = .ok (.getfield 7, 3) := by decide +kernel
theorem dX10_drop_104 : decode cX10_drop 104 = .ok (.bipush 12, 2) := by decide +kernel
theorem dX10_drop_106 : decode cX10_drop 106 = .ok (.iload_n 1, 1) := by decide +kernel
theorem dX10_drop_107 : decode cX10_drop 107 = .ok (.iadd, 1) := by decide +kernel
theorem dX10_drop_108 : decode cX10_drop 108 = .ok (.iload_n 2, 1) := by decide +kernel
theorem dX10_drop_109 : decode cX10_drop 109 = .ok (.iastore, 1) := by decide +kernel
theorem dX10_drop_110 : decode cX10_drop 110 = .ok (.return_, 1) := by decide +kernel
theorem dX10_volumes_0 : decode cX10_volumes 0 = .ok (.iconst 0, 1) := by decide +kernel
theorem dX10_volumes_1 : decode cX10_volumes 1 = .ok (.istore_n 2, 1) := by decide +kernel
theorem dX10_volumes_2 : decode cX10_volumes 2 = .ok (.iconst 0, 1) := by decide +kernel
theorem dX10_volumes_3 : decode cX10_volumes 3 = .ok (.istore_n 3, 1) := by decide +kernel
theorem dX10_volumes_4 : decode cX10_volumes 4 = .ok (.iload_n 3, 1) := by decide +kernel
theorem dX10_volumes_5 : decode cX10_volumes 5 = .ok (.aload_n 0, 1) := by decide +kernel
theorem dX10_volumes_6 : decode cX10_volumes 6 = .ok (.getfield 7, 3) := by decide +kernel
theorem dX10_volumes_9 : decode cX10_volumes 9 = .ok (.bipush 12, 2) := by decide +kernel
theorem dX10_volumes_11 : decode cX10_volumes 11 = .ok (.iload_n 1, 1) := by decide +kernel
theorem dX10_volumes_12 : decode cX10_volumes 12 = .ok (.iadd, 1) := by decide +kernel
theorem dX10_volumes_13 : decode cX10_volumes 13 = .ok (.iaload, 1) := by decide +kernel
theorem dX10_volumes_14 : decode cX10_volumes 14 = .ok (.if_icmp .ge 26, 3) := by decide +kernel
theorem dX10_volumes_17 : decode cX10_volumes 17 = .ok (.iload_n 2, 1) := by decide +kernel
theorem dX10_volumes_18 : decode cX10_volumes 18 = .ok (.aload_n 0, 1) := by decide +kernel
theorem dX10_volumes_19 : decode cX10_volumes 19 = .ok (.getfield 7, 3) := by decide +kernel
theorem dX10_volumes_22 : decode cX10_volumes 22 = .ok (.bipush 92, 2) := by decide +kernel
theorem dX10_volumes_24 : decode cX10_volumes 24 = .ok (.bipush 6, 2) := by decide +kernel
theorem dX10_volumes_26 : decode cX10_volumes 26 = .ok (.iload_n 1, 1) := by decide +kernel
theorem dX10_volumes_27 : decode cX10_volumes 27 = .ok (.imul, 1) := by decide +kernel
theorem dX10_volumes_28 : decode cX10_volumes 28 = .ok (.iadd, 1) := by decide +kernel
theorem dX10_volumes_29 : decode cX10_volumes 29 = .ok (.iload_n 3, 1) := by decide +kernel
theorem dX10_volumes_30 : decode cX10_volumes 30 = .ok (.iadd, 1) := by decide +kernel
theorem dX10_volumes_31 : decode cX10_volumes 31 = .ok (.iaload, 1) := by decide +kernel
theorem dX10_volumes_32 : decode cX10_volumes 32 = .ok (.iadd, 1) := by decide +kernel
theorem dX10_volumes_33 : decode cX10_volumes 33 = .ok (.istore_n 2, 1) := by decide +kernel
theorem dX10_volumes_34 : decode cX10_volumes 34 = .ok (.iinc 3 1, 3) := by decide +kernel
theorem dX10_volumes_37 : decode cX10_volumes 37 = .ok (.goto (-33), 3) := by decide +kernel
theorem dX10_volumes_40 : decode cX10_volumes 40 = .ok (.iload_n 2, 1) := by decide +kernel
theorem dX10_volumes_41 : decode cX10_volumes 41 = .ok (.ireturn, 1) := by decide +kernel
theorem dX10_isSideLit_0 : decode cX10_isSideLit 0 = .ok (.aload_n 0, 1) := by decide +kernel
theorem dX10_isSideLit_1 : decode cX10_isSideLit 1 = .ok (.getfield 7, 3) := by decide +kernel
theorem dX10_isSideLit_4 : decode cX10_isSideLit 4 = .ok (.bipush 8, 2) := by decide +kernel
theorem dX10_isSideLit_6 : decode cX10_isSideLit 6 = .ok (.iaload, 1) := by decide +kernel
theorem dX10_isSideLit_7 : decode cX10_isSideLit 7 = .ok (.iconst 4, 1) := by decide +kernel
theorem dX10_isSideLit_8 : decode cX10_isSideLit 8 = .ok (.idiv, 1) := by decide +kernel
theorem dX10_isSideLit_9 : decode cX10_isSideLit 9 = .ok (.istore_n 3, 1) := by decide +kernel
theorem dX10_isSideLit_10 : decode cX10_isSideLit 10 = .ok (.iload_n 3, 1) := by decide +kernel
theorem dX10_isSideLit_11 : decode cX10_isSideLit 11 = .ok (.iconst 1, 1) := by decide +kernel
theorem dX10_isSideLit_12 : decode cX10_isSideLit 12 = .ok (.if_icmp .ne 21, 3) := by decide +kernel
theorem dX10_isSideLit_15 : decode cX10_isSideLit 15 = .ok (.aload_n 0, 1) := by decide +kernel
theorem dX10_isSideLit_16 : decode cX10_isSideLit 16 = .ok (.getfield 7, 3) := by decide +kernel
theorem dX10_isSideLit_19 : decode cX10_isSideLit 19 = .ok (.bipush 20, 2) := by decide +kernel
theorem dX10_isSideLit_21 : decode cX10_isSideLit 21 = .ok (.iload_n 1, 1) := by decide +kernel
theorem dX10_isSideLit_22 : decode cX10_isSideLit 22 = .ok (.iadd, 1) := by decide +kernel
theorem dX10_isSideLit_23 : decode cX10_isSideLit 23 = .ok (.iaload, 1) := by decide +kernel
theorem dX10_isSideLit_24 : decode cX10_isSideLit 24 = .ok (.ifCond .ne 7, 3) := by decide +kernel
theorem dX10_isSideLit_27 : decode cX10_isSideLit 27 = .ok (.iconst 1, 1) := by decide +kernel
theorem dX10_isSideLit_28 : decode cX10_isSideLit 28 = .ok (.goto 4, 3) := by decide +kernel
theorem dX10_isSideLit_31 : decode cX10_isSideLit 31 = .ok (.iconst 0, 1) := by decide +kernel
theorem dX10_isSideLit_32 : decode cX10_isSideLit 32 = .ok (.ireturn, 1) := by decide +kernel
theorem dX10_isSideLit_33 : decode cX10_isSideLit 33 = .ok (.iload_n 3, 1) := by decide +kernel
theorem dX10_isSideLit_34 : decode cX10_isSideLit 34 = .ok (.ifCond .ne 9, 3) := by decide +kernel
theorem dX10_isSideLit_37 : decode cX10_isSideLit 37 = .ok (.iload_n 1, 1) := by decide +kernel
theorem dX10_isSideLit_38 : decode cX10_isSideLit 38 = .ok (.iconst 1, 1) := by decide +kernel
theorem dX10_isSideLit_39 : decode cX10_isSideLit 39 = .ok (.iadd, 1) := by decide +kernel
theorem dX10_isSideLit_40 : decode cX10_isSideLit 40 = .ok (.goto 6, 3) := by decide +kernel
theorem dX10_isSideLit_43 : decode cX10_isSideLit 43 = .ok (.iload_n 1, 1) := by decide +kernel
theorem dX10_isSideLit_44 : decode cX10_isSideLit 44 = .ok (.iconst 1, 1) := by decide +kernel
theorem dX10_isSideLit_45 : decode cX10_isSideLit 45 = .ok (.isub, 1) := by decide +kernel
theorem dX10_isSideLit_46 : decode cX10_isSideLit 46 = .ok (.istore 4, 2) := by decide +kernel
theorem dX10_isSideLit_48 : decode cX10_isSideLit 48 = .ok (.iload 4, 2) := by decide +kernel
theorem dX10_isSideLit_50 : decode cX10_isSideLit 50 = .ok (.invokestatic 40, 3) := by decide +kernel
theorem dX10_isSideLit_53 : decode cX10_isSideLit 53 = .ok (.ifCond .eq 17, 3) := by decide +kernel
theorem dX10_isSideLit_56 : decode cX10_isSideLit 56 = .ok (.aload_n 0, 1) := by decide +kernel
theorem dX10_isSideLit_57 : decode cX10_isSideLit 57 = .ok (.getfield 7, 3) := by decide +kernel
theorem dX10_isSideLit_60 : decode cX10_isSideLit 60 = .ok (.bipush 12, 2) := by decide +kernel
theorem dX10_isSideLit_62 : decode cX10_isSideLit 62 = .ok (.iload 4, 2) := by decide +kernel
theorem dX10_isSideLit_64 : decode cX10_isSideLit 64 = .ok (.iadd, 1) := by decide +kernel
theorem dX10_isSideLit_65 : decode cX10_isSideLit 65 = .ok (.iaload, 1) := by decide +kernel
theorem dX10_isSideLit_66 : decode cX10_isSideLit 66 = .ok (.iload_n 2, 1) := by decide +kernel
theorem dX10_isSideLit_67 : decode cX10_isSideLit 67 = .ok (.if_icmp .gt 7, 3) := by decide +kernel
theorem dX10_isSideLit_70 : decode cX10_isSideLit 70 = .ok (.iconst 1, 1) := by decide +kernel
theorem dX10_isSideLit_71 : decode cX10_isSideLit 71 = .ok (.goto 4, 3) := by decide +kernel
theorem dX10_isSideLit_74 : decode cX10_isSideLit 74 = .ok (.iconst 0, 1) := by decide +kernel
theorem dX10_isSideLit_75 : decode cX10_isSideLit 75 = .ok (.ireturn, 1) := by decide +kernel
theorem dX10_faces_0 : decode cX10_faces 0 = .ok (.aload_n 0, 1) := by decide +kernel
theorem dX10_faces_1 : decode cX10_faces 1 = .ok (.iload_n 1, 1) := by decide +kernel
theorem dX10_faces_2 : decode cX10_faces 2 = .ok (.iload_n 2, 1) := by decide +kernel
theorem dX10_faces_3 : decode cX10_faces 3 = .ok (.invokevirtual 44, 3) := by decide +kernel
theorem dX10_faces_6 : decode cX10_faces 6 = .ok (.ifCond .eq 7, 3) := by decide +kernel
theorem dX10_faces_9 : decode cX10_faces 9 = .ok (.iconst 1, 1) := by decide +kernel
theorem dX10_faces_10 : decode cX10_faces 10 = .ok (.goto 4, 3) := by decide +kernel
theorem dX10_faces_13 : decode cX10_faces 13 = .ok (.iconst 0, 1) := by decide +kernel
theorem dX10_faces_14 : decode cX10_faces 14 = .ok (.iload_n 2, 1) := by decide +kernel
theorem dX10_faces_15 : decode cX10_faces 15 = .ok (.aload_n 0, 1) := by decide +kernel
theorem dX10_faces_16 : decode cX10_faces 16 = .ok (.getfield 7, 3) := by decide +kernel
theorem dX10_faces_19 : decode cX10_faces 19 = .ok (.bipush 12, 2) := by decide +kernel
theorem dX10_faces_21 : decode cX10_faces 21 = .ok (.iload_n 1, 1) := by decide +kernel
theorem dX10_faces_22 : decode cX10_faces 22 = .ok (.iadd, 1) := by decide +kernel
theorem dX10_faces_23 : decode cX10_faces 23 = .ok (.iaload, 1) := by decide +kernel
theorem dX10_faces_24 : decode cX10_faces 24 = .ok (.iconst 1, 1) := by decide +kernel
theorem dX10_faces_25 : decode cX10_faces 25 = .ok (.isub, 1) := by decide +kernel
theorem dX10_faces_26 : decode cX10_faces 26 = .ok (.if_icmp .ne 7, 3) := by decide +kernel
theorem dX10_faces_29 : decode cX10_faces 29 = .ok (.iconst 1, 1) := by decide +kernel
theorem dX10_faces_30 : decode cX10_faces 30 = .ok (.goto 4, 3) := by decide +kernel
theorem dX10_faces_33 : decode cX10_faces 33 = .ok (.iconst 0, 1) := by decide +kernel
theorem dX10_faces_34 : decode cX10_faces 34 = .ok (.iadd, 1) := by decide +kernel
theorem dX10_faces_35 : decode cX10_faces 35 = .ok (.ireturn, 1) := by decide +kernel
theorem dX10_rate_0 : decode cX10_rate 0 = .ok (.iload_n 0, 1) := by decide +kernel
theorem dX10_rate_1 : decode cX10_rate 1 = .ok (.ifCond .ne 8, 3) := by decide +kernel
theorem dX10_rate_4 : decode cX10_rate 4 = .ok (.bipush 6, 2) := by decide +kernel
theorem dX10_rate_6 : decode cX10_rate 6 = .ok (.goto 13, 3) := by decide +kernel
theorem dX10_rate_9 : decode cX10_rate 9 = .ok (.iload_n 0, 1) := by decide +kernel
theorem dX10_rate_10 : decode cX10_rate 10 = .ok (.iconst 1, 1) := by decide +kernel
theorem dX10_rate_11 : decode cX10_rate 11 = .ok (.if_icmp .ne 7, 3) := by decide +kernel
theorem dX10_rate_14 : decode cX10_rate 14 = .ok (.iconst 4, 1) := by decide +kernel
theorem dX10_rate_15 : decode cX10_rate 15 = .ok (.goto 4, 3) := by decide +kernel
theorem dX10_rate_18 : decode cX10_rate 18 = .ok (.iconst 2, 1) := by decide +kernel
theorem dX10_rate_19 : decode cX10_rate 19 = .ok (.ireturn, 1) := by decide +kernel
theorem dX10_pass_0 : decode cX10_pass 0 = .ok (.iconst 0, 1) := by decide +kernel
theorem dX10_pass_1 : decode cX10_pass 1 = .ok (.istore_n 2, 1) := by decide +kernel
theorem dX10_pass_2 : decode cX10_pass 2 = .ok (.iconst 0, 1) := by decide +kernel
theorem dX10_pass_3 : decode cX10_pass 3 = .ok (.istore_n 3, 1) := by decide +kernel
theorem dX10_pass_4 : decode cX10_pass 4 = .ok (.iload_n 3, 1) := by decide +kernel
theorem dX10_pass_5 : decode cX10_pass 5 = .ok (.bipush 48, 2) := by decide +kernel
theorem dX10_pass_7 : decode cX10_pass 7 = .ok (.if_icmp .ge 146, 3) := by decide +kernel
theorem dX10_pass_10 : decode cX10_pass 10 = .ok (.iload_n 1, 1) := by decide +kernel
theorem dX10_pass_11 : decode cX10_pass 11 = .ok (.ifCond .ne 142, 3) := by decide +kernel
theorem dX10_pass_14 : decode cX10_pass 14 = .ok (.iload_n 3, 1) := by decide +kernel
theorem dX10_pass_15 : decode cX10_pass 15 = .ok (.bipush 6, 2) := by decide +kernel
theorem dX10_pass_17 : decode cX10_pass 17 = .ok (.idiv, 1) := by decide +kernel
theorem dX10_pass_18 : decode cX10_pass 18 = .ok (.istore 4, 2) := by decide +kernel
theorem dX10_pass_20 : decode cX10_pass 20 = .ok (.iload_n 3, 1) := by decide +kernel
theorem dX10_pass_21 : decode cX10_pass 21 = .ok (.bipush 6, 2) := by decide +kernel
theorem dX10_pass_23 : decode cX10_pass 23 = .ok (.irem, 1) := by decide +kernel
theorem dX10_pass_24 : decode cX10_pass 24 = .ok (.aload_n 0, 1) := by decide +kernel
theorem dX10_pass_25 : decode cX10_pass 25 = .ok (.getfield 7, 3) := by decide +kernel
theorem dX10_pass_28 : decode cX10_pass 28 = .ok (.bipush 12, 2) := by decide +kernel
theorem dX10_pass_30 : decode cX10_pass 30 = .ok (.iload 4, 2) := by decide +kernel
theorem dX10_pass_32 : decode cX10_pass 32 = .ok (.iadd, 1) := by decide +kernel
theorem dX10_pass_33 : decode cX10_pass 33 = .ok (.iaload, 1) := by decide +kernel
theorem dX10_pass_34 : decode cX10_pass 34 = .ok (.if_icmp .ge 7, 3) := by decide +kernel
theorem dX10_pass_37 : decode cX10_pass 37 = .ok (.iconst 1, 1) := by decide +kernel
theorem dX10_pass_38 : decode cX10_pass 38 = .ok (.goto 4, 3) := by decide +kernel
theorem dX10_pass_41 : decode cX10_pass 41 = .ok (.iconst 0, 1) := by decide +kernel
theorem dX10_pass_42 : decode cX10_pass 42 = .ok (.istore 5, 2) := by decide +kernel
theorem dX10_pass_44 : decode cX10_pass 44 = .ok (.iload 5, 2) := by decide +kernel
theorem dX10_pass_46 : decode cX10_pass 46 = .ok (.ifCond .eq 29, 3) := by decide +kernel
theorem dX10_pass_49 : decode cX10_pass 49 = .ok (.aload_n 0, 1) := by decide +kernel
theorem dX10_pass_50 : decode cX10_pass 50 = .ok (.getfield 7, 3) := by decide +kernel
theorem dX10_pass_53 : decode cX10_pass 53 = .ok (.bipush 44, 2) := by decide +kernel
theorem dX10_pass_55 : decode cX10_pass 55 = .ok (.iload_n 3, 1) := by decide +kernel
theorem dX10_pass_56 : decode cX10_pass 56 = .ok (.iadd, 1) := by decide +kernel
theorem dX10_pass_57 : decode cX10_pass 57 = .ok (.iaload, 1) := by decide +kernel
theorem dX10_pass_58 : decode cX10_pass 58 = .ok (.invokestatic 48, 3) := by decide +kernel
theorem dX10_pass_61 : decode cX10_pass 61 = .ok (.aload_n 0, 1) := by decide +kernel
theorem dX10_pass_62 : decode cX10_pass 62 = .ok (.iload 4, 2) := by decide +kernel
theorem dX10_pass_64 : decode cX10_pass 64 = .ok (.iload_n 3, 1) := by decide +kernel
theorem dX10_pass_65 : decode cX10_pass 65 = .ok (.bipush 6, 2) := by decide +kernel
theorem dX10_pass_67 : decode cX10_pass 67 = .ok (.irem, 1) := by decide +kernel
theorem dX10_pass_68 : decode cX10_pass 68 = .ok (.invokevirtual 52, 3) := by decide +kernel
theorem dX10_pass_71 : decode cX10_pass 71 = .ok (.imul, 1) := by decide +kernel
theorem dX10_pass_72 : decode cX10_pass 72 = .ok (.goto 4, 3) := by decide +kernel
theorem dX10_pass_75 : decode cX10_pass 75 = .ok (.iconst 0, 1) := by decide +kernel
theorem dX10_pass_76 : decode cX10_pass 76 = .ok (.istore 6, 2) := by decide +kernel
theorem dX10_pass_78 : decode cX10_pass 78 = .ok (.iload 5, 2) := by decide +kernel
theorem dX10_pass_80 : decode cX10_pass 80 = .ok (.ifCond .eq 29, 3) := by decide +kernel
theorem dX10_pass_83 : decode cX10_pass 83 = .ok (.iload 6, 2) := by decide +kernel
theorem dX10_pass_85 : decode cX10_pass 85 = .ok (.aload_n 0, 1) := by decide +kernel
theorem dX10_pass_86 : decode cX10_pass 86 = .ok (.getfield 7, 3) := by decide +kernel
theorem dX10_pass_89 : decode cX10_pass 89 = .ok (.bipush 92, 2) := by decide +kernel
theorem dX10_pass_91 : decode cX10_pass 91 = .ok (.iload_n 3, 1) := by decide +kernel
theorem dX10_pass_92 : decode cX10_pass 92 = .ok (.iadd, 1) := by decide +kernel
theorem dX10_pass_93 : decode cX10_pass 93 = .ok (.iaload, 1) := by decide +kernel
theorem dX10_pass_94 : decode cX10_pass 94 = .ok (.if_icmp .le 15, 3) := by decide +kernel
theorem dX10_pass_97 : decode cX10_pass 97 = .ok (.aload_n 0, 1) := by decide +kernel
theorem dX10_pass_98 : decode cX10_pass 98 = .ok (.getfield 7, 3) := by decide +kernel
theorem dX10_pass_101 : decode cX10_pass 101 = .ok (.bipush 92, 2) := by decide +kernel
theorem dX10_pass_103 : decode cX10_pass 103 = .ok (.iload_n 3, 1) := by decide +kernel
theorem dX10_pass_104 : decode cX10_pass 104 = .ok (.iadd, 1) := by decide +kernel
theorem dX10_pass_105 : decode cX10_pass 105 = .ok (.iaload, 1) := by decide +kernel
theorem dX10_pass_106 : decode cX10_pass 106 = .ok (.goto 5, 3) := by decide +kernel
theorem dX10_pass_109 : decode cX10_pass 109 = .ok (.iload 6, 2) := by decide +kernel
theorem dX10_pass_111 : decode cX10_pass 111 = .ok (.istore 6, 2) := by decide +kernel
theorem dX10_pass_113 : decode cX10_pass 113 = .ok (.aload_n 0, 1) := by decide +kernel
theorem dX10_pass_114 : decode cX10_pass 114 = .ok (.getfield 7, 3) := by decide +kernel
theorem dX10_pass_117 : decode cX10_pass 117 = .ok (.bipush 92, 2) := by decide +kernel
theorem dX10_pass_119 : decode cX10_pass 119 = .ok (.iload_n 3, 1) := by decide +kernel
theorem dX10_pass_120 : decode cX10_pass 120 = .ok (.iadd, 1) := by decide +kernel
theorem dX10_pass_121 : decode cX10_pass 121 = .ok (.dup2, 1) := by decide +kernel
theorem dX10_pass_122 : decode cX10_pass 122 = .ok (.iaload, 1) := by decide +kernel
theorem dX10_pass_123 : decode cX10_pass 123 = .ok (.iload 6, 2) := by decide +kernel
theorem dX10_pass_125 : decode cX10_pass 125 = .ok (.isub, 1) := by decide +kernel
theorem dX10_pass_126 : decode cX10_pass 126 = .ok (.iastore, 1) := by decide +kernel
theorem dX10_pass_127 : decode cX10_pass 127 = .ok (.aload_n 0, 1) := by decide +kernel
theorem dX10_pass_128 : decode cX10_pass 128 = .ok (.getfield 7, 3) := by decide +kernel
theorem dX10_pass_131 : decode cX10_pass 131 = .ok (.bipush 36, 2) := by decide +kernel
theorem dX10_pass_133 : decode cX10_pass 133 = .ok (.iload 4, 2) := by decide +kernel
theorem dX10_pass_135 : decode cX10_pass 135 = .ok (.iadd, 1) := by decide +kernel
theorem dX10_pass_136 : decode cX10_pass 136 = .ok (.dup2, 1) := by decide +kernel
theorem dX10_pass_137 : decode cX10_pass 137 = .ok (.iaload, 1) := by decide +kernel
theorem dX10_pass_138 : decode cX10_pass 138 = .ok (.iload 6, 2) := by decide +kernel
theorem dX10_pass_140 : decode cX10_pass 140 = .ok (.iadd, 1) := by decide +kernel
theorem dX10_pass_141 : decode cX10_pass 141 = .ok (.iastore, 1) := by decide +kernel
theorem dX10_pass_142 : decode cX10_pass 142 = .ok (.iload_n 2, 1) := by decide +kernel
theorem dX10_pass_143 : decode cX10_pass 143 = .ok (.iload 6, 2) := by decide +kernel
theorem dX10_pass_145 : decode cX10_pass 145 = .ok (.iadd, 1) := by decide +kernel
theorem dX10_pass_146 : decode cX10_pass 146 = .ok (.istore_n 2, 1) := by decide +kernel
theorem dX10_pass_147 : decode cX10_pass 147 = .ok (.iinc 3 1, 3) := by decide +kernel
theorem dX10_pass_150 : decode cX10_pass 150 = .ok (.goto (-146), 3) := by decide +kernel
theorem dX10_pass_153 : decode cX10_pass 153 = .ok (.iconst 0, 1) := by decide +kernel
theorem dX10_pass_154 : decode cX10_pass 154 = .ok (.istore_n 3, 1) := by decide +kernel
theorem dX10_pass_155 : decode cX10_pass 155 = .ok (.iload_n 3, 1) := by decide +kernel
theorem dX10_pass_156 : decode cX10_pass 156 = .ok (.bipush 8, 2) := by decide +kernel
theorem dX10_pass_158 : decode cX10_pass 158 = .ok (.if_icmp .ge 14, 3) := by decide +kernel
theorem dX10_pass_161 : decode cX10_pass 161 = .ok (.aload_n 0, 1) := by decide +kernel
theorem dX10_pass_162 : decode cX10_pass 162 = .ok (.iload_n 3, 1) := by decide +kernel
theorem dX10_pass_163 : decode cX10_pass 163 = .ok (.invokevirtual 56, 3) := by decide +kernel
theorem dX10_pass_166 : decode cX10_pass 166 = .ok (.iinc 3 1, 3) := by decide +kernel
theorem dX10_pass_169 : decode cX10_pass 169 = .ok (.goto (-14), 3) := by decide +kernel
theorem dX10_pass_172 : decode cX10_pass 172 = .ok (.iconst 0, 1) := by decide +kernel
theorem dX10_pass_173 : decode cX10_pass 173 = .ok (.istore_n 3, 1) := by decide +kernel
theorem dX10_pass_174 : decode cX10_pass 174 = .ok (.iload_n 3, 1) := by decide +kernel
theorem dX10_pass_175 : decode cX10_pass 175 = .ok (.aload_n 0, 1) := by decide +kernel
theorem dX10_pass_176 : decode cX10_pass 176 = .ok (.getfield 7, 3) := by decide +kernel
theorem dX10_pass_179 : decode cX10_pass 179 = .ok (.bipush 10, 2) := by decide +kernel
theorem dX10_pass_181 : decode cX10_pass 181 = .ok (.iaload, 1) := by decide +kernel
theorem dX10_pass_182 : decode cX10_pass 182 = .ok (.if_icmp .ge 21, 3) := by decide +kernel
theorem dX10_pass_185 : decode cX10_pass 185 = .ok (.aload_n 0, 1) := by decide +kernel
theorem dX10_pass_186 : decode cX10_pass 186 = .ok (.getfield 7, 3) := by decide +kernel
theorem dX10_pass_189 : decode cX10_pass 189 = .ok (.sipush 145, 3) := by decide +kernel
theorem dX10_pass_192 : decode cX10_pass 192 = .ok (.iload_n 3, 1) := by decide +kernel
theorem dX10_pass_193 : decode cX10_pass 193 = .ok (.iadd, 1) := by decide +kernel
theorem dX10_pass_194 : decode cX10_pass 194 = .ok (.bipush 60, 2) := by decide +kernel
theorem dX10_pass_196 : decode cX10_pass 196 = .ok (.iastore, 1) := by decide +kernel
theorem dX10_pass_197 : decode cX10_pass 197 = .ok (.iinc 3 1, 3) := by decide +kernel
theorem dX10_pass_200 : decode cX10_pass 200 = .ok (.goto (-26), 3) := by decide +kernel
theorem dX10_pass_203 : decode cX10_pass 203 = .ok (.aload_n 0, 1) := by decide +kernel
theorem dX10_pass_204 : decode cX10_pass 204 = .ok (.getfield 7, 3) := by decide +kernel
theorem dX10_pass_207 : decode cX10_pass 207 = .ok (.bipush 6, 2) := by decide +kernel
theorem dX10_pass_209 : decode cX10_pass 209 = .ok (.dup2, 1) := by decide +kernel
theorem dX10_pass_210 : decode cX10_pass 210 = .ok (.iaload, 1) := by decide +kernel
theorem dX10_pass_211 : decode cX10_pass 211 = .ok (.iload_n 2, 1) := by decide +kernel
theorem dX10_pass_212 : decode cX10_pass 212 = .ok (.iadd, 1) := by decide +kernel
theorem dX10_pass_213 : decode cX10_pass 213 = .ok (.iastore, 1) := by decide +kernel
theorem dX10_pass_214 : decode cX10_pass 214 = .ok (.aload_n 0, 1) := by decide +kernel
theorem dX10_pass_215 : decode cX10_pass 215 = .ok (.getfield 7, 3) := by decide +kernel
theorem dX10_pass_218 : decode cX10_pass 218 = .ok (.bipush 8, 2) := by decide +kernel
theorem dX10_pass_220 : decode cX10_pass 220 = .ok (.dup2, 1) := by decide +kernel
theorem dX10_pass_221 : decode cX10_pass 221 = .ok (.iaload, 1) := by decide +kernel
theorem dX10_pass_222 : decode cX10_pass 222 = .ok (.iconst 1, 1) := by decide +kernel
theorem dX10_pass_223 : decode cX10_pass 223 = .ok (.iadd, 1) := by decide +kernel
theorem dX10_pass_224 : decode cX10_pass 224 = .ok (.iastore, 1) := by decide +kernel
theorem dX10_pass_225 : decode cX10_pass 225 = .ok (.aload_n 0, 1) := by decide +kernel
theorem dX10_pass_226 : decode cX10_pass 226 = .ok (.getfield 7, 3) := by decide +kernel
theorem dX10_pass_229 : decode cX10_pass 229 = .ok (.bipush 8, 2) := by decide +kernel
theorem dX10_pass_231 : decode cX10_pass 231 = .ok (.iaload, 1) := by decide +kernel
theorem dX10_pass_232 : decode cX10_pass 232 = .ok (.bipush 12, 2) := by decide +kernel
theorem dX10_pass_234 : decode cX10_pass 234 = .ok (.if_icmp .ne 22, 3) := by decide +kernel
theorem dX10_pass_237 : decode cX10_pass 237 = .ok (.aload_n 0, 1) := by decide +kernel
theorem dX10_pass_238 : decode cX10_pass 238 = .ok (.getfield 7, 3) := by decide +kernel
theorem dX10_pass_241 : decode cX10_pass 241 = .ok (.bipush 8, 2) := by decide +kernel
theorem dX10_pass_243 : decode cX10_pass 243 = .ok (.iconst 0, 1) := by decide +kernel
theorem dX10_pass_244 : decode cX10_pass 244 = .ok (.iastore, 1) := by decide +kernel
theorem dX10_pass_245 : decode cX10_pass 245 = .ok (.aload_n 0, 1) := by decide +kernel
theorem dX10_pass_246 : decode cX10_pass 246 = .ok (.getfield 7, 3) := by decide +kernel
theorem dX10_pass_249 : decode cX10_pass 249 = .ok (.bipush 9, 2) := by decide +kernel
theorem dX10_pass_251 : decode cX10_pass 251 = .ok (.dup2, 1) := by decide +kernel
theorem dX10_pass_252 : decode cX10_pass 252 = .ok (.iaload, 1) := by decide +kernel
theorem dX10_pass_253 : decode cX10_pass 253 = .ok (.iconst 1, 1) := by decide +kernel
theorem dX10_pass_254 : decode cX10_pass 254 = .ok (.iadd, 1) := by decide +kernel
theorem dX10_pass_255 : decode cX10_pass 255 = .ok (.iastore, 1) := by decide +kernel
theorem dX10_pass_256 : decode cX10_pass 256 = .ok (.iload_n 2, 1) := by decide +kernel
theorem dX10_pass_257 : decode cX10_pass 257 = .ok (.ireturn, 1) := by decide +kernel
theorem dX10_passAll_0 : decode cX10_passAll 0 = .ok (.iconst 0, 1) := by decide +kernel
theorem dX10_passAll_1 : decode cX10_passAll 1 = .ok (.istore_n 3, 1) := by decide +kernel
theorem dX10_passAll_2 : decode cX10_passAll 2 = .ok (.iconst 0, 1) := by decide +kernel
theorem dX10_passAll_3 : decode cX10_passAll 3 = .ok (.istore 4, 2) := by decide +kernel
theorem dX10_passAll_5 : decode cX10_passAll 5 = .ok (.iload 4, 2) := by decide +kernel
theorem dX10_passAll_7 : decode cX10_passAll 7 = .ok (.iload_n 1, 1) := by decide +kernel
theorem dX10_passAll_8 : decode cX10_passAll 8 = .ok (.if_icmp .ge 17, 3) := by decide +kernel
theorem dX10_passAll_11 : decode cX10_passAll 11 = .ok (.iload_n 3, 1) := by decide +kernel
theorem dX10_passAll_12 : decode cX10_passAll 12 = .ok (.aload_n 0, 1) := by decide +kernel
theorem dX10_passAll_13 : decode cX10_passAll 13 = .ok (.iload_n 2, 1) := by decide +kernel
theorem dX10_passAll_14 : decode cX10_passAll 14 = .ok (.invokevirtual 60, 3) := by decide +kernel
theorem dX10_passAll_17 : decode cX10_passAll 17 = .ok (.iadd, 1) := by decide +kernel
theorem dX10_passAll_18 : decode cX10_passAll 18 = .ok (.istore_n 3, 1) := by decide +kernel
theorem dX10_passAll_19 : decode cX10_passAll 19 = .ok (.iinc 4 1, 3) := by decide +kernel
theorem dX10_passAll_22 : decode cX10_passAll 22 = .ok (.goto (-17), 3) := by decide +kernel
theorem dX10_passAll_25 : decode cX10_passAll 25 = .ok (.iload_n 3, 1) := by decide +kernel
theorem dX10_passAll_26 : decode cX10_passAll 26 = .ok (.ireturn, 1) := by decide +kernel
theorem dX10_addsSnow_0 : decode cX10_addsSnow 0 = .ok (.aload_n 0, 1) := by decide +kernel
theorem dX10_addsSnow_1 : decode cX10_addsSnow 1 = .ok (.iload_n 1, 1) := by decide +kernel
theorem dX10_addsSnow_2 : decode cX10_addsSnow 2 = .ok (.iconst 1, 1) := by decide +kernel
theorem dX10_addsSnow_3 : decode cX10_addsSnow 3 = .ok (.sipush 9999, 3) := by decide +kernel
theorem dX10_addsSnow_6 : decode cX10_addsSnow 6 = .ok (.invokestatic 36, 3) := by decide +kernel
theorem dX10_addsSnow_9 : decode cX10_addsSnow 9 = .ok (.iload_n 1, 1) := by decide +kernel
theorem dX10_addsSnow_10 : decode cX10_addsSnow 10 = .ok (.iconst 1, 1) := by decide +kernel
theorem dX10_addsSnow_11 : decode cX10_addsSnow 11 = .ok (.sipush 9999, 3) := by decide +kernel
theorem dX10_addsSnow_14 : decode cX10_addsSnow 14 = .ok (.invokestatic 36, 3) := by decide +kernel
theorem dX10_addsSnow_17 : decode cX10_addsSnow 17 = .ok (.ifCond .eq 21, 3) := by decide +kernel
theorem dX10_addsSnow_20 : decode cX10_addsSnow 20 = .ok (.aload_n 0, 1) := by decide +kernel
theorem dX10_addsSnow_21 : decode cX10_addsSnow 21 = .ok (.getfield 7, 3) := by decide +kernel
theorem dX10_addsSnow_24 : decode cX10_addsSnow 24 = .ok (.iconst 0, 1) := by decide +kernel
theorem dX10_addsSnow_25 : decode cX10_addsSnow 25 = .ok (.iaload, 1) := by decide +kernel
theorem dX10_addsSnow_26 : decode cX10_addsSnow 26 = .ok (.iload_n 1, 1) := by decide +kernel
theorem dX10_addsSnow_27 : decode cX10_addsSnow 27 = .ok (.iadd, 1) := by decide +kernel
theorem dX10_addsSnow_28 : decode cX10_addsSnow 28 = .ok (.sipush 9999, 3) := by decide +kernel
theorem dX10_addsSnow_31 : decode cX10_addsSnow 31 = .ok (.if_icmp .gt 7, 3) := by decide +kernel
theorem dX10_addsSnow_34 : decode cX10_addsSnow 34 = .ok (.iconst 1, 1) := by decide +kernel
theorem dX10_addsSnow_35 : decode cX10_addsSnow 35 = .ok (.goto 4, 3) := by decide +kernel
theorem dX10_addsSnow_38 : decode cX10_addsSnow 38 = .ok (.iconst 0, 1) := by decide +kernel
theorem dX10_addsSnow_39 : decode cX10_addsSnow 39 = .ok (.iconst 1, 1) := by decide +kernel
theorem dX10_addsSnow_40 : decode cX10_addsSnow 40 = .ok (.invokevirtual 64, 3) := by decide +kernel
theorem dX10_addsSnow_43 : decode cX10_addsSnow 43 = .ok (.ifCond .eq 5, 3) := by decide +kernel
theorem dX10_addsSnow_46 : decode cX10_addsSnow 46 = .ok (.iconst 0, 1) := by decide +kernel
theorem dX10_addsSnow_47 : decode cX10_addsSnow 47 = .ok (.ireturn, 1) := by decide +kernel
theorem dX10_addsSnow_48 : decode cX10_addsSnow 48 = .ok (.iload_n 2, 1) := by decide +kernel
theorem dX10_addsSnow_49 : decode cX10_addsSnow 49 = .ok (.ifCond .eq 7, 3) := by decide +kernel
theorem dX10_addsSnow_52 : decode cX10_addsSnow 52 = .ok (.aload_n 0, 1) := by decide +kernel
theorem dX10_addsSnow_53 : decode cX10_addsSnow 53 = .ok (.invokevirtual 68, 3) := by decide +kernel
theorem dX10_addsSnow_56 : decode cX10_addsSnow 56 = .ok (.aload_n 0, 1) := by decide +kernel
theorem dX10_addsSnow_57 : decode cX10_addsSnow 57 = .ok (.getfield 7, 3) := by decide +kernel
theorem dX10_addsSnow_60 : decode cX10_addsSnow 60 = .ok (.iconst 0, 1) := by decide +kernel
theorem dX10_addsSnow_61 : decode cX10_addsSnow 61 = .ok (.dup2, 1) := by decide +kernel
theorem dX10_addsSnow_62 : decode cX10_addsSnow 62 = .ok (.iaload, 1) := by decide +kernel
theorem dX10_addsSnow_63 : decode cX10_addsSnow 63 = .ok (.iload_n 1, 1) := by decide +kernel
theorem dX10_addsSnow_64 : decode cX10_addsSnow 64 = .ok (.iadd, 1) := by decide +kernel
theorem dX10_addsSnow_65 : decode cX10_addsSnow 65 = .ok (.iastore, 1) := by decide +kernel
theorem dX10_addsSnow_66 : decode cX10_addsSnow 66 = .ok (.aload_n 0, 1) := by decide +kernel
theorem dX10_addsSnow_67 : decode cX10_addsSnow 67 = .ok (.getfield 7, 3) := by decide +kernel
theorem dX10_addsSnow_70 : decode cX10_addsSnow 70 = .ok (.iconst 0, 1) := by decide +kernel
theorem dX10_addsSnow_71 : decode cX10_addsSnow 71 = .ok (.iaload, 1) := by decide +kernel
theorem dX10_addsSnow_72 : decode cX10_addsSnow 72 = .ok (.ireturn, 1) := by decide +kernel
theorem dX10_addSnow_0 : decode cX10_addSnow 0 = .ok (.aload_n 0, 1) := by decide +kernel
theorem dX10_addSnow_1 : decode cX10_addSnow 1 = .ok (.iload_n 1, 1) := by decide +kernel
theorem dX10_addSnow_2 : decode cX10_addSnow 2 = .ok (.iconst 1, 1) := by decide +kernel
theorem dX10_addSnow_3 : decode cX10_addSnow 3 = .ok (.invokevirtual 71, 3) := by decide +kernel
theorem dX10_addSnow_6 : decode cX10_addSnow 6 = .ok (.ireturn, 1) := by decide +kernel
theorem dX10_presses_0 : decode cX10_presses 0 = .ok (.iload_n 1, 1) := by decide +kernel
theorem dX10_presses_1 : decode cX10_presses 1 = .ok (.invokestatic 75, 3) := by decide +kernel
theorem dX10_presses_4 : decode cX10_presses 4 = .ok (.ifCond .eq 17, 3) := by decide +kernel
theorem dX10_presses_7 : decode cX10_presses 7 = .ok (.iload_n 2, 1) := by decide +kernel
theorem dX10_presses_8 : decode cX10_presses 8 = .ok (.iconst 1, 1) := by decide +kernel
theorem dX10_presses_9 : decode cX10_presses 9 = .ok (.bipush 50, 2) := by decide +kernel
theorem dX10_presses_11 : decode cX10_presses 11 = .ok (.invokestatic 36, 3) := by decide +kernel
theorem dX10_presses_14 : decode cX10_presses 14 = .ok (.ifCond .eq 7, 3) := by decide +kernel
theorem dX10_presses_17 : decode cX10_presses 17 = .ok (.iconst 1, 1) := by decide +kernel
theorem dX10_presses_18 : decode cX10_presses 18 = .ok (.goto 4, 3) := by decide +kernel
theorem dX10_presses_21 : decode cX10_presses 21 = .ok (.iconst 0, 1) := by decide +kernel
theorem dX10_presses_22 : decode cX10_presses 22 = .ok (.istore 4, 2) := by decide +kernel
theorem dX10_presses_24 : decode cX10_presses 24 = .ok (.aload_n 0, 1) := by decide +kernel
theorem dX10_presses_25 : decode cX10_presses 25 = .ok (.iload 4, 2) := by decide +kernel
theorem dX10_presses_27 : decode cX10_presses 27 = .ok (.iload 4, 2) := by decide +kernel
theorem dX10_presses_29 : decode cX10_presses 29 = .ok (.ifCond .eq 35, 3) := by decide +kernel
theorem dX10_presses_32 : decode cX10_presses 32 = .ok (.aload_n 0, 1) := by decide +kernel
theorem dX10_presses_33 : decode cX10_presses 33 = .ok (.getfield 7, 3) := by decide +kernel
theorem dX10_presses_36 : decode cX10_presses 36 = .ok (.iconst 0, 1) := by decide +kernel
theorem dX10_presses_37 : decode cX10_presses 37 = .ok (.iaload, 1) := by decide +kernel
theorem dX10_presses_38 : decode cX10_presses 38 = .ok (.bipush 100, 2) := by decide +kernel
theorem dX10_presses_40 : decode cX10_presses 40 = .ok (.iload_n 2, 1) := by decide +kernel
theorem dX10_presses_41 : decode cX10_presses 41 = .ok (.imul, 1) := by decide +kernel
theorem dX10_presses_42 : decode cX10_presses 42 = .ok (.if_icmp .lt 22, 3) := by decide +kernel
theorem dX10_presses_45 : decode cX10_presses 45 = .ok (.aload_n 0, 1) := by decide +kernel
theorem dX10_presses_46 : decode cX10_presses 46 = .ok (.getfield 7, 3) := by decide +kernel
theorem dX10_presses_49 : decode cX10_presses 49 = .ok (.iconst 1, 1) := by decide +kernel
theorem dX10_presses_50 : decode cX10_presses 50 = .ok (.iload_n 1, 1) := by decide +kernel
theorem dX10_presses_51 : decode cX10_presses 51 = .ok (.iadd, 1) := by decide +kernel
theorem dX10_presses_52 : decode cX10_presses 52 = .ok (.iaload, 1) := by decide +kernel
theorem dX10_presses_53 : decode cX10_presses 53 = .ok (.iload_n 2, 1) := by decide +kernel
theorem dX10_presses_54 : decode cX10_presses 54 = .ok (.iadd, 1) := by decide +kernel
theorem dX10_presses_55 : decode cX10_presses 55 = .ok (.bipush 50, 2) := by decide +kernel
theorem dX10_presses_57 : decode cX10_presses 57 = .ok (.if_icmp .gt 7, 3) := by decide +kernel
theorem dX10_presses_60 : decode cX10_presses 60 = .ok (.iconst 1, 1) := by decide +kernel
theorem dX10_presses_61 : decode cX10_presses 61 = .ok (.goto 4, 3) := by decide +kernel
theorem dX10_presses_64 : decode cX10_presses 64 = .ok (.iconst 0, 1) := by decide +kernel
theorem dX10_presses_65 : decode cX10_presses 65 = .ok (.iconst 1, 1) := by decide +kernel
theorem dX10_presses_66 : decode cX10_presses 66 = .ok (.invokevirtual 64, 3) := by decide +kernel
theorem dX10_presses_69 : decode cX10_presses 69 = .ok (.ifCond .eq 5, 3) := by decide +kernel
theorem dX10_presses_72 : decode cX10_presses 72 = .ok (.iconst 0, 1) := by decide +kernel
theorem dX10_presses_73 : decode cX10_presses 73 = .ok (.ireturn, 1) := by decide +kernel
theorem dX10_presses_74 : decode cX10_presses 74 = .ok (.iload_n 3, 1) := by decide +kernel
theorem dX10_presses_75 : decode cX10_presses 75 = .ok (.ifCond .eq 7, 3) := by decide +kernel
theorem dX10_presses_78 : decode cX10_presses 78 = .ok (.aload_n 0, 1) := by decide +kernel
theorem dX10_presses_79 : decode cX10_presses 79 = .ok (.invokevirtual 68, 3) := by decide +kernel
theorem dX10_presses_82 : decode cX10_presses 82 = .ok (.aload_n 0, 1) := by decide +kernel
theorem dX10_presses_83 : decode cX10_presses 83 = .ok (.getfield 7, 3) := by decide +kernel
theorem dX10_presses_86 : decode cX10_presses 86 = .ok (.iconst 0, 1) := by decide +kernel
theorem dX10_presses_87 : decode cX10_presses 87 = .ok (.dup2, 1) := by decide +kernel
theorem dX10_presses_88 : decode cX10_presses 88 = .ok (.iaload, 1) := by decide +kernel
theorem dX10_presses_89 : decode cX10_presses 89 = .ok (.bipush 100, 2) := by decide +kernel
theorem dX10_presses_91 : decode cX10_presses 91 = .ok (.iload_n 2, 1) := by decide +kernel
theorem dX10_presses_92 : decode cX10_presses 92 = .ok (.imul, 1) := by decide +kernel
theorem dX10_presses_93 : decode cX10_presses 93 = .ok (.isub, 1) := by decide +kernel
theorem dX10_presses_94 : decode cX10_presses 94 = .ok (.iastore, 1) := by decide +kernel
theorem dX10_presses_95 : decode cX10_presses 95 = .ok (.aload_n 0, 1) := by decide +kernel
theorem dX10_presses_96 : decode cX10_presses 96 = .ok (.getfield 7, 3) := by decide +kernel
theorem dX10_presses_99 : decode cX10_presses 99 = .ok (.iconst 1, 1) := by decide +kernel
theorem dX10_presses_100 : decode cX10_presses 100 = .ok (.iload_n 1, 1) := by decide +kernel
theorem dX10_presses_101 : decode cX10_presses 101 = .ok (.iadd, 1) := by decide +kernel
theorem dX10_presses_102 : decode cX10_presses 102 = .ok (.dup2, 1) := by decide +kernel
theorem dX10_presses_103 : decode cX10_presses 103 = .ok (.iaload, 1) := by decide +kernel
theorem dX10_presses_104 : decode cX10_presses 104 = .ok (.iload_n 2, 1) := by decide +kernel
theorem dX10_presses_105 : decode cX10_presses 105 = .ok (.iadd, 1) := by decide +kernel
theorem dX10_presses_106 : decode cX10_presses 106 = .ok (.iastore, 1) := by decide +kernel
theorem dX10_presses_107 : decode cX10_presses 107 = .ok (.aload_n 0, 1) := by decide +kernel
theorem dX10_presses_108 : decode cX10_presses 108 = .ok (.getfield 7, 3) := by decide +kernel
theorem dX10_presses_111 : decode cX10_presses 111 = .ok (.iconst 4, 1) := by decide +kernel
theorem dX10_presses_112 : decode cX10_presses 112 = .ok (.dup2, 1) := by decide +kernel
theorem dX10_presses_113 : decode cX10_presses 113 = .ok (.iaload, 1) := by decide +kernel
theorem dX10_presses_114 : decode cX10_presses 114 = .ok (.iload_n 2, 1) := by decide +kernel
theorem dX10_presses_115 : decode cX10_presses 115 = .ok (.iadd, 1) := by decide +kernel
theorem dX10_presses_116 : decode cX10_presses 116 = .ok (.iastore, 1) := by decide +kernel
theorem dX10_presses_117 : decode cX10_presses 117 = .ok (.aload_n 0, 1) := by decide +kernel
theorem dX10_presses_118 : decode cX10_presses 118 = .ok (.getfield 7, 3) := by decide +kernel
theorem dX10_presses_121 : decode cX10_presses 121 = .ok (.iconst 1, 1) := by decide +kernel
theorem dX10_presses_122 : decode cX10_presses 122 = .ok (.iload_n 1, 1) := by decide +kernel
theorem dX10_presses_123 : decode cX10_presses 123 = .ok (.iadd, 1) := by decide +kernel
theorem dX10_presses_124 : decode cX10_presses 124 = .ok (.iaload, 1) := by decide +kernel
theorem dX10_presses_125 : decode cX10_presses 125 = .ok (.ireturn, 1) := by decide +kernel
theorem dX10_press_0 : decode cX10_press 0 = .ok (.aload_n 0, 1) := by decide +kernel
theorem dX10_press_1 : decode cX10_press 1 = .ok (.iload_n 1, 1) := by decide +kernel
theorem dX10_press_2 : decode cX10_press 2 = .ok (.iload_n 2, 1) := by decide +kernel
theorem dX10_press_3 : decode cX10_press 3 = .ok (.iconst 1, 1) := by decide +kernel
theorem dX10_press_4 : decode cX10_press 4 = .ok (.invokevirtual 78, 3) := by decide +kernel
theorem dX10_press_7 : decode cX10_press 7 = .ok (.ireturn, 1) := by decide +kernel
theorem dX10_stacks_0 : decode cX10_stacks 0 = .ok (.iload_n 1, 1) := by decide +kernel
theorem dX10_stacks_1 : decode cX10_stacks 1 = .ok (.invokestatic 40, 3) := by decide +kernel
theorem dX10_stacks_4 : decode cX10_stacks 4 = .ok (.ifCond .eq 14, 3) := by decide +kernel
theorem dX10_stacks_7 : decode cX10_stacks 7 = .ok (.iload_n 2, 1) := by decide +kernel
theorem dX10_stacks_8 : decode cX10_stacks 8 = .ok (.invokestatic 75, 3) := by decide +kernel
theorem dX10_stacks_11 : decode cX10_stacks 11 = .ok (.ifCond .eq 7, 3) := by decide +kernel
theorem dX10_stacks_14 : decode cX10_stacks 14 = .ok (.iconst 1, 1) := by decide +kernel
theorem dX10_stacks_15 : decode cX10_stacks 15 = .ok (.goto 4, 3) := by decide +kernel
theorem dX10_stacks_18 : decode cX10_stacks 18 = .ok (.iconst 0, 1) := by decide +kernel
theorem dX10_stacks_19 : decode cX10_stacks 19 = .ok (.istore 4, 2) := by decide +kernel
theorem dX10_stacks_21 : decode cX10_stacks 21 = .ok (.aload_n 0, 1) := by decide +kernel
theorem dX10_stacks_22 : decode cX10_stacks 22 = .ok (.iload_n 1, 1) := by decide +kernel
theorem dX10_stacks_23 : decode cX10_stacks 23 = .ok (.invokestatic 40, 3) := by decide +kernel
theorem dX10_stacks_26 : decode cX10_stacks 26 = .ok (.iload_n 2, 1) := by decide +kernel
theorem dX10_stacks_27 : decode cX10_stacks 27 = .ok (.invokestatic 75, 3) := by decide +kernel
theorem dX10_stacks_30 : decode cX10_stacks 30 = .ok (.iload 4, 2) := by decide +kernel
theorem dX10_stacks_32 : decode cX10_stacks 32 = .ok (.ifCond .eq 32, 3) := by decide +kernel
theorem dX10_stacks_35 : decode cX10_stacks 35 = .ok (.aload_n 0, 1) := by decide +kernel
theorem dX10_stacks_36 : decode cX10_stacks 36 = .ok (.getfield 7, 3) := by decide +kernel
theorem dX10_stacks_39 : decode cX10_stacks 39 = .ok (.iconst 1, 1) := by decide +kernel
theorem dX10_stacks_40 : decode cX10_stacks 40 = .ok (.iload_n 2, 1) := by decide +kernel
theorem dX10_stacks_41 : decode cX10_stacks 41 = .ok (.iadd, 1) := by decide +kernel
theorem dX10_stacks_42 : decode cX10_stacks 42 = .ok (.iaload, 1) := by decide +kernel
theorem dX10_stacks_43 : decode cX10_stacks 43 = .ok (.ifCond .le 21, 3) := by decide +kernel
theorem dX10_stacks_46 : decode cX10_stacks 46 = .ok (.aload_n 0, 1) := by decide +kernel
theorem dX10_stacks_47 : decode cX10_stacks 47 = .ok (.getfield 7, 3) := by decide +kernel
theorem dX10_stacks_50 : decode cX10_stacks 50 = .ok (.bipush 12, 2) := by decide +kernel
theorem dX10_stacks_52 : decode cX10_stacks 52 = .ok (.iload_n 1, 1) := by decide +kernel
theorem dX10_stacks_53 : decode cX10_stacks 53 = .ok (.iadd, 1) := by decide +kernel
theorem dX10_stacks_54 : decode cX10_stacks 54 = .ok (.iaload, 1) := by decide +kernel
theorem dX10_stacks_55 : decode cX10_stacks 55 = .ok (.bipush 6, 2) := by decide +kernel
theorem dX10_stacks_57 : decode cX10_stacks 57 = .ok (.if_icmp .ge 7, 3) := by decide +kernel
theorem dX10_stacks_60 : decode cX10_stacks 60 = .ok (.iconst 1, 1) := by decide +kernel
theorem dX10_stacks_61 : decode cX10_stacks 61 = .ok (.goto 4, 3) := by decide +kernel
theorem dX10_stacks_64 : decode cX10_stacks 64 = .ok (.iconst 0, 1) := by decide +kernel
theorem dX10_stacks_65 : decode cX10_stacks 65 = .ok (.invokevirtual 64, 3) := by decide +kernel
theorem dX10_stacks_68 : decode cX10_stacks 68 = .ok (.ifCond .eq 5, 3) := by decide +kernel
theorem dX10_stacks_71 : decode cX10_stacks 71 = .ok (.iconst 0, 1) := by decide +kernel
theorem dX10_stacks_72 : decode cX10_stacks 72 = .ok (.ireturn, 1) := by decide +kernel
theorem dX10_stacks_73 : decode cX10_stacks 73 = .ok (.iload_n 3, 1) := by decide +kernel
theorem dX10_stacks_74 : decode cX10_stacks 74 = .ok (.ifCond .eq 7, 3) := by decide +kernel
theorem dX10_stacks_77 : decode cX10_stacks 77 = .ok (.aload_n 0, 1) := by decide +kernel
theorem dX10_stacks_78 : decode cX10_stacks 78 = .ok (.invokevirtual 68, 3) := by decide +kernel
theorem dX10_stacks_81 : decode cX10_stacks 81 = .ok (.aload_n 0, 1) := by decide +kernel
theorem dX10_stacks_82 : decode cX10_stacks 82 = .ok (.getfield 7, 3) := by decide +kernel
theorem dX10_stacks_85 : decode cX10_stacks 85 = .ok (.bipush 12, 2) := by decide +kernel
theorem dX10_stacks_87 : decode cX10_stacks 87 = .ok (.iload_n 1, 1) := by decide +kernel
theorem dX10_stacks_88 : decode cX10_stacks 88 = .ok (.iadd, 1) := by decide +kernel
theorem dX10_stacks_89 : decode cX10_stacks 89 = .ok (.iaload, 1) := by decide +kernel
theorem dX10_stacks_90 : decode cX10_stacks 90 = .ok (.istore 5, 2) := by decide +kernel
theorem dX10_stacks_92 : decode cX10_stacks 92 = .ok (.aload_n 0, 1) := by decide +kernel
theorem dX10_stacks_93 : decode cX10_stacks 93 = .ok (.getfield 7, 3) := by decide +kernel
theorem dX10_stacks_96 : decode cX10_stacks 96 = .ok (.iconst 1, 1) := by decide +kernel
theorem dX10_stacks_97 : decode cX10_stacks 97 = .ok (.iload_n 2, 1) := by decide +kernel
theorem dX10_stacks_98 : decode cX10_stacks 98 = .ok (.iadd, 1) := by decide +kernel
theorem dX10_stacks_99 : decode cX10_stacks 99 = .ok (.dup2, 1) := by decide +kernel
theorem dX10_stacks_100 : decode cX10_stacks 100 = .ok (.iaload, 1) := by decide +kernel
theorem dX10_stacks_101 : decode cX10_stacks 101 = .ok (.iconst 1, 1) := by decide +kernel
theorem dX10_stacks_102 : decode cX10_stacks 102 = .ok (.isub, 1) := by decide +kernel
theorem dX10_stacks_103 : decode cX10_stacks 103 = .ok (.iastore, 1) := by decide +kernel
theorem dX10_stacks_104 : decode cX10_stacks 104 = .ok (.aload_n 0, 1) := by decide +kernel
theorem dX10_stacks_105 : decode cX10_stacks 105 = .ok (.getfield 7, 3) := by decide +kernel
theorem dX10_stacks_108 : decode cX10_stacks 108 = .ok (.bipush 44, 2) := by decide +kernel
theorem dX10_stacks_110 : decode cX10_stacks 110 = .ok (.bipush 6, 2) := by decide +kernel
theorem dX10_stacks_112 : decode cX10_stacks 112 = .ok (.iload_n 1, 1) := by decide +kernel
theorem dX10_stacks_113 : decode cX10_stacks 113 = .ok (.imul, 1) := by decide +kernel
theorem dX10_stacks_114 : decode cX10_stacks 114 = .ok (.iadd, 1) := by decide +kernel
theorem dX10_stacks_115 : decode cX10_stacks 115 = .ok (.iload 5, 2) := by decide +kernel
theorem dX10_stacks_117 : decode cX10_stacks 117 = .ok (.iadd, 1) := by decide +kernel
theorem dX10_stacks_118 : decode cX10_stacks 118 = .ok (.iload_n 2, 1) := by decide +kernel
theorem dX10_stacks_119 : decode cX10_stacks 119 = .ok (.iastore, 1) := by decide +kernel
theorem dX10_stacks_120 : decode cX10_stacks 120 = .ok (.aload_n 0, 1) := by decide +kernel
theorem dX10_stacks_121 : decode cX10_stacks 121 = .ok (.getfield 7, 3) := by decide +kernel
theorem dX10_stacks_124 : decode cX10_stacks 124 = .ok (.bipush 92, 2) := by decide +kernel
theorem dX10_stacks_126 : decode cX10_stacks 126 = .ok (.bipush 6, 2) := by decide +kernel
theorem dX10_stacks_128 : decode cX10_stacks 128 = .ok (.iload_n 1, 1) := by decide +kernel
theorem dX10_stacks_129 : decode cX10_stacks 129 = .ok (.imul, 1) := by decide +kernel
theorem dX10_stacks_130 : decode cX10_stacks 130 = .ok (.iadd, 1) := by decide +kernel
theorem dX10_stacks_131 : decode cX10_stacks 131 = .ok (.iload 5, 2) := by decide +kernel
theorem dX10_stacks_133 : decode cX10_stacks 133 = .ok (.iadd, 1) := by decide +kernel
theorem dX10_stacks_134 : decode cX10_stacks 134 = .ok (.bipush 100, 2) := by decide +kernel
theorem dX10_stacks_136 : decode cX10_stacks 136 = .ok (.iastore, 1) := by decide +kernel
theorem dX10_stacks_137 : decode cX10_stacks 137 = .ok (.aload_n 0, 1) := by decide +kernel
theorem dX10_stacks_138 : decode cX10_stacks 138 = .ok (.getfield 7, 3) := by decide +kernel
theorem dX10_stacks_141 : decode cX10_stacks 141 = .ok (.bipush 12, 2) := by decide +kernel
theorem dX10_stacks_143 : decode cX10_stacks 143 = .ok (.iload_n 1, 1) := by decide +kernel
theorem dX10_stacks_144 : decode cX10_stacks 144 = .ok (.iadd, 1) := by decide +kernel
theorem dX10_stacks_145 : decode cX10_stacks 145 = .ok (.dup2, 1) := by decide +kernel
theorem dX10_stacks_146 : decode cX10_stacks 146 = .ok (.iaload, 1) := by decide +kernel
theorem dX10_stacks_147 : decode cX10_stacks 147 = .ok (.iconst 1, 1) := by decide +kernel
theorem dX10_stacks_148 : decode cX10_stacks 148 = .ok (.iadd, 1) := by decide +kernel
theorem dX10_stacks_149 : decode cX10_stacks 149 = .ok (.iastore, 1) := by decide +kernel
theorem dX10_stacks_150 : decode cX10_stacks 150 = .ok (.iload 5, 2) := by decide +kernel
theorem dX10_stacks_152 : decode cX10_stacks 152 = .ok (.ireturn, 1) := by decide +kernel
theorem dX10_stack_0 : decode cX10_stack 0 = .ok (.aload_n 0, 1) := by decide +kernel
theorem dX10_stack_1 : decode cX10_stack 1 = .ok (.iload_n 1, 1) := by decide +kernel
theorem dX10_stack_2 : decode cX10_stack 2 = .ok (.iload_n 2, 1) := by decide +kernel
theorem dX10_stack_3 : decode cX10_stack 3 = .ok (.iconst 1, 1) := by decide +kernel
theorem dX10_stack_4 : decode cX10_stack 4 = .ok (.invokevirtual 82, 3) := by decide +kernel
theorem dX10_stack_7 : decode cX10_stack 7 = .ok (.ireturn, 1) := by decide +kernel
theorem dX10_walls_0 : decode cX10_walls 0 = .ok (.iconst 0, 1) := by decide +kernel
theorem dX10_walls_1 : decode cX10_walls 1 = .ok (.istore_n 1, 1) := by decide +kernel
theorem dX10_walls_2 : decode cX10_walls 2 = .ok (.iconst 0, 1) := by decide +kernel
theorem dX10_walls_3 : decode cX10_walls 3 = .ok (.istore_n 2, 1) := by decide +kernel
theorem dX10_walls_4 : decode cX10_walls 4 = .ok (.iload_n 2, 1) := by decide +kernel
theorem dX10_walls_5 : decode cX10_walls 5 = .ok (.bipush 8, 2) := by decide +kernel
theorem dX10_walls_7 : decode cX10_walls 7 = .ok (.if_icmp .ge 21, 3) := by decide +kernel
theorem dX10_walls_10 : decode cX10_walls 10 = .ok (.iload_n 1, 1) := by decide +kernel
theorem dX10_walls_11 : decode cX10_walls 11 = .ok (.aload_n 0, 1) := by decide +kernel
theorem dX10_walls_12 : decode cX10_walls 12 = .ok (.getfield 7, 3) := by decide +kernel
theorem dX10_walls_15 : decode cX10_walls 15 = .ok (.bipush 20, 2) := by decide +kernel
theorem dX10_walls_17 : decode cX10_walls 17 = .ok (.iload_n 2, 1) := by decide +kernel
theorem dX10_walls_18 : decode cX10_walls 18 = .ok (.iadd, 1) := by decide +kernel
theorem dX10_walls_19 : decode cX10_walls 19 = .ok (.iaload, 1) := by decide +kernel
theorem dX10_walls_20 : decode cX10_walls 20 = .ok (.iadd, 1) := by decide +kernel
theorem dX10_walls_21 : decode cX10_walls 21 = .ok (.istore_n 1, 1) := by decide +kernel
theorem dX10_walls_22 : decode cX10_walls 22 = .ok (.iinc 2 1, 3) := by decide +kernel
theorem dX10_walls_25 : decode cX10_walls 25 = .ok (.goto (-21), 3) := by decide +kernel
theorem dX10_walls_28 : decode cX10_walls 28 = .ok (.iload_n 1, 1) := by decide +kernel
theorem dX10_walls_29 : decode cX10_walls 29 = .ok (.ireturn, 1) := by decide +kernel
theorem dX10_setsWall_0 : decode cX10_setsWall 0 = .ok (.aload_n 0, 1) := by decide +kernel
theorem dX10_setsWall_1 : decode cX10_setsWall 1 = .ok (.iload_n 1, 1) := by decide +kernel
theorem dX10_setsWall_2 : decode cX10_setsWall 2 = .ok (.invokestatic 40, 3) := by decide +kernel
theorem dX10_setsWall_5 : decode cX10_setsWall 5 = .ok (.iconst 1, 1) := by decide +kernel
theorem dX10_setsWall_6 : decode cX10_setsWall 6 = .ok (.iconst 1, 1) := by decide +kernel
theorem dX10_setsWall_7 : decode cX10_setsWall 7 = .ok (.invokevirtual 64, 3) := by decide +kernel
theorem dX10_setsWall_10 : decode cX10_setsWall 10 = .ok (.ifCond .eq 5, 3) := by decide +kernel
theorem dX10_setsWall_13 : decode cX10_setsWall 13 = .ok (.iconst 0, 1) := by decide +kernel
theorem dX10_setsWall_14 : decode cX10_setsWall 14 = .ok (.ireturn, 1) := by decide +kernel
theorem dX10_setsWall_15 : decode cX10_setsWall 15 = .ok (.iload_n 3, 1) := by decide +kernel
theorem dX10_setsWall_16 : decode cX10_setsWall 16 = .ok (.ifCond .eq 7, 3) := by decide +kernel
theorem dX10_setsWall_19 : decode cX10_setsWall 19 = .ok (.aload_n 0, 1) := by decide +kernel
theorem dX10_setsWall_20 : decode cX10_setsWall 20 = .ok (.invokevirtual 68, 3) := by decide +kernel
theorem dX10_setsWall_23 : decode cX10_setsWall 23 = .ok (.aload_n 0, 1) := by decide +kernel
theorem dX10_setsWall_24 : decode cX10_setsWall 24 = .ok (.getfield 7, 3) := by decide +kernel
theorem dX10_setsWall_27 : decode cX10_setsWall 27 = .ok (.bipush 20, 2) := by decide +kernel
theorem dX10_setsWall_29 : decode cX10_setsWall 29 = .ok (.iload_n 1, 1) := by decide +kernel
theorem dX10_setsWall_30 : decode cX10_setsWall 30 = .ok (.iadd, 1) := by decide +kernel
theorem dX10_setsWall_31 : decode cX10_setsWall 31 = .ok (.iload_n 2, 1) := by decide +kernel
theorem dX10_setsWall_32 : decode cX10_setsWall 32 = .ok (.ifCond .eq 7, 3) := by decide +kernel
theorem dX10_setsWall_35 : decode cX10_setsWall 35 = .ok (.iconst 1, 1) := by decide +kernel
theorem dX10_setsWall_36 : decode cX10_setsWall 36 = .ok (.goto 4, 3) := by decide +kernel
theorem dX10_setsWall_39 : decode cX10_setsWall 39 = .ok (.iconst 0, 1) := by decide +kernel
theorem dX10_setsWall_40 : decode cX10_setsWall 40 = .ok (.iastore, 1) := by decide +kernel
theorem dX10_setsWall_41 : decode cX10_setsWall 41 = .ok (.aload_n 0, 1) := by decide +kernel
theorem dX10_setsWall_42 : decode cX10_setsWall 42 = .ok (.invokevirtual 85, 3) := by decide +kernel
theorem dX10_setsWall_45 : decode cX10_setsWall 45 = .ok (.ireturn, 1) := by decide +kernel
theorem dX10_setWall_0 : decode cX10_setWall 0 = .ok (.aload_n 0, 1) := by decide +kernel
theorem dX10_setWall_1 : decode cX10_setWall 1 = .ok (.iload_n 1, 1) := by decide +kernel
theorem dX10_setWall_2 : decode cX10_setWall 2 = .ok (.iload_n 2, 1) := by decide +kernel
theorem dX10_setWall_3 : decode cX10_setWall 3 = .ok (.iconst 1, 1) := by decide +kernel
theorem dX10_setWall_4 : decode cX10_setWall 4 = .ok (.invokevirtual 89, 3) := by decide +kernel
theorem dX10_setWall_7 : decode cX10_setWall 7 = .ok (.ireturn, 1) := by decide +kernel
theorem dX10_addsTool_0 : decode cX10_addsTool 0 = .ok (.aload_n 0, 1) := by decide +kernel
theorem dX10_addsTool_1 : decode cX10_addsTool 1 = .ok (.iload_n 1, 1) := by decide +kernel
theorem dX10_addsTool_2 : decode cX10_addsTool 2 = .ok (.iconst 1, 1) := by decide +kernel
theorem dX10_addsTool_3 : decode cX10_addsTool 3 = .ok (.bipush 20, 2) := by decide +kernel
theorem dX10_addsTool_5 : decode cX10_addsTool 5 = .ok (.invokestatic 36, 3) := by decide +kernel
theorem dX10_addsTool_8 : decode cX10_addsTool 8 = .ok (.aload_n 0, 1) := by decide +kernel
theorem dX10_addsTool_9 : decode cX10_addsTool 9 = .ok (.getfield 7, 3) := by decide +kernel
theorem dX10_addsTool_12 : decode cX10_addsTool 12 = .ok (.bipush 10, 2) := by decide +kernel
theorem dX10_addsTool_14 : decode cX10_addsTool 14 = .ok (.iaload, 1) := by decide +kernel
theorem dX10_addsTool_15 : decode cX10_addsTool 15 = .ok (.iconst 5, 1) := by decide +kernel
theorem dX10_addsTool_16 : decode cX10_addsTool 16 = .ok (.if_icmp .ge 7, 3) := by decide +kernel
theorem dX10_addsTool_19 : decode cX10_addsTool 19 = .ok (.iconst 1, 1) := by decide +kernel
theorem dX10_addsTool_20 : decode cX10_addsTool 20 = .ok (.goto 4, 3) := by decide +kernel
theorem dX10_addsTool_23 : decode cX10_addsTool 23 = .ok (.iconst 0, 1) := by decide +kernel
theorem dX10_addsTool_24 : decode cX10_addsTool 24 = .ok (.iconst 1, 1) := by decide +kernel
theorem dX10_addsTool_25 : decode cX10_addsTool 25 = .ok (.invokevirtual 64, 3) := by decide +kernel
theorem dX10_addsTool_28 : decode cX10_addsTool 28 = .ok (.ifCond .eq 5, 3) := by decide +kernel
theorem dX10_addsTool_31 : decode cX10_addsTool 31 = .ok (.iconst 0, 1) := by decide +kernel
theorem dX10_addsTool_32 : decode cX10_addsTool 32 = .ok (.ireturn, 1) := by decide +kernel
theorem dX10_addsTool_33 : decode cX10_addsTool 33 = .ok (.iload_n 2, 1) := by decide +kernel
theorem dX10_addsTool_34 : decode cX10_addsTool 34 = .ok (.ifCond .eq 7, 3) := by decide +kernel
theorem dX10_addsTool_37 : decode cX10_addsTool 37 = .ok (.aload_n 0, 1) := by decide +kernel
theorem dX10_addsTool_38 : decode cX10_addsTool 38 = .ok (.invokevirtual 68, 3) := by decide +kernel
theorem dX10_addsTool_41 : decode cX10_addsTool 41 = .ok (.aload_n 0, 1) := by decide +kernel
theorem dX10_addsTool_42 : decode cX10_addsTool 42 = .ok (.getfield 7, 3) := by decide +kernel
theorem dX10_addsTool_45 : decode cX10_addsTool 45 = .ok (.bipush 10, 2) := by decide +kernel
theorem dX10_addsTool_47 : decode cX10_addsTool 47 = .ok (.iaload, 1) := by decide +kernel
theorem dX10_addsTool_48 : decode cX10_addsTool 48 = .ok (.istore_n 3, 1) := by decide +kernel
theorem dX10_addsTool_49 : decode cX10_addsTool 49 = .ok (.aload_n 0, 1) := by decide +kernel
theorem dX10_addsTool_50 : decode cX10_addsTool 50 = .ok (.getfield 7, 3) := by decide +kernel
theorem dX10_addsTool_53 : decode cX10_addsTool 53 = .ok (.sipush 140, 3) := by decide +kernel
theorem dX10_addsTool_56 : decode cX10_addsTool 56 = .ok (.iload_n 3, 1) := by decide +kernel
theorem dX10_addsTool_57 : decode cX10_addsTool 57 = .ok (.iadd, 1) := by decide +kernel
theorem dX10_addsTool_58 : decode cX10_addsTool 58 = .ok (.iload_n 1, 1) := by decide +kernel
theorem dX10_addsTool_59 : decode cX10_addsTool 59 = .ok (.iastore, 1) := by decide +kernel
theorem dX10_addsTool_60 : decode cX10_addsTool 60 = .ok (.aload_n 0, 1) := by decide +kernel
theorem dX10_addsTool_61 : decode cX10_addsTool 61 = .ok (.getfield 7, 3) := by decide +kernel
theorem dX10_addsTool_64 : decode cX10_addsTool 64 = .ok (.sipush 145, 3) := by decide +kernel
theorem dX10_addsTool_67 : decode cX10_addsTool 67 = .ok (.iload_n 3, 1) := by decide +kernel
theorem dX10_addsTool_68 : decode cX10_addsTool 68 = .ok (.iadd, 1) := by decide +kernel
theorem dX10_addsTool_69 : decode cX10_addsTool 69 = .ok (.bipush 60, 2) := by decide +kernel
theorem dX10_addsTool_71 : decode cX10_addsTool 71 = .ok (.iastore, 1) := by decide +kernel
theorem dX10_addsTool_72 : decode cX10_addsTool 72 = .ok (.aload_n 0, 1) := by decide +kernel
theorem dX10_addsTool_73 : decode cX10_addsTool 73 = .ok (.getfield 7, 3) := by decide +kernel
theorem dX10_addsTool_76 : decode cX10_addsTool 76 = .ok (.sipush 150, 3) := by decide +kernel
theorem dX10_addsTool_79 : decode cX10_addsTool 79 = .ok (.iload_n 3, 1) := by decide +kernel
theorem dX10_addsTool_80 : decode cX10_addsTool 80 = .ok (.iadd, 1) := by decide +kernel
theorem dX10_addsTool_81 : decode cX10_addsTool 81 = .ok (.iconst 0, 1) := by decide +kernel
theorem dX10_addsTool_82 : decode cX10_addsTool 82 = .ok (.iastore, 1) := by decide +kernel
theorem dX10_addsTool_83 : decode cX10_addsTool 83 = .ok (.aload_n 0, 1) := by decide +kernel
theorem dX10_addsTool_84 : decode cX10_addsTool 84 = .ok (.getfield 7, 3) := by decide +kernel
theorem dX10_addsTool_87 : decode cX10_addsTool 87 = .ok (.bipush 10, 2) := by decide +kernel
theorem dX10_addsTool_89 : decode cX10_addsTool 89 = .ok (.dup2, 1) := by decide +kernel
theorem dX10_addsTool_90 : decode cX10_addsTool 90 = .ok (.iaload, 1) := by decide +kernel
theorem dX10_addsTool_91 : decode cX10_addsTool 91 = .ok (.iconst 1, 1) := by decide +kernel
theorem dX10_addsTool_92 : decode cX10_addsTool 92 = .ok (.iadd, 1) := by decide +kernel
theorem dX10_addsTool_93 : decode cX10_addsTool 93 = .ok (.iastore, 1) := by decide +kernel
theorem dX10_addsTool_94 : decode cX10_addsTool 94 = .ok (.iload_n 3, 1) := by decide +kernel
theorem dX10_addsTool_95 : decode cX10_addsTool 95 = .ok (.ireturn, 1) := by decide +kernel
theorem dX10_addTool_0 : decode cX10_addTool 0 = .ok (.aload_n 0, 1) := by decide +kernel
theorem dX10_addTool_1 : decode cX10_addTool 1 = .ok (.iload_n 1, 1) := by decide +kernel
theorem dX10_addTool_2 : decode cX10_addTool 2 = .ok (.iconst 1, 1) := by decide +kernel
theorem dX10_addTool_3 : decode cX10_addTool 3 = .ok (.invokevirtual 93, 3) := by decide +kernel
theorem dX10_addTool_6 : decode cX10_addTool 6 = .ok (.ireturn, 1) := by decide +kernel
theorem dX10_why_0 : decode cX10_why 0 = .ok (.aload_n 0, 1) := by decide +kernel
theorem dX10_why_1 : decode cX10_why 1 = .ok (.getfield 7, 3) := by decide +kernel
theorem dX10_why_4 : decode cX10_why 4 = .ok (.bipush 12, 2) := by decide +kernel
theorem dX10_why_6 : decode cX10_why 6 = .ok (.iload_n 2, 1) := by decide +kernel
theorem dX10_why_7 : decode cX10_why 7 = .ok (.iadd, 1) := by decide +kernel
theorem dX10_why_8 : decode cX10_why 8 = .ok (.iaload, 1) := by decide +kernel
theorem dX10_why_9 : decode cX10_why 9 = .ok (.ifCond .ne 5, 3) := by decide +kernel
theorem dX10_why_12 : decode cX10_why 12 = .ok (.iconst 1, 1) := by decide +kernel
theorem dX10_why_13 : decode cX10_why 13 = .ok (.ireturn, 1) := by decide +kernel
theorem dX10_why_14 : decode cX10_why 14 = .ok (.iload_n 3, 1) := by decide +kernel
theorem dX10_why_15 : decode cX10_why 15 = .ok (.aload_n 0, 1) := by decide +kernel
theorem dX10_why_16 : decode cX10_why 16 = .ok (.getfield 7, 3) := by decide +kernel
theorem dX10_why_19 : decode cX10_why 19 = .ok (.bipush 12, 2) := by decide +kernel
theorem dX10_why_21 : decode cX10_why 21 = .ok (.iload_n 2, 1) := by decide +kernel
theorem dX10_why_22 : decode cX10_why 22 = .ok (.iadd, 1) := by decide +kernel
theorem dX10_why_23 : decode cX10_why 23 = .ok (.iaload, 1) := by decide +kernel
theorem dX10_why_24 : decode cX10_why 24 = .ok (.if_icmp .lt 5, 3) := by decide +kernel
theorem dX10_why_27 : decode cX10_why 27 = .ok (.iconst 2, 1) := by decide +kernel
theorem dX10_why_28 : decode cX10_why 28 = .ok (.ireturn, 1) := by decide +kernel
theorem dX10_why_29 : decode cX10_why 29 = .ok (.aload_n 0, 1) := by decide +kernel
theorem dX10_why_30 : decode cX10_why 30 = .ok (.getfield 7, 3) := by decide +kernel
theorem dX10_why_33 : decode cX10_why 33 = .ok (.bipush 92, 2) := by decide +kernel
theorem dX10_why_35 : decode cX10_why 35 = .ok (.bipush 6, 2) := by decide +kernel
theorem dX10_why_37 : decode cX10_why 37 = .ok (.iload_n 2, 1) := by decide +kernel
theorem dX10_why_38 : decode cX10_why 38 = .ok (.imul, 1) := by decide +kernel
theorem dX10_why_39 : decode cX10_why 39 = .ok (.iadd, 1) := by decide +kernel
theorem dX10_why_40 : decode cX10_why 40 = .ok (.iload_n 3, 1) := by decide +kernel
theorem dX10_why_41 : decode cX10_why 41 = .ok (.iadd, 1) := by decide +kernel
theorem dX10_why_42 : decode cX10_why 42 = .ok (.iaload, 1) := by decide +kernel
theorem dX10_why_43 : decode cX10_why 43 = .ok (.iload 4, 2) := by decide +kernel
theorem dX10_why_45 : decode cX10_why 45 = .ok (.if_icmp .ge 5, 3) := by decide +kernel
theorem dX10_why_48 : decode cX10_why 48 = .ok (.iconst 3, 1) := by decide +kernel
theorem dX10_why_49 : decode cX10_why 49 = .ok (.ireturn, 1) := by decide +kernel
theorem dX10_why_50 : decode cX10_why 50 = .ok (.aload_n 0, 1) := by decide +kernel
theorem dX10_why_51 : decode cX10_why 51 = .ok (.getfield 7, 3) := by decide +kernel
theorem dX10_why_54 : decode cX10_why 54 = .ok (.sipush 145, 3) := by decide +kernel
theorem dX10_why_57 : decode cX10_why 57 = .ok (.iload_n 1, 1) := by decide +kernel
theorem dX10_why_58 : decode cX10_why 58 = .ok (.iadd, 1) := by decide +kernel
theorem dX10_why_59 : decode cX10_why 59 = .ok (.iaload, 1) := by decide +kernel
theorem dX10_why_60 : decode cX10_why 60 = .ok (.iload 4, 2) := by decide +kernel
theorem dX10_why_62 : decode cX10_why 62 = .ok (.aload_n 0, 1) := by decide +kernel
theorem dX10_why_63 : decode cX10_why 63 = .ok (.getfield 7, 3) := by decide +kernel
theorem dX10_why_66 : decode cX10_why 66 = .ok (.sipush 140, 3) := by decide +kernel
theorem dX10_why_69 : decode cX10_why 69 = .ok (.iload_n 1, 1) := by decide +kernel
theorem dX10_why_70 : decode cX10_why 70 = .ok (.iadd, 1) := by decide +kernel
theorem dX10_why_71 : decode cX10_why 71 = .ok (.iaload, 1) := by decide +kernel
theorem dX10_why_72 : decode cX10_why 72 = .ok (.invokestatic 96, 3) := by decide +kernel
theorem dX10_why_75 : decode cX10_why 75 = .ok (.if_icmp .ge 7, 3) := by decide +kernel
theorem dX10_why_78 : decode cX10_why 78 = .ok (.iconst 4, 1) := by decide +kernel
theorem dX10_why_79 : decode cX10_why 79 = .ok (.goto 4, 3) := by decide +kernel
theorem dX10_why_82 : decode cX10_why 82 = .ok (.iconst 0, 1) := by decide +kernel
theorem dX10_why_83 : decode cX10_why 83 = .ok (.ireturn, 1) := by decide +kernel
theorem dX10_carves_0 : decode cX10_carves 0 = .ok (.aload_n 0, 1) := by decide +kernel
theorem dX10_carves_1 : decode cX10_carves 1 = .ok (.iload_n 1, 1) := by decide +kernel
theorem dX10_carves_2 : decode cX10_carves 2 = .ok (.invokevirtual 99, 3) := by decide +kernel
theorem dX10_carves_5 : decode cX10_carves 5 = .ok (.ifCond .eq 14, 3) := by decide +kernel
theorem dX10_carves_8 : decode cX10_carves 8 = .ok (.iload_n 2, 1) := by decide +kernel
theorem dX10_carves_9 : decode cX10_carves 9 = .ok (.invokestatic 40, 3) := by decide +kernel
theorem dX10_carves_12 : decode cX10_carves 12 = .ok (.ifCond .eq 7, 3) := by decide +kernel
theorem dX10_carves_15 : decode cX10_carves 15 = .ok (.iconst 1, 1) := by decide +kernel
theorem dX10_carves_16 : decode cX10_carves 16 = .ok (.goto 4, 3) := by decide +kernel
theorem dX10_carves_19 : decode cX10_carves 19 = .ok (.iconst 0, 1) := by decide +kernel
theorem dX10_carves_20 : decode cX10_carves 20 = .ok (.istore 6, 2) := by decide +kernel
theorem dX10_carves_22 : decode cX10_carves 22 = .ok (.iload_n 3, 1) := by decide +kernel
theorem dX10_carves_23 : decode cX10_carves 23 = .ok (.invokestatic 102, 3) := by decide +kernel
theorem dX10_carves_26 : decode cX10_carves 26 = .ok (.ifCond .eq 18, 3) := by decide +kernel
theorem dX10_carves_29 : decode cX10_carves 29 = .ok (.iload 4, 2) := by decide +kernel
theorem dX10_carves_31 : decode cX10_carves 31 = .ok (.iconst 1, 1) := by decide +kernel
theorem dX10_carves_32 : decode cX10_carves 32 = .ok (.bipush 100, 2) := by decide +kernel
theorem dX10_carves_34 : decode cX10_carves 34 = .ok (.invokestatic 36, 3) := by decide +kernel
theorem dX10_carves_37 : decode cX10_carves 37 = .ok (.ifCond .eq 7, 3) := by decide +kernel
theorem dX10_carves_40 : decode cX10_carves 40 = .ok (.iconst 1, 1) := by decide +kernel
theorem dX10_carves_41 : decode cX10_carves 41 = .ok (.goto 4, 3) := by decide +kernel
theorem dX10_carves_44 : decode cX10_carves 44 = .ok (.iconst 0, 1) := by decide +kernel
theorem dX10_carves_45 : decode cX10_carves 45 = .ok (.istore 7, 2) := by decide +kernel
theorem dX10_carves_47 : decode cX10_carves 47 = .ok (.aload_n 0, 1) := by decide +kernel
theorem dX10_carves_48 : decode cX10_carves 48 = .ok (.iload 6, 2) := by decide +kernel
theorem dX10_carves_50 : decode cX10_carves 50 = .ok (.iload 7, 2) := by decide +kernel
theorem dX10_carves_52 : decode cX10_carves 52 = .ok (.iload 6, 2) := by decide +kernel
theorem dX10_carves_54 : decode cX10_carves 54 = .ok (.ifCond .eq 24, 3) := by decide +kernel
theorem dX10_carves_57 : decode cX10_carves 57 = .ok (.iload 7, 2) := by decide +kernel
theorem dX10_carves_59 : decode cX10_carves 59 = .ok (.ifCond .eq 19, 3) := by decide +kernel
theorem dX10_carves_62 : decode cX10_carves 62 = .ok (.aload_n 0, 1) := by decide +kernel
theorem dX10_carves_63 : decode cX10_carves 63 = .ok (.iload_n 1, 1) := by decide +kernel
theorem dX10_carves_64 : decode cX10_carves 64 = .ok (.iload_n 2, 1) := by decide +kernel
theorem dX10_carves_65 : decode cX10_carves 65 = .ok (.iload_n 3, 1) := by decide +kernel
theorem dX10_carves_66 : decode cX10_carves 66 = .ok (.iload 4, 2) := by decide +kernel
theorem dX10_carves_68 : decode cX10_carves 68 = .ok (.invokevirtual 105, 3) := by decide +kernel
theorem dX10_carves_71 : decode cX10_carves 71 = .ok (.ifCond .ne 7, 3) := by decide +kernel
theorem dX10_carves_74 : decode cX10_carves 74 = .ok (.iconst 1, 1) := by decide +kernel
theorem dX10_carves_75 : decode cX10_carves 75 = .ok (.goto 4, 3) := by decide +kernel
theorem dX10_carves_78 : decode cX10_carves 78 = .ok (.iconst 0, 1) := by decide +kernel
theorem dX10_carves_79 : decode cX10_carves 79 = .ok (.invokevirtual 64, 3) := by decide +kernel
theorem dX10_carves_82 : decode cX10_carves 82 = .ok (.ifCond .eq 5, 3) := by decide +kernel
theorem dX10_carves_85 : decode cX10_carves 85 = .ok (.iconst 0, 1) := by decide +kernel
theorem dX10_carves_86 : decode cX10_carves 86 = .ok (.ireturn, 1) := by decide +kernel
theorem dX10_carves_87 : decode cX10_carves 87 = .ok (.iload 5, 2) := by decide +kernel
theorem dX10_carves_89 : decode cX10_carves 89 = .ok (.ifCond .eq 7, 3) := by decide +kernel
theorem dX10_carves_92 : decode cX10_carves 92 = .ok (.aload_n 0, 1) := by decide +kernel
theorem dX10_carves_93 : decode cX10_carves 93 = .ok (.invokevirtual 68, 3) := by decide +kernel
theorem dX10_carves_96 : decode cX10_carves 96 = .ok (.iload 4, 2) := by decide +kernel
theorem dX10_carves_98 : decode cX10_carves 98 = .ok (.aload_n 0, 1) := by decide +kernel
theorem dX10_carves_99 : decode cX10_carves 99 = .ok (.getfield 7, 3) := by decide +kernel
theorem dX10_carves_102 : decode cX10_carves 102 = .ok (.sipush 140, 3) := by decide +kernel
theorem dX10_carves_105 : decode cX10_carves 105 = .ok (.iload_n 1, 1) := by decide +kernel
theorem dX10_carves_106 : decode cX10_carves 106 = .ok (.iadd, 1) := by decide +kernel
theorem dX10_carves_107 : decode cX10_carves 107 = .ok (.iaload, 1) := by decide +kernel
theorem dX10_carves_108 : decode cX10_carves 108 = .ok (.invokestatic 96, 3) := by decide +kernel
theorem dX10_carves_111 : decode cX10_carves 111 = .ok (.istore 8, 2) := by decide +kernel
theorem dX10_carves_113 : decode cX10_carves 113 = .ok (.aload_n 0, 1) := by decide +kernel
theorem dX10_carves_114 : decode cX10_carves 114 = .ok (.getfield 7, 3) := by decide +kernel
theorem dX10_carves_117 : decode cX10_carves 117 = .ok (.sipush 145, 3) := by decide +kernel
theorem dX10_carves_120 : decode cX10_carves 120 = .ok (.iload_n 1, 1) := by decide +kernel
theorem dX10_carves_121 : decode cX10_carves 121 = .ok (.iadd, 1) := by decide +kernel
theorem dX10_carves_122 : decode cX10_carves 122 = .ok (.dup2, 1) := by decide +kernel
theorem dX10_carves_123 : decode cX10_carves 123 = .ok (.iaload, 1) := by decide +kernel
theorem dX10_carves_124 : decode cX10_carves 124 = .ok (.iload 8, 2) := by decide +kernel
theorem dX10_carves_126 : decode cX10_carves 126 = .ok (.isub, 1) := by decide +kernel
theorem dX10_carves_127 : decode cX10_carves 127 = .ok (.iastore, 1) := by decide +kernel
theorem dX10_carves_128 : decode cX10_carves 128 = .ok (.aload_n 0, 1) := by decide +kernel
theorem dX10_carves_129 : decode cX10_carves 129 = .ok (.getfield 7, 3) := by decide +kernel
theorem dX10_carves_132 : decode cX10_carves 132 = .ok (.sipush 150, 3) := by decide +kernel
theorem dX10_carves_135 : decode cX10_carves 135 = .ok (.iload_n 1, 1) := by decide +kernel
theorem dX10_carves_136 : decode cX10_carves 136 = .ok (.iadd, 1) := by decide +kernel
theorem dX10_carves_137 : decode cX10_carves 137 = .ok (.dup2, 1) := by decide +kernel
theorem dX10_carves_138 : decode cX10_carves 138 = .ok (.iaload, 1) := by decide +kernel
theorem dX10_carves_139 : decode cX10_carves 139 = .ok (.iload 8, 2) := by decide +kernel
theorem dX10_carves_141 : decode cX10_carves 141 = .ok (.iadd, 1) := by decide +kernel
theorem dX10_carves_142 : decode cX10_carves 142 = .ok (.iastore, 1) := by decide +kernel
theorem dX10_carves_143 : decode cX10_carves 143 = .ok (.aload_n 0, 1) := by decide +kernel
theorem dX10_carves_144 : decode cX10_carves 144 = .ok (.getfield 7, 3) := by decide +kernel
theorem dX10_carves_147 : decode cX10_carves 147 = .ok (.bipush 92, 2) := by decide +kernel
theorem dX10_carves_149 : decode cX10_carves 149 = .ok (.bipush 6, 2) := by decide +kernel
theorem dX10_carves_151 : decode cX10_carves 151 = .ok (.iload_n 2, 1) := by decide +kernel
theorem dX10_carves_152 : decode cX10_carves 152 = .ok (.imul, 1) := by decide +kernel
theorem dX10_carves_153 : decode cX10_carves 153 = .ok (.iadd, 1) := by decide +kernel
theorem dX10_carves_154 : decode cX10_carves 154 = .ok (.iload_n 3, 1) := by decide +kernel
theorem dX10_carves_155 : decode cX10_carves 155 = .ok (.iadd, 1) := by decide +kernel
theorem dX10_carves_156 : decode cX10_carves 156 = .ok (.dup2, 1) := by decide +kernel
theorem dX10_carves_157 : decode cX10_carves 157 = .ok (.iaload, 1) := by decide +kernel
theorem dX10_carves_158 : decode cX10_carves 158 = .ok (.iload 4, 2) := by decide +kernel
theorem dX10_carves_160 : decode cX10_carves 160 = .ok (.isub, 1) := by decide +kernel
theorem dX10_carves_161 : decode cX10_carves 161 = .ok (.iastore, 1) := by decide +kernel
theorem dX10_carves_162 : decode cX10_carves 162 = .ok (.aload_n 0, 1) := by decide +kernel
theorem dX10_carves_163 : decode cX10_carves 163 = .ok (.getfield 7, 3) := by decide +kernel
theorem dX10_carves_166 : decode cX10_carves 166 = .ok (.iconst 5, 1) := by decide +kernel
theorem dX10_carves_167 : decode cX10_carves 167 = .ok (.dup2, 1) := by decide +kernel
theorem dX10_carves_168 : decode cX10_carves 168 = .ok (.iaload, 1) := by decide +kernel
theorem dX10_carves_169 : decode cX10_carves 169 = .ok (.iload 4, 2) := by decide +kernel
theorem dX10_carves_171 : decode cX10_carves 171 = .ok (.iadd, 1) := by decide +kernel
theorem dX10_carves_172 : decode cX10_carves 172 = .ok (.iastore, 1) := by decide +kernel
theorem dX10_carves_173 : decode cX10_carves 173 = .ok (.aload_n 0, 1) := by decide +kernel
theorem dX10_carves_174 : decode cX10_carves 174 = .ok (.getfield 7, 3) := by decide +kernel
theorem dX10_carves_177 : decode cX10_carves 177 = .ok (.bipush 28, 2) := by decide +kernel
theorem dX10_carves_179 : decode cX10_carves 179 = .ok (.iload_n 2, 1) := by decide +kernel
theorem dX10_carves_180 : decode cX10_carves 180 = .ok (.iadd, 1) := by decide +kernel
theorem dX10_carves_181 : decode cX10_carves 181 = .ok (.dup2, 1) := by decide +kernel
theorem dX10_carves_182 : decode cX10_carves 182 = .ok (.iaload, 1) := by decide +kernel
theorem dX10_carves_183 : decode cX10_carves 183 = .ok (.iload 4, 2) := by decide +kernel
theorem dX10_carves_185 : decode cX10_carves 185 = .ok (.iadd, 1) := by decide +kernel
theorem dX10_carves_186 : decode cX10_carves 186 = .ok (.iastore, 1) := by decide +kernel
theorem dX10_carves_187 : decode cX10_carves 187 = .ok (.aload_n 0, 1) := by decide +kernel
theorem dX10_carves_188 : decode cX10_carves 188 = .ok (.getfield 7, 3) := by decide +kernel
theorem dX10_carves_191 : decode cX10_carves 191 = .ok (.bipush 92, 2) := by decide +kernel
theorem dX10_carves_193 : decode cX10_carves 193 = .ok (.bipush 6, 2) := by decide +kernel
theorem dX10_carves_195 : decode cX10_carves 195 = .ok (.iload_n 2, 1) := by decide +kernel
theorem dX10_carves_196 : decode cX10_carves 196 = .ok (.imul, 1) := by decide +kernel
theorem dX10_carves_197 : decode cX10_carves 197 = .ok (.iadd, 1) := by decide +kernel
theorem dX10_carves_198 : decode cX10_carves 198 = .ok (.iload_n 3, 1) := by decide +kernel
theorem dX10_carves_199 : decode cX10_carves 199 = .ok (.iadd, 1) := by decide +kernel
theorem dX10_carves_200 : decode cX10_carves 200 = .ok (.iaload, 1) := by decide +kernel
theorem dX10_carves_201 : decode cX10_carves 201 = .ok (.istore 9, 2) := by decide +kernel
theorem dX10_carves_203 : decode cX10_carves 203 = .ok (.aload_n 0, 1) := by decide +kernel
theorem dX10_carves_204 : decode cX10_carves 204 = .ok (.iload_n 2, 1) := by decide +kernel
theorem dX10_carves_205 : decode cX10_carves 205 = .ok (.invokevirtual 56, 3) := by decide +kernel
theorem dX10_carves_208 : decode cX10_carves 208 = .ok (.iload 9, 2) := by decide +kernel
theorem dX10_carves_210 : decode cX10_carves 210 = .ok (.ireturn, 1) := by decide +kernel
theorem dX10_carve_0 : decode cX10_carve 0 = .ok (.aload_n 0, 1) := by decide +kernel
theorem dX10_carve_1 : decode cX10_carve 1 = .ok (.iload_n 1, 1) := by decide +kernel
theorem dX10_carve_2 : decode cX10_carve 2 = .ok (.iload_n 2, 1) := by decide +kernel
theorem dX10_carve_3 : decode cX10_carve 3 = .ok (.iload_n 3, 1) := by decide +kernel
theorem dX10_carve_4 : decode cX10_carve 4 = .ok (.iload 4, 2) := by decide +kernel
theorem dX10_carve_6 : decode cX10_carve 6 = .ok (.iconst 1, 1) := by decide +kernel
theorem dX10_carve_7 : decode cX10_carve 7 = .ok (.invokevirtual 109, 3) := by decide +kernel
theorem dX10_carve_10 : decode cX10_carve 10 = .ok (.ireturn, 1) := by decide +kernel
theorem dX10_recycles_0 : decode cX10_recycles 0 = .ok (.aload_n 0, 1) := by decide +kernel
theorem dX10_recycles_1 : decode cX10_recycles 1 = .ok (.iconst 0, 1) := by decide +kernel
theorem dX10_recycles_2 : decode cX10_recycles 2 = .ok (.putfield 29, 3) := by decide +kernel
theorem dX10_recycles_5 : decode cX10_recycles 5 = .ok (.iload_n 1, 1) := by decide +kernel
theorem dX10_recycles_6 : decode cX10_recycles 6 = .ok (.ifCond .eq 7, 3) := by decide +kernel
theorem dX10_recycles_9 : decode cX10_recycles 9 = .ok (.aload_n 0, 1) := by decide +kernel
theorem dX10_recycles_10 : decode cX10_recycles 10 = .ok (.invokevirtual 68, 3) := by decide +kernel
theorem dX10_recycles_13 : decode cX10_recycles 13 = .ok (.sipush 9999, 3) := by decide +kernel
theorem dX10_recycles_16 : decode cX10_recycles 16 = .ok (.aload_n 0, 1) := by decide +kernel
theorem dX10_recycles_17 : decode cX10_recycles 17 = .ok (.getfield 7, 3) := by decide +kernel
theorem dX10_recycles_20 : decode cX10_recycles 20 = .ok (.iconst 0, 1) := by decide +kernel
theorem dX10_recycles_21 : decode cX10_recycles 21 = .ok (.iaload, 1) := by decide +kernel
theorem dX10_recycles_22 : decode cX10_recycles 22 = .ok (.isub, 1) := by decide +kernel
theorem dX10_recycles_23 : decode cX10_recycles 23 = .ok (.istore_n 2, 1) := by decide +kernel
theorem dX10_recycles_24 : decode cX10_recycles 24 = .ok (.aload_n 0, 1) := by decide +kernel
theorem dX10_recycles_25 : decode cX10_recycles 25 = .ok (.getfield 7, 3) := by decide +kernel
theorem dX10_recycles_28 : decode cX10_recycles 28 = .ok (.iconst 5, 1) := by decide +kernel
theorem dX10_recycles_29 : decode cX10_recycles 29 = .ok (.iaload, 1) := by decide +kernel
theorem dX10_recycles_30 : decode cX10_recycles 30 = .ok (.iload_n 2, 1) := by decide +kernel
theorem dX10_recycles_31 : decode cX10_recycles 31 = .ok (.if_icmp .ge 12, 3) := by decide +kernel
theorem dX10_recycles_34 : decode cX10_recycles 34 = .ok (.aload_n 0, 1) := by decide +kernel
theorem dX10_recycles_35 : decode cX10_recycles 35 = .ok (.getfield 7, 3) := by decide +kernel
theorem dX10_recycles_38 : decode cX10_recycles 38 = .ok (.iconst 5, 1) := by decide +kernel
theorem dX10_recycles_39 : decode cX10_recycles 39 = .ok (.iaload, 1) := by decide +kernel
theorem dX10_recycles_40 : decode cX10_recycles 40 = .ok (.goto 4, 3) := by decide +kernel
theorem dX10_recycles_43 : decode cX10_recycles 43 = .ok (.iload_n 2, 1) := by decide +kernel
theorem dX10_recycles_44 : decode cX10_recycles 44 = .ok (.istore_n 3, 1) := by decide +kernel
theorem dX10_recycles_45 : decode cX10_recycles 45 = .ok (.aload_n 0, 1) := by decide +kernel
theorem dX10_recycles_46 : decode cX10_recycles 46 = .ok (.getfield 7, 3) := by decide +kernel
theorem dX10_recycles_49 : decode cX10_recycles 49 = .ok (.iconst 5, 1) := by decide +kernel
theorem dX10_recycles_50 : decode cX10_recycles 50 = .ok (.dup2, 1) := by decide +kernel
theorem dX10_recycles_51 : decode cX10_recycles 51 = .ok (.iaload, 1) := by decide +kernel
theorem dX10_recycles_52 : decode cX10_recycles 52 = .ok (.iload_n 3, 1) := by decide +kernel
theorem dX10_recycles_53 : decode cX10_recycles 53 = .ok (.isub, 1) := by decide +kernel
theorem dX10_recycles_54 : decode cX10_recycles 54 = .ok (.iastore, 1) := by decide +kernel
theorem dX10_recycles_55 : decode cX10_recycles 55 = .ok (.aload_n 0, 1) := by decide +kernel
theorem dX10_recycles_56 : decode cX10_recycles 56 = .ok (.getfield 7, 3) := by decide +kernel
theorem dX10_recycles_59 : decode cX10_recycles 59 = .ok (.iconst 0, 1) := by decide +kernel
theorem dX10_recycles_60 : decode cX10_recycles 60 = .ok (.dup2, 1) := by decide +kernel
theorem dX10_recycles_61 : decode cX10_recycles 61 = .ok (.iaload, 1) := by decide +kernel
theorem dX10_recycles_62 : decode cX10_recycles 62 = .ok (.iload_n 3, 1) := by decide +kernel
theorem dX10_recycles_63 : decode cX10_recycles 63 = .ok (.iadd, 1) := by decide +kernel
theorem dX10_recycles_64 : decode cX10_recycles 64 = .ok (.iastore, 1) := by decide +kernel
theorem dX10_recycles_65 : decode cX10_recycles 65 = .ok (.aload_n 0, 1) := by decide +kernel
theorem dX10_recycles_66 : decode cX10_recycles 66 = .ok (.getfield 7, 3) := by decide +kernel
theorem dX10_recycles_69 : decode cX10_recycles 69 = .ok (.bipush 7, 2) := by decide +kernel
theorem dX10_recycles_71 : decode cX10_recycles 71 = .ok (.dup2, 1) := by decide +kernel
theorem dX10_recycles_72 : decode cX10_recycles 72 = .ok (.iaload, 1) := by decide +kernel
theorem dX10_recycles_73 : decode cX10_recycles 73 = .ok (.iload_n 3, 1) := by decide +kernel
theorem dX10_recycles_74 : decode cX10_recycles 74 = .ok (.iadd, 1) := by decide +kernel
theorem dX10_recycles_75 : decode cX10_recycles 75 = .ok (.iastore, 1) := by decide +kernel
theorem dX10_recycles_76 : decode cX10_recycles 76 = .ok (.iload_n 3, 1) := by decide +kernel
theorem dX10_recycles_77 : decode cX10_recycles 77 = .ok (.ireturn, 1) := by decide +kernel
theorem dX10_recycle_0 : decode cX10_recycle 0 = .ok (.aload_n 0, 1) := by decide +kernel
theorem dX10_recycle_1 : decode cX10_recycle 1 = .ok (.iconst 1, 1) := by decide +kernel
theorem dX10_recycle_2 : decode cX10_recycle 2 = .ok (.invokevirtual 113, 3) := by decide +kernel
theorem dX10_recycle_5 : decode cX10_recycle 5 = .ok (.ireturn, 1) := by decide +kernel
theorem dX10_hour_0 : decode cX10_hour 0 = .ok (.aload_n 0, 1) := by decide +kernel
theorem dX10_hour_1 : decode cX10_hour 1 = .ok (.iconst 0, 1) := by decide +kernel
theorem dX10_hour_2 : decode cX10_hour 2 = .ok (.putfield 29, 3) := by decide +kernel
theorem dX10_hour_5 : decode cX10_hour 5 = .ok (.aload_n 0, 1) := by decide +kernel
theorem dX10_hour_6 : decode cX10_hour 6 = .ok (.invokevirtual 68, 3) := by decide +kernel
theorem dX10_hour_9 : decode cX10_hour 9 = .ok (.aload_n 0, 1) := by decide +kernel
theorem dX10_hour_10 : decode cX10_hour 10 = .ok (.iload_n 1, 1) := by decide +kernel
theorem dX10_hour_11 : decode cX10_hour 11 = .ok (.invokevirtual 60, 3) := by decide +kernel
theorem dX10_hour_14 : decode cX10_hour 14 = .ok (.ireturn, 1) := by decide +kernel
theorem dX10_goesBy_0 : decode cX10_goesBy 0 = .ok (.aload_n 0, 1) := by decide +kernel
theorem dX10_goesBy_1 : decode cX10_goesBy 1 = .ok (.iload_n 1, 1) := by decide +kernel
theorem dX10_goesBy_2 : decode cX10_goesBy 2 = .ok (.iconst 1, 1) := by decide +kernel
theorem dX10_goesBy_3 : decode cX10_goesBy 3 = .ok (.bipush 24, 2) := by decide +kernel
theorem dX10_goesBy_5 : decode cX10_goesBy 5 = .ok (.invokestatic 36, 3) := by decide +kernel
theorem dX10_goesBy_8 : decode cX10_goesBy 8 = .ok (.iconst 1, 1) := by decide +kernel
theorem dX10_goesBy_9 : decode cX10_goesBy 9 = .ok (.iconst 1, 1) := by decide +kernel
theorem dX10_goesBy_10 : decode cX10_goesBy 10 = .ok (.invokevirtual 64, 3) := by decide +kernel
theorem dX10_goesBy_13 : decode cX10_goesBy 13 = .ok (.ifCond .eq 7, 3) := by decide +kernel
theorem dX10_goesBy_16 : decode cX10_goesBy 16 = .ok (.iconst 0, 1) := by decide +kernel
theorem dX10_goesBy_17 : decode cX10_goesBy 17 = .ok (.goto 9, 3) := by decide +kernel
theorem dX10_goesBy_20 : decode cX10_goesBy 20 = .ok (.aload_n 0, 1) := by decide +kernel
theorem dX10_goesBy_21 : decode cX10_goesBy 21 = .ok (.iload_n 1, 1) := by decide +kernel
theorem dX10_goesBy_22 : decode cX10_goesBy 22 = .ok (.iload_n 2, 1) := by decide +kernel
theorem dX10_goesBy_23 : decode cX10_goesBy 23 = .ok (.invokevirtual 116, 3) := by decide +kernel
theorem dX10_goesBy_26 : decode cX10_goesBy 26 = .ok (.ireturn, 1) := by decide +kernel
theorem dX10_ballot_0 : decode cX10_ballot 0 = .ok (.iload_n 1, 1) := by decide +kernel
theorem dX10_ballot_1 : decode cX10_ballot 1 = .ok (.invokestatic 40, 3) := by decide +kernel
theorem dX10_ballot_4 : decode cX10_ballot 4 = .ok (.ifCond .eq 36, 3) := by decide +kernel
theorem dX10_ballot_7 : decode cX10_ballot 7 = .ok (.iload_n 2, 1) := by decide +kernel
theorem dX10_ballot_8 : decode cX10_ballot 8 = .ok (.iconst (-1), 1) := by decide +kernel
theorem dX10_ballot_9 : decode cX10_ballot 9 = .ok (.if_icmp .eq 10, 3) := by decide +kernel
theorem dX10_ballot_12 : decode cX10_ballot 12 = .ok (.iload_n 2, 1) := by decide +kernel
theorem dX10_ballot_13 : decode cX10_ballot 13 = .ok (.invokestatic 40, 3) := by decide +kernel
theorem dX10_ballot_16 : decode cX10_ballot 16 = .ok (.ifCond .eq 24, 3) := by decide +kernel
theorem dX10_ballot_19 : decode cX10_ballot 19 = .ok (.iload_n 3, 1) := by decide +kernel
theorem dX10_ballot_20 : decode cX10_ballot 20 = .ok (.iconst (-1), 1) := by decide +kernel
theorem dX10_ballot_21 : decode cX10_ballot 21 = .ok (.if_icmp .eq 15, 3) := by decide +kernel
theorem dX10_ballot_24 : decode cX10_ballot 24 = .ok (.iload_n 3, 1) := by decide +kernel
theorem dX10_ballot_25 : decode cX10_ballot 25 = .ok (.invokestatic 40, 3) := by decide +kernel
theorem dX10_ballot_28 : decode cX10_ballot 28 = .ok (.ifCond .eq 12, 3) := by decide +kernel
theorem dX10_ballot_31 : decode cX10_ballot 31 = .ok (.iload_n 2, 1) := by decide +kernel
theorem dX10_ballot_32 : decode cX10_ballot 32 = .ok (.iconst (-1), 1) := by decide +kernel
theorem dX10_ballot_33 : decode cX10_ballot 33 = .ok (.if_icmp .eq 7, 3) := by decide +kernel
theorem dX10_ballot_36 : decode cX10_ballot 36 = .ok (.iconst 1, 1) := by decide +kernel
theorem dX10_ballot_37 : decode cX10_ballot 37 = .ok (.goto 4, 3) := by decide +kernel
theorem dX10_ballot_40 : decode cX10_ballot 40 = .ok (.iconst 0, 1) := by decide +kernel
theorem dX10_ballot_41 : decode cX10_ballot 41 = .ok (.istore 4, 2) := by decide +kernel
theorem dX10_ballot_43 : decode cX10_ballot 43 = .ok (.iload_n 1, 1) := by decide +kernel
theorem dX10_ballot_44 : decode cX10_ballot 44 = .ok (.iload_n 2, 1) := by decide +kernel
theorem dX10_ballot_45 : decode cX10_ballot 45 = .ok (.if_icmp .eq 22, 3) := by decide +kernel
theorem dX10_ballot_48 : decode cX10_ballot 48 = .ok (.iload_n 1, 1) := by decide +kernel
theorem dX10_ballot_49 : decode cX10_ballot 49 = .ok (.iload_n 3, 1) := by decide +kernel
theorem dX10_ballot_50 : decode cX10_ballot 50 = .ok (.if_icmp .eq 17, 3) := by decide +kernel
theorem dX10_ballot_53 : decode cX10_ballot 53 = .ok (.iload_n 2, 1) := by decide +kernel
theorem dX10_ballot_54 : decode cX10_ballot 54 = .ok (.iload_n 3, 1) := by decide +kernel
theorem dX10_ballot_55 : decode cX10_ballot 55 = .ok (.if_icmp .ne 8, 3) := by decide +kernel
theorem dX10_ballot_58 : decode cX10_ballot 58 = .ok (.iload_n 2, 1) := by decide +kernel
theorem dX10_ballot_59 : decode cX10_ballot 59 = .ok (.iconst (-1), 1) := by decide +kernel
theorem dX10_ballot_60 : decode cX10_ballot 60 = .ok (.if_icmp .ne 7, 3) := by decide +kernel
theorem dX10_ballot_63 : decode cX10_ballot 63 = .ok (.iconst 1, 1) := by decide +kernel
theorem dX10_ballot_64 : decode cX10_ballot 64 = .ok (.goto 4, 3) := by decide +kernel
theorem dX10_ballot_67 : decode cX10_ballot 67 = .ok (.iconst 0, 1) := by decide +kernel
theorem dX10_ballot_68 : decode cX10_ballot 68 = .ok (.istore 5, 2) := by decide +kernel
theorem dX10_ballot_70 : decode cX10_ballot 70 = .ok (.aload_n 0, 1) := by decide +kernel
theorem dX10_ballot_71 : decode cX10_ballot 71 = .ok (.iload 4, 2) := by decide +kernel
theorem dX10_ballot_73 : decode cX10_ballot 73 = .ok (.ifCond .eq 12, 3) := by decide +kernel
theorem dX10_ballot_76 : decode cX10_ballot 76 = .ok (.iload 5, 2) := by decide +kernel
theorem dX10_ballot_78 : decode cX10_ballot 78 = .ok (.ifCond .eq 7, 3) := by decide +kernel
theorem dX10_ballot_81 : decode cX10_ballot 81 = .ok (.iconst 1, 1) := by decide +kernel
theorem dX10_ballot_82 : decode cX10_ballot 82 = .ok (.goto 4, 3) := by decide +kernel
theorem dX10_ballot_85 : decode cX10_ballot 85 = .ok (.iconst 0, 1) := by decide +kernel
theorem dX10_ballot_86 : decode cX10_ballot 86 = .ok (.aload_n 0, 1) := by decide +kernel
theorem dX10_ballot_87 : decode cX10_ballot 87 = .ok (.getfield 7, 3) := by decide +kernel
theorem dX10_ballot_90 : decode cX10_ballot 90 = .ok (.bipush 11, 2) := by decide +kernel
theorem dX10_ballot_92 : decode cX10_ballot 92 = .ok (.iaload, 1) := by decide +kernel
theorem dX10_ballot_93 : decode cX10_ballot 93 = .ok (.bipush 20, 2) := by decide +kernel
theorem dX10_ballot_95 : decode cX10_ballot 95 = .ok (.if_icmp .ge 7, 3) := by decide +kernel
theorem dX10_ballot_98 : decode cX10_ballot 98 = .ok (.iconst 1, 1) := by decide +kernel
theorem dX10_ballot_99 : decode cX10_ballot 99 = .ok (.goto 4, 3) := by decide +kernel
theorem dX10_ballot_102 : decode cX10_ballot 102 = .ok (.iconst 0, 1) := by decide +kernel
theorem dX10_ballot_103 : decode cX10_ballot 103 = .ok (.iconst 1, 1) := by decide +kernel
theorem dX10_ballot_104 : decode cX10_ballot 104 = .ok (.invokevirtual 64, 3) := by decide +kernel
theorem dX10_ballot_107 : decode cX10_ballot 107 = .ok (.ifCond .eq 5, 3) := by decide +kernel
theorem dX10_ballot_110 : decode cX10_ballot 110 = .ok (.iconst 0, 1) := by decide +kernel
theorem dX10_ballot_111 : decode cX10_ballot 111 = .ok (.ireturn, 1) := by decide +kernel
theorem dX10_ballot_112 : decode cX10_ballot 112 = .ok (.aload_n 0, 1) := by decide +kernel
theorem dX10_ballot_113 : decode cX10_ballot 113 = .ok (.invokevirtual 68, 3) := by decide +kernel
theorem dX10_ballot_116 : decode cX10_ballot 116 = .ok (.sipush 155, 3) := by decide +kernel
theorem dX10_ballot_119 : decode cX10_ballot 119 = .ok (.iconst 3, 1) := by decide +kernel
theorem dX10_ballot_120 : decode cX10_ballot 120 = .ok (.aload_n 0, 1) := by decide +kernel
theorem dX10_ballot_121 : decode cX10_ballot 121 = .ok (.getfield 7, 3) := by decide +kernel
theorem dX10_ballot_124 : decode cX10_ballot 124 = .ok (.bipush 11, 2) := by decide +kernel
theorem dX10_ballot_126 : decode cX10_ballot 126 = .ok (.iaload, 1) := by decide +kernel
theorem dX10_ballot_127 : decode cX10_ballot 127 = .ok (.imul, 1) := by decide +kernel
theorem dX10_ballot_128 : decode cX10_ballot 128 = .ok (.iadd, 1) := by decide +kernel
theorem dX10_ballot_129 : decode cX10_ballot 129 = .ok (.istore 6, 2) := by decide +kernel
theorem dX10_ballot_131 : decode cX10_ballot 131 = .ok (.aload_n 0, 1) := by decide +kernel
theorem dX10_ballot_132 : decode cX10_ballot 132 = .ok (.getfield 7, 3) := by decide +kernel
theorem dX10_ballot_135 : decode cX10_ballot 135 = .ok (.iload 6, 2) := by decide +kernel
theorem dX10_ballot_137 : decode cX10_ballot 137 = .ok (.iload_n 1, 1) := by decide +kernel
theorem dX10_ballot_138 : decode cX10_ballot 138 = .ok (.iastore, 1) := by decide +kernel
theorem dX10_ballot_139 : decode cX10_ballot 139 = .ok (.aload_n 0, 1) := by decide +kernel
theorem dX10_ballot_140 : decode cX10_ballot 140 = .ok (.getfield 7, 3) := by decide +kernel
theorem dX10_ballot_143 : decode cX10_ballot 143 = .ok (.iload 6, 2) := by decide +kernel
theorem dX10_ballot_145 : decode cX10_ballot 145 = .ok (.iconst 1, 1) := by decide +kernel
theorem dX10_ballot_146 : decode cX10_ballot 146 = .ok (.iadd, 1) := by decide +kernel
theorem dX10_ballot_147 : decode cX10_ballot 147 = .ok (.iload_n 2, 1) := by decide +kernel
theorem dX10_ballot_148 : decode cX10_ballot 148 = .ok (.iastore, 1) := by decide +kernel
theorem dX10_ballot_149 : decode cX10_ballot 149 = .ok (.aload_n 0, 1) := by decide +kernel
theorem dX10_ballot_150 : decode cX10_ballot 150 = .ok (.getfield 7, 3) := by decide +kernel
theorem dX10_ballot_153 : decode cX10_ballot 153 = .ok (.iload 6, 2) := by decide +kernel
theorem dX10_ballot_155 : decode cX10_ballot 155 = .ok (.iconst 2, 1) := by decide +kernel
theorem dX10_ballot_156 : decode cX10_ballot 156 = .ok (.iadd, 1) := by decide +kernel
theorem dX10_ballot_157 : decode cX10_ballot 157 = .ok (.iload_n 3, 1) := by decide +kernel
theorem dX10_ballot_158 : decode cX10_ballot 158 = .ok (.iastore, 1) := by decide +kernel
theorem dX10_ballot_159 : decode cX10_ballot 159 = .ok (.aload_n 0, 1) := by decide +kernel
theorem dX10_ballot_160 : decode cX10_ballot 160 = .ok (.getfield 7, 3) := by decide +kernel
theorem dX10_ballot_163 : decode cX10_ballot 163 = .ok (.bipush 11, 2) := by decide +kernel
theorem dX10_ballot_165 : decode cX10_ballot 165 = .ok (.dup2, 1) := by decide +kernel
theorem dX10_ballot_166 : decode cX10_ballot 166 = .ok (.iaload, 1) := by decide +kernel
theorem dX10_ballot_167 : decode cX10_ballot 167 = .ok (.iconst 1, 1) := by decide +kernel
theorem dX10_ballot_168 : decode cX10_ballot 168 = .ok (.iadd, 1) := by decide +kernel
theorem dX10_ballot_169 : decode cX10_ballot 169 = .ok (.iastore, 1) := by decide +kernel
theorem dX10_ballot_170 : decode cX10_ballot 170 = .ok (.aload_n 0, 1) := by decide +kernel
theorem dX10_ballot_171 : decode cX10_ballot 171 = .ok (.getfield 7, 3) := by decide +kernel
theorem dX10_ballot_174 : decode cX10_ballot 174 = .ok (.bipush 11, 2) := by decide +kernel
theorem dX10_ballot_176 : decode cX10_ballot 176 = .ok (.iaload, 1) := by decide +kernel
theorem dX10_ballot_177 : decode cX10_ballot 177 = .ok (.ireturn, 1) := by decide +kernel
theorem dX10_clearBallots_0 : decode cX10_clearBallots 0 = .ok (.aload_n 0, 1) := by decide +kernel
theorem dX10_clearBallots_1 : decode cX10_clearBallots 1 = .ok (.iconst 0, 1) := by decide +kernel
theorem dX10_clearBallots_2 : decode cX10_clearBallots 2 = .ok (.putfield 29, 3) := by decide +kernel
theorem dX10_clearBallots_5 : decode cX10_clearBallots 5 = .ok (.aload_n 0, 1) := by decide +kernel
theorem dX10_clearBallots_6 : decode cX10_clearBallots 6 = .ok (.invokevirtual 68, 3) := by decide +kernel
theorem dX10_clearBallots_9 : decode cX10_clearBallots 9 = .ok (.aload_n 0, 1) := by decide +kernel
theorem dX10_clearBallots_10 : decode cX10_clearBallots 10 = .ok (.getfield 7, 3) := by decide +kernel
theorem dX10_clearBallots_13 : decode cX10_clearBallots 13 = .ok (.bipush 11, 2) := by decide +kernel
theorem dX10_clearBallots_15 : decode cX10_clearBallots 15 = .ok (.iaload, 1) := by decide +kernel
theorem dX10_clearBallots_16 : decode cX10_clearBallots 16 = .ok (.istore_n 1, 1) := by decide +kernel
theorem dX10_clearBallots_17 : decode cX10_clearBallots 17 = .ok (.aload_n 0, 1) := by decide +kernel
theorem dX10_clearBallots_18 : decode cX10_clearBallots 18 = .ok (.getfield 7, 3) := by decide +kernel
theorem dX10_clearBallots_21 : decode cX10_clearBallots 21 = .ok (.bipush 11, 2) := by decide +kernel
theorem dX10_clearBallots_23 : decode cX10_clearBallots 23 = .ok (.iconst 0, 1) := by decide +kernel
theorem dX10_clearBallots_24 : decode cX10_clearBallots 24 = .ok (.iastore, 1) := by decide +kernel
theorem dX10_clearBallots_25 : decode cX10_clearBallots 25 = .ok (.iload_n 1, 1) := by decide +kernel
theorem dX10_clearBallots_26 : decode cX10_clearBallots 26 = .ok (.ireturn, 1) := by decide +kernel
theorem dX10_blockValue_0 : decode cX10_blockValue 0 = .ok (.iload_n 2, 1) := by decide +kernel
theorem dX10_blockValue_1 : decode cX10_blockValue 1 = .ok (.aload_n 0, 1) := by decide +kernel
theorem dX10_blockValue_2 : decode cX10_blockValue 2 = .ok (.getfield 7, 3) := by decide +kernel
theorem dX10_blockValue_5 : decode cX10_blockValue 5 = .ok (.bipush 12, 2) := by decide +kernel
theorem dX10_blockValue_7 : decode cX10_blockValue 7 = .ok (.iload_n 1, 1) := by decide +kernel
theorem dX10_blockValue_8 : decode cX10_blockValue 8 = .ok (.iadd, 1) := by decide +kernel
theorem dX10_blockValue_9 : decode cX10_blockValue 9 = .ok (.iaload, 1) := by decide +kernel
theorem dX10_blockValue_10 : decode cX10_blockValue 10 = .ok (.if_icmp .lt 5, 3) := by decide +kernel
theorem dX10_blockValue_13 : decode cX10_blockValue 13 = .ok (.iconst (-1), 1) := by decide +kernel
theorem dX10_blockValue_14 : decode cX10_blockValue 14 = .ok (.ireturn, 1) := by decide +kernel
theorem dX10_blockValue_15 : decode cX10_blockValue 15 = .ok (.bipush 6, 2) := by decide +kernel
theorem dX10_blockValue_17 : decode cX10_blockValue 17 = .ok (.iload_n 1, 1) := by decide +kernel
theorem dX10_blockValue_18 : decode cX10_blockValue 18 = .ok (.imul, 1) := by decide +kernel
theorem dX10_blockValue_19 : decode cX10_blockValue 19 = .ok (.iload_n 2, 1) := by decide +kernel
theorem dX10_blockValue_20 : decode cX10_blockValue 20 = .ok (.iadd, 1) := by decide +kernel
theorem dX10_blockValue_21 : decode cX10_blockValue 21 = .ok (.istore 4, 2) := by decide +kernel
theorem dX10_blockValue_23 : decode cX10_blockValue 23 = .ok (.iload_n 3, 1) := by decide +kernel
theorem dX10_blockValue_24 : decode cX10_blockValue 24 = .ok (.ifCond .ne 16, 3) := by decide +kernel
theorem dX10_blockValue_27 : decode cX10_blockValue 27 = .ok (.aload_n 0, 1) := by decide +kernel
theorem dX10_blockValue_28 : decode cX10_blockValue 28 = .ok (.getfield 7, 3) := by decide +kernel
theorem dX10_blockValue_31 : decode cX10_blockValue 31 = .ok (.bipush 44, 2) := by decide +kernel
theorem dX10_blockValue_33 : decode cX10_blockValue 33 = .ok (.iload 4, 2) := by decide +kernel
theorem dX10_blockValue_35 : decode cX10_blockValue 35 = .ok (.iadd, 1) := by decide +kernel
theorem dX10_blockValue_36 : decode cX10_blockValue 36 = .ok (.iaload, 1) := by decide +kernel
theorem dX10_blockValue_37 : decode cX10_blockValue 37 = .ok (.goto 27, 3) := by decide +kernel
theorem dX10_blockValue_40 : decode cX10_blockValue 40 = .ok (.iload_n 3, 1) := by decide +kernel
theorem dX10_blockValue_41 : decode cX10_blockValue 41 = .ok (.iconst 1, 1) := by decide +kernel
theorem dX10_blockValue_42 : decode cX10_blockValue 42 = .ok (.if_icmp .ne 16, 3) := by decide +kernel
theorem dX10_blockValue_45 : decode cX10_blockValue 45 = .ok (.aload_n 0, 1) := by decide +kernel
theorem dX10_blockValue_46 : decode cX10_blockValue 46 = .ok (.getfield 7, 3) := by decide +kernel
theorem dX10_blockValue_49 : decode cX10_blockValue 49 = .ok (.bipush 92, 2) := by decide +kernel
theorem dX10_blockValue_51 : decode cX10_blockValue 51 = .ok (.iload 4, 2) := by decide +kernel
theorem dX10_blockValue_53 : decode cX10_blockValue 53 = .ok (.iadd, 1) := by decide +kernel
theorem dX10_blockValue_54 : decode cX10_blockValue 54 = .ok (.iaload, 1) := by decide +kernel
theorem dX10_blockValue_55 : decode cX10_blockValue 55 = .ok (.goto 9, 3) := by decide +kernel
theorem dX10_blockValue_58 : decode cX10_blockValue 58 = .ok (.aload_n 0, 1) := by decide +kernel
theorem dX10_blockValue_59 : decode cX10_blockValue 59 = .ok (.iload_n 1, 1) := by decide +kernel
theorem dX10_blockValue_60 : decode cX10_blockValue 60 = .ok (.iload_n 2, 1) := by decide +kernel
theorem dX10_blockValue_61 : decode cX10_blockValue 61 = .ok (.invokevirtual 52, 3) := by decide +kernel
theorem dX10_blockValue_64 : decode cX10_blockValue 64 = .ok (.ireturn, 1) := by decide +kernel
theorem dX10_block_0 : decode cX10_block 0 = .ok (.aload_n 0, 1) := by decide +kernel
theorem dX10_block_1 : decode cX10_block 1 = .ok (.iload_n 1, 1) := by decide +kernel
theorem dX10_block_2 : decode cX10_block 2 = .ok (.invokestatic 40, 3) := by decide +kernel
theorem dX10_block_5 : decode cX10_block 5 = .ok (.iload_n 2, 1) := by decide +kernel
theorem dX10_block_6 : decode cX10_block 6 = .ok (.invokestatic 102, 3) := by decide +kernel
theorem dX10_block_9 : decode cX10_block 9 = .ok (.ifCond .eq 16, 3) := by decide +kernel
theorem dX10_block_12 : decode cX10_block 12 = .ok (.iload_n 3, 1) := by decide +kernel
theorem dX10_block_13 : decode cX10_block 13 = .ok (.iconst 0, 1) := by decide +kernel
theorem dX10_block_14 : decode cX10_block 14 = .ok (.iconst 2, 1) := by decide +kernel
theorem dX10_block_15 : decode cX10_block 15 = .ok (.invokestatic 36, 3) := by decide +kernel
theorem dX10_block_18 : decode cX10_block 18 = .ok (.ifCond .eq 7, 3) := by decide +kernel
theorem dX10_block_21 : decode cX10_block 21 = .ok (.iconst 1, 1) := by decide +kernel
theorem dX10_block_22 : decode cX10_block 22 = .ok (.goto 4, 3) := by decide +kernel
theorem dX10_block_25 : decode cX10_block 25 = .ok (.iconst 0, 1) := by decide +kernel
theorem dX10_block_26 : decode cX10_block 26 = .ok (.iconst 1, 1) := by decide +kernel
theorem dX10_block_27 : decode cX10_block 27 = .ok (.invokevirtual 64, 3) := by decide +kernel
theorem dX10_block_30 : decode cX10_block 30 = .ok (.ifCond .eq 7, 3) := by decide +kernel
theorem dX10_block_33 : decode cX10_block 33 = .ok (.iconst 0, 1) := by decide +kernel
theorem dX10_block_34 : decode cX10_block 34 = .ok (.goto 10, 3) := by decide +kernel
theorem dX10_block_37 : decode cX10_block 37 = .ok (.aload_n 0, 1) := by decide +kernel
theorem dX10_block_38 : decode cX10_block 38 = .ok (.iload_n 1, 1) := by decide +kernel
theorem dX10_block_39 : decode cX10_block 39 = .ok (.iload_n 2, 1) := by decide +kernel
theorem dX10_block_40 : decode cX10_block 40 = .ok (.iload_n 3, 1) := by decide +kernel
theorem dX10_block_41 : decode cX10_block 41 = .ok (.invokevirtual 119, 3) := by decide +kernel
theorem dX10_block_44 : decode cX10_block 44 = .ok (.ireturn, 1) := by decide +kernel
theorem dX10_siteValue_0 : decode cX10_siteValue 0 = .ok (.iload_n 2, 1) := by decide +kernel
theorem dX10_siteValue_1 : decode cX10_siteValue 1 = .ok (.tableswitch 67 0 3 #[31, 41, 47, 57], 31) := by decide +kernel
theorem dX10_siteValue_32 : decode cX10_siteValue 32 = .ok (.aload_n 0, 1) := by decide +kernel
theorem dX10_siteValue_33 : decode cX10_siteValue 33 = .ok (.getfield 7, 3) := by decide +kernel
theorem dX10_siteValue_36 : decode cX10_siteValue 36 = .ok (.bipush 12, 2) := by decide +kernel
theorem dX10_siteValue_38 : decode cX10_siteValue 38 = .ok (.iload_n 1, 1) := by decide +kernel
theorem dX10_siteValue_39 : decode cX10_siteValue 39 = .ok (.iadd, 1) := by decide +kernel
theorem dX10_siteValue_40 : decode cX10_siteValue 40 = .ok (.iaload, 1) := by decide +kernel
theorem dX10_siteValue_41 : decode cX10_siteValue 41 = .ok (.ireturn, 1) := by decide +kernel
theorem dX10_siteValue_42 : decode cX10_siteValue 42 = .ok (.aload_n 0, 1) := by decide +kernel
theorem dX10_siteValue_43 : decode cX10_siteValue 43 = .ok (.iload_n 1, 1) := by decide +kernel
theorem dX10_siteValue_44 : decode cX10_siteValue 44 = .ok (.invokevirtual 123, 3) := by decide +kernel
theorem dX10_siteValue_47 : decode cX10_siteValue 47 = .ok (.ireturn, 1) := by decide +kernel
theorem dX10_siteValue_48 : decode cX10_siteValue 48 = .ok (.aload_n 0, 1) := by decide +kernel
theorem dX10_siteValue_49 : decode cX10_siteValue 49 = .ok (.getfield 7, 3) := by decide +kernel
theorem dX10_siteValue_52 : decode cX10_siteValue 52 = .ok (.bipush 20, 2) := by decide +kernel
theorem dX10_siteValue_54 : decode cX10_siteValue 54 = .ok (.iload_n 1, 1) := by decide +kernel
theorem dX10_siteValue_55 : decode cX10_siteValue 55 = .ok (.iadd, 1) := by decide +kernel
theorem dX10_siteValue_56 : decode cX10_siteValue 56 = .ok (.iaload, 1) := by decide +kernel
theorem dX10_siteValue_57 : decode cX10_siteValue 57 = .ok (.ireturn, 1) := by decide +kernel
theorem dX10_siteValue_58 : decode cX10_siteValue 58 = .ok (.aload_n 0, 1) := by decide +kernel
theorem dX10_siteValue_59 : decode cX10_siteValue 59 = .ok (.getfield 7, 3) := by decide +kernel
theorem dX10_siteValue_62 : decode cX10_siteValue 62 = .ok (.bipush 28, 2) := by decide +kernel
theorem dX10_siteValue_64 : decode cX10_siteValue 64 = .ok (.iload_n 1, 1) := by decide +kernel
theorem dX10_siteValue_65 : decode cX10_siteValue 65 = .ok (.iadd, 1) := by decide +kernel
theorem dX10_siteValue_66 : decode cX10_siteValue 66 = .ok (.iaload, 1) := by decide +kernel
theorem dX10_siteValue_67 : decode cX10_siteValue 67 = .ok (.ireturn, 1) := by decide +kernel
theorem dX10_siteValue_68 : decode cX10_siteValue 68 = .ok (.aload_n 0, 1) := by decide +kernel
theorem dX10_siteValue_69 : decode cX10_siteValue 69 = .ok (.getfield 7, 3) := by decide +kernel
theorem dX10_siteValue_72 : decode cX10_siteValue 72 = .ok (.bipush 36, 2) := by decide +kernel
theorem dX10_siteValue_74 : decode cX10_siteValue 74 = .ok (.iload_n 1, 1) := by decide +kernel
theorem dX10_siteValue_75 : decode cX10_siteValue 75 = .ok (.iadd, 1) := by decide +kernel
theorem dX10_siteValue_76 : decode cX10_siteValue 76 = .ok (.iaload, 1) := by decide +kernel
theorem dX10_siteValue_77 : decode cX10_siteValue 77 = .ok (.ireturn, 1) := by decide +kernel
theorem dX10_site_0 : decode cX10_site 0 = .ok (.aload_n 0, 1) := by decide +kernel
theorem dX10_site_1 : decode cX10_site 1 = .ok (.iload_n 1, 1) := by decide +kernel
theorem dX10_site_2 : decode cX10_site 2 = .ok (.invokestatic 40, 3) := by decide +kernel
theorem dX10_site_5 : decode cX10_site 5 = .ok (.iload_n 2, 1) := by decide +kernel
theorem dX10_site_6 : decode cX10_site 6 = .ok (.iconst 0, 1) := by decide +kernel
theorem dX10_site_7 : decode cX10_site 7 = .ok (.iconst 4, 1) := by decide +kernel
theorem dX10_site_8 : decode cX10_site 8 = .ok (.invokestatic 36, 3) := by decide +kernel
theorem dX10_site_11 : decode cX10_site 11 = .ok (.iconst 1, 1) := by decide +kernel
theorem dX10_site_12 : decode cX10_site 12 = .ok (.invokevirtual 64, 3) := by decide +kernel
theorem dX10_site_15 : decode cX10_site 15 = .ok (.ifCond .eq 7, 3) := by decide +kernel
theorem dX10_site_18 : decode cX10_site 18 = .ok (.iconst 0, 1) := by decide +kernel
theorem dX10_site_19 : decode cX10_site 19 = .ok (.goto 9, 3) := by decide +kernel
theorem dX10_site_22 : decode cX10_site 22 = .ok (.aload_n 0, 1) := by decide +kernel
theorem dX10_site_23 : decode cX10_site 23 = .ok (.iload_n 1, 1) := by decide +kernel
theorem dX10_site_24 : decode cX10_site 24 = .ok (.iload_n 2, 1) := by decide +kernel
theorem dX10_site_25 : decode cX10_site 25 = .ok (.invokevirtual 126, 3) := by decide +kernel
theorem dX10_site_28 : decode cX10_site 28 = .ok (.ireturn, 1) := by decide +kernel
theorem dX10_toolValue_0 : decode cX10_toolValue 0 = .ok (.iload_n 2, 1) := by decide +kernel
theorem dX10_toolValue_1 : decode cX10_toolValue 1 = .ok (.ifCond .ne 16, 3) := by decide +kernel
theorem dX10_toolValue_4 : decode cX10_toolValue 4 = .ok (.aload_n 0, 1) := by decide +kernel
theorem dX10_toolValue_5 : decode cX10_toolValue 5 = .ok (.getfield 7, 3) := by decide +kernel
theorem dX10_toolValue_8 : decode cX10_toolValue 8 = .ok (.sipush 140, 3) := by decide +kernel
theorem dX10_toolValue_11 : decode cX10_toolValue 11 = .ok (.iload_n 1, 1) := by decide +kernel
theorem dX10_toolValue_12 : decode cX10_toolValue 12 = .ok (.iadd, 1) := by decide +kernel
theorem dX10_toolValue_13 : decode cX10_toolValue 13 = .ok (.iaload, 1) := by decide +kernel
theorem dX10_toolValue_14 : decode cX10_toolValue 14 = .ok (.goto 31, 3) := by decide +kernel
theorem dX10_toolValue_17 : decode cX10_toolValue 17 = .ok (.iload_n 2, 1) := by decide +kernel
theorem dX10_toolValue_18 : decode cX10_toolValue 18 = .ok (.iconst 1, 1) := by decide +kernel
theorem dX10_toolValue_19 : decode cX10_toolValue 19 = .ok (.if_icmp .ne 16, 3) := by decide +kernel
theorem dX10_toolValue_22 : decode cX10_toolValue 22 = .ok (.aload_n 0, 1) := by decide +kernel
theorem dX10_toolValue_23 : decode cX10_toolValue 23 = .ok (.getfield 7, 3) := by decide +kernel
theorem dX10_toolValue_26 : decode cX10_toolValue 26 = .ok (.sipush 145, 3) := by decide +kernel
theorem dX10_toolValue_29 : decode cX10_toolValue 29 = .ok (.iload_n 1, 1) := by decide +kernel
theorem dX10_toolValue_30 : decode cX10_toolValue 30 = .ok (.iadd, 1) := by decide +kernel
theorem dX10_toolValue_31 : decode cX10_toolValue 31 = .ok (.iaload, 1) := by decide +kernel
theorem dX10_toolValue_32 : decode cX10_toolValue 32 = .ok (.goto 13, 3) := by decide +kernel
theorem dX10_toolValue_35 : decode cX10_toolValue 35 = .ok (.aload_n 0, 1) := by decide +kernel
theorem dX10_toolValue_36 : decode cX10_toolValue 36 = .ok (.getfield 7, 3) := by decide +kernel
theorem dX10_toolValue_39 : decode cX10_toolValue 39 = .ok (.sipush 150, 3) := by decide +kernel
theorem dX10_toolValue_42 : decode cX10_toolValue 42 = .ok (.iload_n 1, 1) := by decide +kernel
theorem dX10_toolValue_43 : decode cX10_toolValue 43 = .ok (.iadd, 1) := by decide +kernel
theorem dX10_toolValue_44 : decode cX10_toolValue 44 = .ok (.iaload, 1) := by decide +kernel
theorem dX10_toolValue_45 : decode cX10_toolValue 45 = .ok (.ireturn, 1) := by decide +kernel
theorem dX10_tool_0 : decode cX10_tool 0 = .ok (.aload_n 0, 1) := by decide +kernel
theorem dX10_tool_1 : decode cX10_tool 1 = .ok (.aload_n 0, 1) := by decide +kernel
theorem dX10_tool_2 : decode cX10_tool 2 = .ok (.iload_n 1, 1) := by decide +kernel
theorem dX10_tool_3 : decode cX10_tool 3 = .ok (.invokevirtual 99, 3) := by decide +kernel
theorem dX10_tool_6 : decode cX10_tool 6 = .ok (.iload_n 2, 1) := by decide +kernel
theorem dX10_tool_7 : decode cX10_tool 7 = .ok (.iconst 0, 1) := by decide +kernel
theorem dX10_tool_8 : decode cX10_tool 8 = .ok (.iconst 2, 1) := by decide +kernel
theorem dX10_tool_9 : decode cX10_tool 9 = .ok (.invokestatic 36, 3) := by decide +kernel
theorem dX10_tool_12 : decode cX10_tool 12 = .ok (.iconst 1, 1) := by decide +kernel
theorem dX10_tool_13 : decode cX10_tool 13 = .ok (.invokevirtual 64, 3) := by decide +kernel
theorem dX10_tool_16 : decode cX10_tool 16 = .ok (.ifCond .eq 7, 3) := by decide +kernel
theorem dX10_tool_19 : decode cX10_tool 19 = .ok (.iconst 0, 1) := by decide +kernel
theorem dX10_tool_20 : decode cX10_tool 20 = .ok (.goto 9, 3) := by decide +kernel
theorem dX10_tool_23 : decode cX10_tool 23 = .ok (.aload_n 0, 1) := by decide +kernel
theorem dX10_tool_24 : decode cX10_tool 24 = .ok (.iload_n 1, 1) := by decide +kernel
theorem dX10_tool_25 : decode cX10_tool 25 = .ok (.iload_n 2, 1) := by decide +kernel
theorem dX10_tool_26 : decode cX10_tool 26 = .ok (.invokevirtual 129, 3) := by decide +kernel
theorem dX10_tool_29 : decode cX10_tool 29 = .ok (.ireturn, 1) := by decide +kernel
theorem dX10_wholeValue_0 : decode cX10_wholeValue 0 = .ok (.iconst 0, 1) := by decide +kernel
theorem dX10_wholeValue_1 : decode cX10_wholeValue 1 = .ok (.istore_n 2, 1) := by decide +kernel
theorem dX10_wholeValue_2 : decode cX10_wholeValue 2 = .ok (.iconst 0, 1) := by decide +kernel
theorem dX10_wholeValue_3 : decode cX10_wholeValue 3 = .ok (.istore_n 3, 1) := by decide +kernel
theorem dX10_wholeValue_4 : decode cX10_wholeValue 4 = .ok (.iconst 0, 1) := by decide +kernel
theorem dX10_wholeValue_5 : decode cX10_wholeValue 5 = .ok (.istore 4, 2) := by decide +kernel
theorem dX10_wholeValue_7 : decode cX10_wholeValue 7 = .ok (.iload 4, 2) := by decide +kernel
theorem dX10_wholeValue_9 : decode cX10_wholeValue 9 = .ok (.bipush 8, 2) := by decide +kernel
theorem dX10_wholeValue_11 : decode cX10_wholeValue 11 = .ok (.if_icmp .ge 39, 3) := by decide +kernel
theorem dX10_wholeValue_14 : decode cX10_wholeValue 14 = .ok (.iload_n 2, 1) := by decide +kernel
theorem dX10_wholeValue_15 : decode cX10_wholeValue 15 = .ok (.aload_n 0, 1) := by decide +kernel
theorem dX10_wholeValue_16 : decode cX10_wholeValue 16 = .ok (.getfield 7, 3) := by decide +kernel
theorem dX10_wholeValue_19 : decode cX10_wholeValue 19 = .ok (.bipush 12, 2) := by decide +kernel
theorem dX10_wholeValue_21 : decode cX10_wholeValue 21 = .ok (.iload 4, 2) := by decide +kernel
theorem dX10_wholeValue_23 : decode cX10_wholeValue 23 = .ok (.iadd, 1) := by decide +kernel
theorem dX10_wholeValue_24 : decode cX10_wholeValue 24 = .ok (.iaload, 1) := by decide +kernel
theorem dX10_wholeValue_25 : decode cX10_wholeValue 25 = .ok (.ifCond .le 7, 3) := by decide +kernel
theorem dX10_wholeValue_28 : decode cX10_wholeValue 28 = .ok (.iconst 1, 1) := by decide +kernel
theorem dX10_wholeValue_29 : decode cX10_wholeValue 29 = .ok (.goto 4, 3) := by decide +kernel
theorem dX10_wholeValue_32 : decode cX10_wholeValue 32 = .ok (.iconst 0, 1) := by decide +kernel
theorem dX10_wholeValue_33 : decode cX10_wholeValue 33 = .ok (.iadd, 1) := by decide +kernel
theorem dX10_wholeValue_34 : decode cX10_wholeValue 34 = .ok (.istore_n 2, 1) := by decide +kernel
theorem dX10_wholeValue_35 : decode cX10_wholeValue 35 = .ok (.iload_n 3, 1) := by decide +kernel
theorem dX10_wholeValue_36 : decode cX10_wholeValue 36 = .ok (.aload_n 0, 1) := by decide +kernel
theorem dX10_wholeValue_37 : decode cX10_wholeValue 37 = .ok (.iload 4, 2) := by decide +kernel
theorem dX10_wholeValue_39 : decode cX10_wholeValue 39 = .ok (.invokevirtual 123, 3) := by decide +kernel
theorem dX10_wholeValue_42 : decode cX10_wholeValue 42 = .ok (.iadd, 1) := by decide +kernel
theorem dX10_wholeValue_43 : decode cX10_wholeValue 43 = .ok (.istore_n 3, 1) := by decide +kernel
theorem dX10_wholeValue_44 : decode cX10_wholeValue 44 = .ok (.iinc 4 1, 3) := by decide +kernel
theorem dX10_wholeValue_47 : decode cX10_wholeValue 47 = .ok (.goto (-40), 3) := by decide +kernel
theorem dX10_wholeValue_50 : decode cX10_wholeValue 50 = .ok (.iload_n 1, 1) := by decide +kernel
theorem dX10_wholeValue_51 : decode cX10_wholeValue 51 = .ok (.tableswitch 144 0 14 #[73, 73, 73, 73, 73, 80, 82, 84, 91, 99, 107, 115, 120, 128, 136], 73) := by decide +kernel
theorem dX10_wholeValue_124 : decode cX10_wholeValue 124 = .ok (.aload_n 0, 1) := by decide +kernel
theorem dX10_wholeValue_125 : decode cX10_wholeValue 125 = .ok (.getfield 7, 3) := by decide +kernel
theorem dX10_wholeValue_128 : decode cX10_wholeValue 128 = .ok (.iload_n 1, 1) := by decide +kernel
theorem dX10_wholeValue_129 : decode cX10_wholeValue 129 = .ok (.iaload, 1) := by decide +kernel
theorem dX10_wholeValue_130 : decode cX10_wholeValue 130 = .ok (.ireturn, 1) := by decide +kernel
theorem dX10_wholeValue_131 : decode cX10_wholeValue 131 = .ok (.iload_n 2, 1) := by decide +kernel
theorem dX10_wholeValue_132 : decode cX10_wholeValue 132 = .ok (.ireturn, 1) := by decide +kernel
theorem dX10_wholeValue_133 : decode cX10_wholeValue 133 = .ok (.iload_n 3, 1) := by decide +kernel
theorem dX10_wholeValue_134 : decode cX10_wholeValue 134 = .ok (.ireturn, 1) := by decide +kernel
theorem dX10_wholeValue_135 : decode cX10_wholeValue 135 = .ok (.aload_n 0, 1) := by decide +kernel
theorem dX10_wholeValue_136 : decode cX10_wholeValue 136 = .ok (.getfield 7, 3) := by decide +kernel
theorem dX10_wholeValue_139 : decode cX10_wholeValue 139 = .ok (.iconst 5, 1) := by decide +kernel
theorem dX10_wholeValue_140 : decode cX10_wholeValue 140 = .ok (.iaload, 1) := by decide +kernel
theorem dX10_wholeValue_141 : decode cX10_wholeValue 141 = .ok (.ireturn, 1) := by decide +kernel
theorem dX10_wholeValue_142 : decode cX10_wholeValue 142 = .ok (.aload_n 0, 1) := by decide +kernel
theorem dX10_wholeValue_143 : decode cX10_wholeValue 143 = .ok (.getfield 7, 3) := by decide +kernel
theorem dX10_wholeValue_146 : decode cX10_wholeValue 146 = .ok (.bipush 6, 2) := by decide +kernel
theorem dX10_wholeValue_148 : decode cX10_wholeValue 148 = .ok (.iaload, 1) := by decide +kernel
theorem dX10_wholeValue_149 : decode cX10_wholeValue 149 = .ok (.ireturn, 1) := by decide +kernel
theorem dX10_wholeValue_150 : decode cX10_wholeValue 150 = .ok (.aload_n 0, 1) := by decide +kernel
theorem dX10_wholeValue_151 : decode cX10_wholeValue 151 = .ok (.getfield 7, 3) := by decide +kernel
theorem dX10_wholeValue_154 : decode cX10_wholeValue 154 = .ok (.bipush 7, 2) := by decide +kernel
theorem dX10_wholeValue_156 : decode cX10_wholeValue 156 = .ok (.iaload, 1) := by decide +kernel
theorem dX10_wholeValue_157 : decode cX10_wholeValue 157 = .ok (.ireturn, 1) := by decide +kernel
theorem dX10_wholeValue_158 : decode cX10_wholeValue 158 = .ok (.aload_n 0, 1) := by decide +kernel
theorem dX10_wholeValue_159 : decode cX10_wholeValue 159 = .ok (.getfield 7, 3) := by decide +kernel
theorem dX10_wholeValue_162 : decode cX10_wholeValue 162 = .ok (.bipush 10, 2) := by decide +kernel
theorem dX10_wholeValue_164 : decode cX10_wholeValue 164 = .ok (.iaload, 1) := by decide +kernel
theorem dX10_wholeValue_165 : decode cX10_wholeValue 165 = .ok (.ireturn, 1) := by decide +kernel
theorem dX10_wholeValue_166 : decode cX10_wholeValue 166 = .ok (.aload_n 0, 1) := by decide +kernel
theorem dX10_wholeValue_167 : decode cX10_wholeValue 167 = .ok (.invokevirtual 85, 3) := by decide +kernel
theorem dX10_wholeValue_170 : decode cX10_wholeValue 170 = .ok (.ireturn, 1) := by decide +kernel
theorem dX10_wholeValue_171 : decode cX10_wholeValue 171 = .ok (.aload_n 0, 1) := by decide +kernel
theorem dX10_wholeValue_172 : decode cX10_wholeValue 172 = .ok (.getfield 7, 3) := by decide +kernel
theorem dX10_wholeValue_175 : decode cX10_wholeValue 175 = .ok (.bipush 8, 2) := by decide +kernel
theorem dX10_wholeValue_177 : decode cX10_wholeValue 177 = .ok (.iaload, 1) := by decide +kernel
theorem dX10_wholeValue_178 : decode cX10_wholeValue 178 = .ok (.ireturn, 1) := by decide +kernel
theorem dX10_wholeValue_179 : decode cX10_wholeValue 179 = .ok (.aload_n 0, 1) := by decide +kernel
theorem dX10_wholeValue_180 : decode cX10_wholeValue 180 = .ok (.getfield 7, 3) := by decide +kernel
theorem dX10_wholeValue_183 : decode cX10_wholeValue 183 = .ok (.bipush 9, 2) := by decide +kernel
theorem dX10_wholeValue_185 : decode cX10_wholeValue 185 = .ok (.iaload, 1) := by decide +kernel
theorem dX10_wholeValue_186 : decode cX10_wholeValue 186 = .ok (.ireturn, 1) := by decide +kernel
theorem dX10_wholeValue_187 : decode cX10_wholeValue 187 = .ok (.aload_n 0, 1) := by decide +kernel
theorem dX10_wholeValue_188 : decode cX10_wholeValue 188 = .ok (.getfield 7, 3) := by decide +kernel
theorem dX10_wholeValue_191 : decode cX10_wholeValue 191 = .ok (.bipush 11, 2) := by decide +kernel
theorem dX10_wholeValue_193 : decode cX10_wholeValue 193 = .ok (.iaload, 1) := by decide +kernel
theorem dX10_wholeValue_194 : decode cX10_wholeValue 194 = .ok (.ireturn, 1) := by decide +kernel
theorem dX10_wholeValue_195 : decode cX10_wholeValue 195 = .ok (.aload_n 0, 1) := by decide +kernel
theorem dX10_wholeValue_196 : decode cX10_wholeValue 196 = .ok (.getfield 132, 3) := by decide +kernel
theorem dX10_wholeValue_199 : decode cX10_wholeValue 199 = .ok (.ireturn, 1) := by decide +kernel
theorem dX10_whole_0 : decode cX10_whole 0 = .ok (.aload_n 0, 1) := by decide +kernel
theorem dX10_whole_1 : decode cX10_whole 1 = .ok (.iload_n 1, 1) := by decide +kernel
theorem dX10_whole_2 : decode cX10_whole 2 = .ok (.iconst 0, 1) := by decide +kernel
theorem dX10_whole_3 : decode cX10_whole 3 = .ok (.bipush 15, 2) := by decide +kernel
theorem dX10_whole_5 : decode cX10_whole 5 = .ok (.invokestatic 36, 3) := by decide +kernel
theorem dX10_whole_8 : decode cX10_whole 8 = .ok (.iconst 1, 1) := by decide +kernel
theorem dX10_whole_9 : decode cX10_whole 9 = .ok (.iconst 1, 1) := by decide +kernel
theorem dX10_whole_10 : decode cX10_whole 10 = .ok (.invokevirtual 64, 3) := by decide +kernel
theorem dX10_whole_13 : decode cX10_whole 13 = .ok (.ifCond .eq 7, 3) := by decide +kernel
theorem dX10_whole_16 : decode cX10_whole 16 = .ok (.iconst 0, 1) := by decide +kernel
theorem dX10_whole_17 : decode cX10_whole 17 = .ok (.goto 8, 3) := by decide +kernel
theorem dX10_whole_20 : decode cX10_whole 20 = .ok (.aload_n 0, 1) := by decide +kernel
theorem dX10_whole_21 : decode cX10_whole 21 = .ok (.iload_n 1, 1) := by decide +kernel
theorem dX10_whole_22 : decode cX10_whole 22 = .ok (.invokevirtual 135, 3) := by decide +kernel
theorem dX10_whole_25 : decode cX10_whole 25 = .ok (.ireturn, 1) := by decide +kernel
theorem dX10_countRound_0 : decode cX10_countRound 0 = .ok (.iconst 0, 1) := by decide +kernel
theorem dX10_countRound_1 : decode cX10_countRound 1 = .ok (.istore_n 3, 1) := by decide +kernel
theorem dX10_countRound_2 : decode cX10_countRound 2 = .ok (.iload_n 3, 1) := by decide +kernel
theorem dX10_countRound_3 : decode cX10_countRound 3 = .ok (.bipush 8, 2) := by decide +kernel
theorem dX10_countRound_5 : decode cX10_countRound 5 = .ok (.if_icmp .ge 34, 3) := by decide +kernel
theorem dX10_countRound_8 : decode cX10_countRound 8 = .ok (.aload_n 0, 1) := by decide +kernel
theorem dX10_countRound_9 : decode cX10_countRound 9 = .ok (.getfield 19, 3) := by decide +kernel
theorem dX10_countRound_12 : decode cX10_countRound 12 = .ok (.bipush 8, 2) := by decide +kernel
theorem dX10_countRound_14 : decode cX10_countRound 14 = .ok (.iload_n 1, 1) := by decide +kernel
theorem dX10_countRound_15 : decode cX10_countRound 15 = .ok (.imul, 1) := by decide +kernel
theorem dX10_countRound_16 : decode cX10_countRound 16 = .ok (.iload_n 3, 1) := by decide +kernel
theorem dX10_countRound_17 : decode cX10_countRound 17 = .ok (.iadd, 1) := by decide +kernel
theorem dX10_countRound_18 : decode cX10_countRound 18 = .ok (.iload_n 2, 1) := by decide +kernel
theorem dX10_countRound_19 : decode cX10_countRound 19 = .ok (.iload_n 3, 1) := by decide +kernel
theorem dX10_countRound_20 : decode cX10_countRound 20 = .ok (.ishr, 1) := by decide +kernel
theorem dX10_countRound_21 : decode cX10_countRound 21 = .ok (.iconst 1, 1) := by decide +kernel
theorem dX10_countRound_22 : decode cX10_countRound 22 = .ok (.iand, 1) := by decide +kernel
theorem dX10_countRound_23 : decode cX10_countRound 23 = .ok (.iconst 1, 1) := by decide +kernel
theorem dX10_countRound_24 : decode cX10_countRound 24 = .ok (.if_icmp .ne 7, 3) := by decide +kernel
theorem dX10_countRound_27 : decode cX10_countRound 27 = .ok (.iconst 0, 1) := by decide +kernel
theorem dX10_countRound_28 : decode cX10_countRound 28 = .ok (.goto 4, 3) := by decide +kernel
theorem dX10_countRound_31 : decode cX10_countRound 31 = .ok (.iconst (-1), 1) := by decide +kernel
theorem dX10_countRound_32 : decode cX10_countRound 32 = .ok (.iastore, 1) := by decide +kernel
theorem dX10_countRound_33 : decode cX10_countRound 33 = .ok (.iinc 3 1, 3) := by decide +kernel
theorem dX10_countRound_36 : decode cX10_countRound 36 = .ok (.goto (-34), 3) := by decide +kernel
theorem dX10_countRound_39 : decode cX10_countRound 39 = .ok (.iconst 0, 1) := by decide +kernel
theorem dX10_countRound_40 : decode cX10_countRound 40 = .ok (.istore_n 3, 1) := by decide +kernel
theorem dX10_countRound_41 : decode cX10_countRound 41 = .ok (.iconst 0, 1) := by decide +kernel
theorem dX10_countRound_42 : decode cX10_countRound 42 = .ok (.istore 4, 2) := by decide +kernel
theorem dX10_countRound_44 : decode cX10_countRound 44 = .ok (.iload 4, 2) := by decide +kernel
theorem dX10_countRound_46 : decode cX10_countRound 46 = .ok (.aload_n 0, 1) := by decide +kernel
theorem dX10_countRound_47 : decode cX10_countRound 47 = .ok (.getfield 7, 3) := by decide +kernel
theorem dX10_countRound_50 : decode cX10_countRound 50 = .ok (.bipush 11, 2) := by decide +kernel
theorem dX10_countRound_52 : decode cX10_countRound 52 = .ok (.iaload, 1) := by decide +kernel
theorem dX10_countRound_53 : decode cX10_countRound 53 = .ok (.if_icmp .ge 106, 3) := by decide +kernel
theorem dX10_countRound_56 : decode cX10_countRound 56 = .ok (.iconst 0, 1) := by decide +kernel
theorem dX10_countRound_57 : decode cX10_countRound 57 = .ok (.istore 5, 2) := by decide +kernel
theorem dX10_countRound_59 : decode cX10_countRound 59 = .ok (.iload 5, 2) := by decide +kernel
theorem dX10_countRound_61 : decode cX10_countRound 61 = .ok (.iconst 3, 1) := by decide +kernel
theorem dX10_countRound_62 : decode cX10_countRound 62 = .ok (.if_icmp .ge 52, 3) := by decide +kernel
theorem dX10_countRound_65 : decode cX10_countRound 65 = .ok (.aload_n 0, 1) := by decide +kernel
theorem dX10_countRound_66 : decode cX10_countRound 66 = .ok (.getfield 7, 3) := by decide +kernel
theorem dX10_countRound_69 : decode cX10_countRound 69 = .ok (.sipush 155, 3) := by decide +kernel
theorem dX10_countRound_72 : decode cX10_countRound 72 = .ok (.iconst 3, 1) := by decide +kernel
theorem dX10_countRound_73 : decode cX10_countRound 73 = .ok (.iload 4, 2) := by decide +kernel
theorem dX10_countRound_75 : decode cX10_countRound 75 = .ok (.imul, 1) := by decide +kernel
theorem dX10_countRound_76 : decode cX10_countRound 76 = .ok (.iadd, 1) := by decide +kernel
theorem dX10_countRound_77 : decode cX10_countRound 77 = .ok (.iload 5, 2) := by decide +kernel
theorem dX10_countRound_79 : decode cX10_countRound 79 = .ok (.iadd, 1) := by decide +kernel
theorem dX10_countRound_80 : decode cX10_countRound 80 = .ok (.iaload, 1) := by decide +kernel
theorem dX10_countRound_81 : decode cX10_countRound 81 = .ok (.iconst (-1), 1) := by decide +kernel
theorem dX10_countRound_82 : decode cX10_countRound 82 = .ok (.if_icmp .eq 26, 3) := by decide +kernel
theorem dX10_countRound_85 : decode cX10_countRound 85 = .ok (.iload_n 2, 1) := by decide +kernel
theorem dX10_countRound_86 : decode cX10_countRound 86 = .ok (.aload_n 0, 1) := by decide +kernel
theorem dX10_countRound_87 : decode cX10_countRound 87 = .ok (.getfield 7, 3) := by decide +kernel
theorem dX10_countRound_90 : decode cX10_countRound 90 = .ok (.sipush 155, 3) := by decide +kernel
theorem dX10_countRound_93 : decode cX10_countRound 93 = .ok (.iconst 3, 1) := by decide +kernel
theorem dX10_countRound_94 : decode cX10_countRound 94 = .ok (.iload 4, 2) := by decide +kernel
theorem dX10_countRound_96 : decode cX10_countRound 96 = .ok (.imul, 1) := by decide +kernel
theorem dX10_countRound_97 : decode cX10_countRound 97 = .ok (.iadd, 1) := by decide +kernel
theorem dX10_countRound_98 : decode cX10_countRound 98 = .ok (.iload 5, 2) := by decide +kernel
theorem dX10_countRound_100 : decode cX10_countRound 100 = .ok (.iadd, 1) := by decide +kernel
theorem dX10_countRound_101 : decode cX10_countRound 101 = .ok (.iaload, 1) := by decide +kernel
theorem dX10_countRound_102 : decode cX10_countRound 102 = .ok (.ishr, 1) := by decide +kernel
theorem dX10_countRound_103 : decode cX10_countRound 103 = .ok (.iconst 1, 1) := by decide +kernel
theorem dX10_countRound_104 : decode cX10_countRound 104 = .ok (.iand, 1) := by decide +kernel
theorem dX10_countRound_105 : decode cX10_countRound 105 = .ok (.ifCond .ne 9, 3) := by decide +kernel
theorem dX10_countRound_108 : decode cX10_countRound 108 = .ok (.iinc 5 1, 3) := by decide +kernel
theorem dX10_countRound_111 : decode cX10_countRound 111 = .ok (.goto (-52), 3) := by decide +kernel
theorem dX10_countRound_114 : decode cX10_countRound 114 = .ok (.iload 5, 2) := by decide +kernel
theorem dX10_countRound_116 : decode cX10_countRound 116 = .ok (.iconst 3, 1) := by decide +kernel
theorem dX10_countRound_117 : decode cX10_countRound 117 = .ok (.if_icmp .ge 36, 3) := by decide +kernel
theorem dX10_countRound_120 : decode cX10_countRound 120 = .ok (.aload_n 0, 1) := by decide +kernel
theorem dX10_countRound_121 : decode cX10_countRound 121 = .ok (.getfield 19, 3) := by decide +kernel
theorem dX10_countRound_124 : decode cX10_countRound 124 = .ok (.bipush 8, 2) := by decide +kernel
theorem dX10_countRound_126 : decode cX10_countRound 126 = .ok (.iload_n 1, 1) := by decide +kernel
theorem dX10_countRound_127 : decode cX10_countRound 127 = .ok (.imul, 1) := by decide +kernel
theorem dX10_countRound_128 : decode cX10_countRound 128 = .ok (.aload_n 0, 1) := by decide +kernel
theorem dX10_countRound_129 : decode cX10_countRound 129 = .ok (.getfield 7, 3) := by decide +kernel
theorem dX10_countRound_132 : decode cX10_countRound 132 = .ok (.sipush 155, 3) := by decide +kernel
theorem dX10_countRound_135 : decode cX10_countRound 135 = .ok (.iconst 3, 1) := by decide +kernel
theorem dX10_countRound_136 : decode cX10_countRound 136 = .ok (.iload 4, 2) := by decide +kernel
theorem dX10_countRound_138 : decode cX10_countRound 138 = .ok (.imul, 1) := by decide +kernel
theorem dX10_countRound_139 : decode cX10_countRound 139 = .ok (.iadd, 1) := by decide +kernel
theorem dX10_countRound_140 : decode cX10_countRound 140 = .ok (.iload 5, 2) := by decide +kernel
theorem dX10_countRound_142 : decode cX10_countRound 142 = .ok (.iadd, 1) := by decide +kernel
theorem dX10_countRound_143 : decode cX10_countRound 143 = .ok (.iaload, 1) := by decide +kernel
theorem dX10_countRound_144 : decode cX10_countRound 144 = .ok (.iadd, 1) := by decide +kernel
theorem dX10_countRound_145 : decode cX10_countRound 145 = .ok (.dup2, 1) := by decide +kernel
theorem dX10_countRound_146 : decode cX10_countRound 146 = .ok (.iaload, 1) := by decide +kernel
theorem dX10_countRound_147 : decode cX10_countRound 147 = .ok (.iconst 1, 1) := by decide +kernel
theorem dX10_countRound_148 : decode cX10_countRound 148 = .ok (.iadd, 1) := by decide +kernel
theorem dX10_countRound_149 : decode cX10_countRound 149 = .ok (.iastore, 1) := by decide +kernel
theorem dX10_countRound_150 : decode cX10_countRound 150 = .ok (.iinc 3 1, 3) := by decide +kernel
theorem dX10_countRound_153 : decode cX10_countRound 153 = .ok (.iinc 4 1, 3) := by decide +kernel
theorem dX10_countRound_156 : decode cX10_countRound 156 = .ok (.goto (-112), 3) := by decide +kernel
theorem dX10_countRound_159 : decode cX10_countRound 159 = .ok (.iload_n 3, 1) := by decide +kernel
theorem dX10_countRound_160 : decode cX10_countRound 160 = .ok (.ireturn, 1) := by decide +kernel
theorem dX10_isWorse_0 : decode cX10_isWorse 0 = .ok (.aload_n 0, 1) := by decide +kernel
theorem dX10_isWorse_1 : decode cX10_isWorse 1 = .ok (.getfield 19, 3) := by decide +kernel
theorem dX10_isWorse_4 : decode cX10_isWorse 4 = .ok (.bipush 8, 2) := by decide +kernel
theorem dX10_isWorse_6 : decode cX10_isWorse 6 = .ok (.iload_n 1, 1) := by decide +kernel
theorem dX10_isWorse_7 : decode cX10_isWorse 7 = .ok (.imul, 1) := by decide +kernel
theorem dX10_isWorse_8 : decode cX10_isWorse 8 = .ok (.iload_n 2, 1) := by decide +kernel
theorem dX10_isWorse_9 : decode cX10_isWorse 9 = .ok (.iadd, 1) := by decide +kernel
theorem dX10_isWorse_10 : decode cX10_isWorse 10 = .ok (.iaload, 1) := by decide +kernel
theorem dX10_isWorse_11 : decode cX10_isWorse 11 = .ok (.istore 4, 2) := by decide +kernel
theorem dX10_isWorse_13 : decode cX10_isWorse 13 = .ok (.aload_n 0, 1) := by decide +kernel
theorem dX10_isWorse_14 : decode cX10_isWorse 14 = .ok (.getfield 19, 3) := by decide +kernel
theorem dX10_isWorse_17 : decode cX10_isWorse 17 = .ok (.bipush 8, 2) := by decide +kernel
theorem dX10_isWorse_19 : decode cX10_isWorse 19 = .ok (.iload_n 1, 1) := by decide +kernel
theorem dX10_isWorse_20 : decode cX10_isWorse 20 = .ok (.imul, 1) := by decide +kernel
theorem dX10_isWorse_21 : decode cX10_isWorse 21 = .ok (.iload_n 3, 1) := by decide +kernel
theorem dX10_isWorse_22 : decode cX10_isWorse 22 = .ok (.iadd, 1) := by decide +kernel
theorem dX10_isWorse_23 : decode cX10_isWorse 23 = .ok (.iaload, 1) := by decide +kernel
theorem dX10_isWorse_24 : decode cX10_isWorse 24 = .ok (.istore 5, 2) := by decide +kernel
theorem dX10_isWorse_26 : decode cX10_isWorse 26 = .ok (.iload 4, 2) := by decide +kernel
theorem dX10_isWorse_28 : decode cX10_isWorse 28 = .ok (.iload 5, 2) := by decide +kernel
theorem dX10_isWorse_30 : decode cX10_isWorse 30 = .ok (.if_icmp .eq 16, 3) := by decide +kernel
theorem dX10_isWorse_33 : decode cX10_isWorse 33 = .ok (.iload 4, 2) := by decide +kernel
theorem dX10_isWorse_35 : decode cX10_isWorse 35 = .ok (.iload 5, 2) := by decide +kernel
theorem dX10_isWorse_37 : decode cX10_isWorse 37 = .ok (.if_icmp .ge 7, 3) := by decide +kernel
theorem dX10_isWorse_40 : decode cX10_isWorse 40 = .ok (.iconst 1, 1) := by decide +kernel
theorem dX10_isWorse_41 : decode cX10_isWorse 41 = .ok (.goto 4, 3) := by decide +kernel
theorem dX10_isWorse_44 : decode cX10_isWorse 44 = .ok (.iconst 0, 1) := by decide +kernel
theorem dX10_isWorse_45 : decode cX10_isWorse 45 = .ok (.ireturn, 1) := by decide +kernel
theorem dX10_isWorse_46 : decode cX10_isWorse 46 = .ok (.aload_n 0, 1) := by decide +kernel
theorem dX10_isWorse_47 : decode cX10_isWorse 47 = .ok (.iload_n 2, 1) := by decide +kernel
theorem dX10_isWorse_48 : decode cX10_isWorse 48 = .ok (.invokevirtual 123, 3) := by decide +kernel
theorem dX10_isWorse_51 : decode cX10_isWorse 51 = .ok (.aload_n 0, 1) := by decide +kernel
theorem dX10_isWorse_52 : decode cX10_isWorse 52 = .ok (.iload_n 3, 1) := by decide +kernel
theorem dX10_isWorse_53 : decode cX10_isWorse 53 = .ok (.invokevirtual 123, 3) := by decide +kernel
theorem dX10_isWorse_56 : decode cX10_isWorse 56 = .ok (.if_icmp .eq 24, 3) := by decide +kernel
theorem dX10_isWorse_59 : decode cX10_isWorse 59 = .ok (.aload_n 0, 1) := by decide +kernel
theorem dX10_isWorse_60 : decode cX10_isWorse 60 = .ok (.iload_n 2, 1) := by decide +kernel
theorem dX10_isWorse_61 : decode cX10_isWorse 61 = .ok (.invokevirtual 123, 3) := by decide +kernel
theorem dX10_isWorse_64 : decode cX10_isWorse 64 = .ok (.aload_n 0, 1) := by decide +kernel
theorem dX10_isWorse_65 : decode cX10_isWorse 65 = .ok (.iload_n 3, 1) := by decide +kernel
theorem dX10_isWorse_66 : decode cX10_isWorse 66 = .ok (.invokevirtual 123, 3) := by decide +kernel
theorem dX10_isWorse_69 : decode cX10_isWorse 69 = .ok (.if_icmp .ge 7, 3) := by decide +kernel
theorem dX10_isWorse_72 : decode cX10_isWorse 72 = .ok (.iconst 1, 1) := by decide +kernel
theorem dX10_isWorse_73 : decode cX10_isWorse 73 = .ok (.goto 17, 3) := by decide +kernel
theorem dX10_isWorse_76 : decode cX10_isWorse 76 = .ok (.iconst 0, 1) := by decide +kernel
theorem dX10_isWorse_77 : decode cX10_isWorse 77 = .ok (.goto 13, 3) := by decide +kernel
theorem dX10_isWorse_80 : decode cX10_isWorse 80 = .ok (.iload_n 2, 1) := by decide +kernel
theorem dX10_isWorse_81 : decode cX10_isWorse 81 = .ok (.iload_n 3, 1) := by decide +kernel
theorem dX10_isWorse_82 : decode cX10_isWorse 82 = .ok (.if_icmp .le 7, 3) := by decide +kernel
theorem dX10_isWorse_85 : decode cX10_isWorse 85 = .ok (.iconst 1, 1) := by decide +kernel
theorem dX10_isWorse_86 : decode cX10_isWorse 86 = .ok (.goto 4, 3) := by decide +kernel
theorem dX10_isWorse_89 : decode cX10_isWorse 89 = .ok (.iconst 0, 1) := by decide +kernel
theorem dX10_isWorse_90 : decode cX10_isWorse 90 = .ok (.ireturn, 1) := by decide +kernel
theorem dX10_count_0 : decode cX10_count 0 = .ok (.iconst 0, 1) := by decide +kernel
theorem dX10_count_1 : decode cX10_count 1 = .ok (.istore_n 1, 1) := by decide +kernel
theorem dX10_count_2 : decode cX10_count 2 = .ok (.iconst 0, 1) := by decide +kernel
theorem dX10_count_3 : decode cX10_count 3 = .ok (.istore_n 2, 1) := by decide +kernel
theorem dX10_count_4 : decode cX10_count 4 = .ok (.iconst 0, 1) := by decide +kernel
theorem dX10_count_5 : decode cX10_count 5 = .ok (.istore_n 3, 1) := by decide +kernel
theorem dX10_count_6 : decode cX10_count 6 = .ok (.iload_n 3, 1) := by decide +kernel
theorem dX10_count_7 : decode cX10_count 7 = .ok (.bipush 8, 2) := by decide +kernel
theorem dX10_count_9 : decode cX10_count 9 = .ok (.if_icmp .ge 51, 3) := by decide +kernel
theorem dX10_count_12 : decode cX10_count 12 = .ok (.iload_n 1, 1) := by decide +kernel
theorem dX10_count_13 : decode cX10_count 13 = .ok (.aload_n 0, 1) := by decide +kernel
theorem dX10_count_14 : decode cX10_count 14 = .ok (.getfield 7, 3) := by decide +kernel
theorem dX10_count_17 : decode cX10_count 17 = .ok (.bipush 12, 2) := by decide +kernel
theorem dX10_count_19 : decode cX10_count 19 = .ok (.iload_n 3, 1) := by decide +kernel
theorem dX10_count_20 : decode cX10_count 20 = .ok (.iadd, 1) := by decide +kernel
theorem dX10_count_21 : decode cX10_count 21 = .ok (.iaload, 1) := by decide +kernel
theorem dX10_count_22 : decode cX10_count 22 = .ok (.ifCond .le 9, 3) := by decide +kernel
theorem dX10_count_25 : decode cX10_count 25 = .ok (.iconst 1, 1) := by decide +kernel
theorem dX10_count_26 : decode cX10_count 26 = .ok (.iload_n 3, 1) := by decide +kernel
theorem dX10_count_27 : decode cX10_count 27 = .ok (.ishl, 1) := by decide +kernel
theorem dX10_count_28 : decode cX10_count 28 = .ok (.goto 4, 3) := by decide +kernel
theorem dX10_count_31 : decode cX10_count 31 = .ok (.iconst 0, 1) := by decide +kernel
theorem dX10_count_32 : decode cX10_count 32 = .ok (.ior, 1) := by decide +kernel
theorem dX10_count_33 : decode cX10_count 33 = .ok (.istore_n 1, 1) := by decide +kernel
theorem dX10_count_34 : decode cX10_count 34 = .ok (.iload_n 2, 1) := by decide +kernel
theorem dX10_count_35 : decode cX10_count 35 = .ok (.aload_n 0, 1) := by decide +kernel
theorem dX10_count_36 : decode cX10_count 36 = .ok (.getfield 7, 3) := by decide +kernel
theorem dX10_count_39 : decode cX10_count 39 = .ok (.bipush 12, 2) := by decide +kernel
theorem dX10_count_41 : decode cX10_count 41 = .ok (.iload_n 3, 1) := by decide +kernel
theorem dX10_count_42 : decode cX10_count 42 = .ok (.iadd, 1) := by decide +kernel
theorem dX10_count_43 : decode cX10_count 43 = .ok (.iaload, 1) := by decide +kernel
theorem dX10_count_44 : decode cX10_count 44 = .ok (.ifCond .le 7, 3) := by decide +kernel
theorem dX10_count_47 : decode cX10_count 47 = .ok (.iconst 1, 1) := by decide +kernel
theorem dX10_count_48 : decode cX10_count 48 = .ok (.goto 4, 3) := by decide +kernel
theorem dX10_count_51 : decode cX10_count 51 = .ok (.iconst 0, 1) := by decide +kernel
theorem dX10_count_52 : decode cX10_count 52 = .ok (.iadd, 1) := by decide +kernel
theorem dX10_count_53 : decode cX10_count 53 = .ok (.istore_n 2, 1) := by decide +kernel
theorem dX10_count_54 : decode cX10_count 54 = .ok (.iinc 3 1, 3) := by decide +kernel
theorem dX10_count_57 : decode cX10_count 57 = .ok (.goto (-51), 3) := by decide +kernel
theorem dX10_count_60 : decode cX10_count 60 = .ok (.aload_n 0, 1) := by decide +kernel
theorem dX10_count_61 : decode cX10_count 61 = .ok (.iconst 0, 1) := by decide +kernel
theorem dX10_count_62 : decode cX10_count 62 = .ok (.putfield 138, 3) := by decide +kernel
theorem dX10_count_65 : decode cX10_count 65 = .ok (.aload_n 0, 1) := by decide +kernel
theorem dX10_count_66 : decode cX10_count 66 = .ok (.iconst (-1), 1) := by decide +kernel
theorem dX10_count_67 : decode cX10_count 67 = .ok (.putfield 141, 3) := by decide +kernel
theorem dX10_count_70 : decode cX10_count 70 = .ok (.iload_n 2, 1) := by decide +kernel
theorem dX10_count_71 : decode cX10_count 71 = .ok (.ifCond .le 144, 3) := by decide +kernel
theorem dX10_count_74 : decode cX10_count 74 = .ok (.aload_n 0, 1) := by decide +kernel
theorem dX10_count_75 : decode cX10_count 75 = .ok (.getfield 141, 3) := by decide +kernel
theorem dX10_count_78 : decode cX10_count 78 = .ok (.iconst (-1), 1) := by decide +kernel
theorem dX10_count_79 : decode cX10_count 79 = .ok (.if_icmp .ne 136, 3) := by decide +kernel
theorem dX10_count_82 : decode cX10_count 82 = .ok (.aload_n 0, 1) := by decide +kernel
theorem dX10_count_83 : decode cX10_count 83 = .ok (.aload_n 0, 1) := by decide +kernel
theorem dX10_count_84 : decode cX10_count 84 = .ok (.getfield 138, 3) := by decide +kernel
theorem dX10_count_87 : decode cX10_count 87 = .ok (.iload_n 1, 1) := by decide +kernel
theorem dX10_count_88 : decode cX10_count 88 = .ok (.invokevirtual 144, 3) := by decide +kernel
theorem dX10_count_91 : decode cX10_count 91 = .ok (.istore_n 3, 1) := by decide +kernel
theorem dX10_count_92 : decode cX10_count 92 = .ok (.iconst (-1), 1) := by decide +kernel
theorem dX10_count_93 : decode cX10_count 93 = .ok (.istore 4, 2) := by decide +kernel
theorem dX10_count_95 : decode cX10_count 95 = .ok (.iconst 0, 1) := by decide +kernel
theorem dX10_count_96 : decode cX10_count 96 = .ok (.istore 5, 2) := by decide +kernel
theorem dX10_count_98 : decode cX10_count 98 = .ok (.iload 5, 2) := by decide +kernel
theorem dX10_count_100 : decode cX10_count 100 = .ok (.bipush 8, 2) := by decide +kernel
theorem dX10_count_102 : decode cX10_count 102 = .ok (.if_icmp .ge 88, 3) := by decide +kernel
theorem dX10_count_105 : decode cX10_count 105 = .ok (.iload_n 1, 1) := by decide +kernel
theorem dX10_count_106 : decode cX10_count 106 = .ok (.iload 5, 2) := by decide +kernel
theorem dX10_count_108 : decode cX10_count 108 = .ok (.ishr, 1) := by decide +kernel
theorem dX10_count_109 : decode cX10_count 109 = .ok (.iconst 1, 1) := by decide +kernel
theorem dX10_count_110 : decode cX10_count 110 = .ok (.iand, 1) := by decide +kernel
theorem dX10_count_111 : decode cX10_count 111 = .ok (.iconst 1, 1) := by decide +kernel
theorem dX10_count_112 : decode cX10_count 112 = .ok (.if_icmp .ne 72, 3) := by decide +kernel
theorem dX10_count_115 : decode cX10_count 115 = .ok (.aload_n 0, 1) := by decide +kernel
theorem dX10_count_116 : decode cX10_count 116 = .ok (.iload_n 2, 1) := by decide +kernel
theorem dX10_count_117 : decode cX10_count 117 = .ok (.iconst 1, 1) := by decide +kernel
theorem dX10_count_118 : decode cX10_count 118 = .ok (.if_icmp .eq 24, 3) := by decide +kernel
theorem dX10_count_121 : decode cX10_count 121 = .ok (.iconst 2, 1) := by decide +kernel
theorem dX10_count_122 : decode cX10_count 122 = .ok (.aload_n 0, 1) := by decide +kernel
theorem dX10_count_123 : decode cX10_count 123 = .ok (.getfield 19, 3) := by decide +kernel
theorem dX10_count_126 : decode cX10_count 126 = .ok (.bipush 8, 2) := by decide +kernel
theorem dX10_count_128 : decode cX10_count 128 = .ok (.aload_n 0, 1) := by decide +kernel
theorem dX10_count_129 : decode cX10_count 129 = .ok (.getfield 138, 3) := by decide +kernel
theorem dX10_count_132 : decode cX10_count 132 = .ok (.imul, 1) := by decide +kernel
theorem dX10_count_133 : decode cX10_count 133 = .ok (.iload 5, 2) := by decide +kernel
theorem dX10_count_135 : decode cX10_count 135 = .ok (.iadd, 1) := by decide +kernel
theorem dX10_count_136 : decode cX10_count 136 = .ok (.iaload, 1) := by decide +kernel
theorem dX10_count_137 : decode cX10_count 137 = .ok (.imul, 1) := by decide +kernel
theorem dX10_count_138 : decode cX10_count 138 = .ok (.iload_n 3, 1) := by decide +kernel
theorem dX10_count_139 : decode cX10_count 139 = .ok (.if_icmp .le 8, 3) := by decide +kernel
theorem dX10_count_142 : decode cX10_count 142 = .ok (.iload 5, 2) := by decide +kernel
theorem dX10_count_144 : decode cX10_count 144 = .ok (.goto 7, 3) := by decide +kernel
theorem dX10_count_147 : decode cX10_count 147 = .ok (.aload_n 0, 1) := by decide +kernel
theorem dX10_count_148 : decode cX10_count 148 = .ok (.getfield 141, 3) := by decide +kernel
theorem dX10_count_151 : decode cX10_count 151 = .ok (.putfield 141, 3) := by decide +kernel
theorem dX10_count_154 : decode cX10_count 154 = .ok (.iload 4, 2) := by decide +kernel
theorem dX10_count_156 : decode cX10_count 156 = .ok (.iconst (-1), 1) := by decide +kernel
theorem dX10_count_157 : decode cX10_count 157 = .ok (.if_icmp .eq 18, 3) := by decide +kernel
theorem dX10_count_160 : decode cX10_count 160 = .ok (.aload_n 0, 1) := by decide +kernel
theorem dX10_count_161 : decode cX10_count 161 = .ok (.aload_n 0, 1) := by decide +kernel
theorem dX10_count_162 : decode cX10_count 162 = .ok (.getfield 138, 3) := by decide +kernel
theorem dX10_count_165 : decode cX10_count 165 = .ok (.iload 5, 2) := by decide +kernel
theorem dX10_count_167 : decode cX10_count 167 = .ok (.iload 4, 2) := by decide +kernel
theorem dX10_count_169 : decode cX10_count 169 = .ok (.invokevirtual 147, 3) := by decide +kernel
theorem dX10_count_172 : decode cX10_count 172 = .ok (.ifCond .eq 8, 3) := by decide +kernel
theorem dX10_count_175 : decode cX10_count 175 = .ok (.iload 5, 2) := by decide +kernel
theorem dX10_count_177 : decode cX10_count 177 = .ok (.goto 5, 3) := by decide +kernel
theorem dX10_count_180 : decode cX10_count 180 = .ok (.iload 4, 2) := by decide +kernel
theorem dX10_count_182 : decode cX10_count 182 = .ok (.istore 4, 2) := by decide +kernel
theorem dX10_count_184 : decode cX10_count 184 = .ok (.iinc 5 1, 3) := by decide +kernel
theorem dX10_count_187 : decode cX10_count 187 = .ok (.goto (-89), 3) := by decide +kernel
theorem dX10_count_190 : decode cX10_count 190 = .ok (.iload_n 1, 1) := by decide +kernel
theorem dX10_count_191 : decode cX10_count 191 = .ok (.iconst 1, 1) := by decide +kernel
theorem dX10_count_192 : decode cX10_count 192 = .ok (.iload 4, 2) := by decide +kernel
theorem dX10_count_194 : decode cX10_count 194 = .ok (.ishl, 1) := by decide +kernel
theorem dX10_count_195 : decode cX10_count 195 = .ok (.iconst (-1), 1) := by decide +kernel
theorem dX10_count_196 : decode cX10_count 196 = .ok (.ixor, 1) := by decide +kernel
theorem dX10_count_197 : decode cX10_count 197 = .ok (.iand, 1) := by decide +kernel
theorem dX10_count_198 : decode cX10_count 198 = .ok (.istore_n 1, 1) := by decide +kernel
theorem dX10_count_199 : decode cX10_count 199 = .ok (.iinc 2 (-1), 3) := by decide +kernel
theorem dX10_count_202 : decode cX10_count 202 = .ok (.aload_n 0, 1) := by decide +kernel
theorem dX10_count_203 : decode cX10_count 203 = .ok (.dup, 1) := by decide +kernel
theorem dX10_count_204 : decode cX10_count 204 = .ok (.getfield 138, 3) := by decide +kernel
theorem dX10_count_207 : decode cX10_count 207 = .ok (.iconst 1, 1) := by decide +kernel
theorem dX10_count_208 : decode cX10_count 208 = .ok (.iadd, 1) := by decide +kernel
theorem dX10_count_209 : decode cX10_count 209 = .ok (.putfield 138, 3) := by decide +kernel
theorem dX10_count_212 : decode cX10_count 212 = .ok (.goto (-142), 3) := by decide +kernel
theorem dX10_count_215 : decode cX10_count 215 = .ok (.return_, 1) := by decide +kernel
theorem dX10_rounds_0 : decode cX10_rounds 0 = .ok (.aload_n 0, 1) := by decide +kernel
theorem dX10_rounds_1 : decode cX10_rounds 1 = .ok (.iconst 0, 1) := by decide +kernel
theorem dX10_rounds_2 : decode cX10_rounds 2 = .ok (.putfield 29, 3) := by decide +kernel
theorem dX10_rounds_5 : decode cX10_rounds 5 = .ok (.aload_n 0, 1) := by decide +kernel
theorem dX10_rounds_6 : decode cX10_rounds 6 = .ok (.invokevirtual 150, 3) := by decide +kernel
theorem dX10_rounds_9 : decode cX10_rounds 9 = .ok (.aload_n 0, 1) := by decide +kernel
theorem dX10_rounds_10 : decode cX10_rounds 10 = .ok (.getfield 138, 3) := by decide +kernel
theorem dX10_rounds_13 : decode cX10_rounds 13 = .ok (.ireturn, 1) := by decide +kernel
theorem dX10_votes_0 : decode cX10_votes 0 = .ok (.aload_n 0, 1) := by decide +kernel
theorem dX10_votes_1 : decode cX10_votes 1 = .ok (.iload_n 1, 1) := by decide +kernel
theorem dX10_votes_2 : decode cX10_votes 2 = .ok (.ifCond .lt 7, 3) := by decide +kernel
theorem dX10_votes_5 : decode cX10_votes 5 = .ok (.iconst 1, 1) := by decide +kernel
theorem dX10_votes_6 : decode cX10_votes 6 = .ok (.goto 4, 3) := by decide +kernel
theorem dX10_votes_9 : decode cX10_votes 9 = .ok (.iconst 0, 1) := by decide +kernel
theorem dX10_votes_10 : decode cX10_votes 10 = .ok (.iload_n 2, 1) := by decide +kernel
theorem dX10_votes_11 : decode cX10_votes 11 = .ok (.invokestatic 40, 3) := by decide +kernel
theorem dX10_votes_14 : decode cX10_votes 14 = .ok (.iconst 1, 1) := by decide +kernel
theorem dX10_votes_15 : decode cX10_votes 15 = .ok (.invokevirtual 64, 3) := by decide +kernel
theorem dX10_votes_18 : decode cX10_votes 18 = .ok (.ifCond .eq 5, 3) := by decide +kernel
theorem dX10_votes_21 : decode cX10_votes 21 = .ok (.iconst 0, 1) := by decide +kernel
theorem dX10_votes_22 : decode cX10_votes 22 = .ok (.ireturn, 1) := by decide +kernel
theorem dX10_votes_23 : decode cX10_votes 23 = .ok (.aload_n 0, 1) := by decide +kernel
theorem dX10_votes_24 : decode cX10_votes 24 = .ok (.invokevirtual 150, 3) := by decide +kernel
theorem dX10_votes_27 : decode cX10_votes 27 = .ok (.iload_n 1, 1) := by decide +kernel
theorem dX10_votes_28 : decode cX10_votes 28 = .ok (.aload_n 0, 1) := by decide +kernel
theorem dX10_votes_29 : decode cX10_votes 29 = .ok (.getfield 138, 3) := by decide +kernel
theorem dX10_votes_32 : decode cX10_votes 32 = .ok (.if_icmp .ge 17, 3) := by decide +kernel
theorem dX10_votes_35 : decode cX10_votes 35 = .ok (.aload_n 0, 1) := by decide +kernel
theorem dX10_votes_36 : decode cX10_votes 36 = .ok (.getfield 19, 3) := by decide +kernel
theorem dX10_votes_39 : decode cX10_votes 39 = .ok (.bipush 8, 2) := by decide +kernel
theorem dX10_votes_41 : decode cX10_votes 41 = .ok (.iload_n 1, 1) := by decide +kernel
theorem dX10_votes_42 : decode cX10_votes 42 = .ok (.imul, 1) := by decide +kernel
theorem dX10_votes_43 : decode cX10_votes 43 = .ok (.iload_n 2, 1) := by decide +kernel
theorem dX10_votes_44 : decode cX10_votes 44 = .ok (.iadd, 1) := by decide +kernel
theorem dX10_votes_45 : decode cX10_votes 45 = .ok (.iaload, 1) := by decide +kernel
theorem dX10_votes_46 : decode cX10_votes 46 = .ok (.goto 4, 3) := by decide +kernel
theorem dX10_votes_49 : decode cX10_votes 49 = .ok (.iconst (-1), 1) := by decide +kernel
theorem dX10_votes_50 : decode cX10_votes 50 = .ok (.ireturn, 1) := by decide +kernel
theorem dX10_winner_0 : decode cX10_winner 0 = .ok (.aload_n 0, 1) := by decide +kernel
theorem dX10_winner_1 : decode cX10_winner 1 = .ok (.iconst 0, 1) := by decide +kernel
theorem dX10_winner_2 : decode cX10_winner 2 = .ok (.putfield 29, 3) := by decide +kernel
theorem dX10_winner_5 : decode cX10_winner 5 = .ok (.aload_n 0, 1) := by decide +kernel
theorem dX10_winner_6 : decode cX10_winner 6 = .ok (.invokevirtual 150, 3) := by decide +kernel
theorem dX10_winner_9 : decode cX10_winner 9 = .ok (.aload_n 0, 1) := by decide +kernel
theorem dX10_winner_10 : decode cX10_winner 10 = .ok (.getfield 141, 3) := by decide +kernel
theorem dX10_winner_13 : decode cX10_winner 13 = .ok (.ireturn, 1) := by decide +kernel
theorem dX10_reason_0 : decode cX10_reason 0 = .ok (.aload_n 0, 1) := by decide +kernel
theorem dX10_reason_1 : decode cX10_reason 1 = .ok (.aload_n 0, 1) := by decide +kernel
theorem dX10_reason_2 : decode cX10_reason 2 = .ok (.iload_n 1, 1) := by decide +kernel
theorem dX10_reason_3 : decode cX10_reason 3 = .ok (.invokevirtual 99, 3) := by decide +kernel
theorem dX10_reason_6 : decode cX10_reason 6 = .ok (.ifCond .eq 14, 3) := by decide +kernel
theorem dX10_reason_9 : decode cX10_reason 9 = .ok (.iload_n 2, 1) := by decide +kernel
theorem dX10_reason_10 : decode cX10_reason 10 = .ok (.invokestatic 40, 3) := by decide +kernel
theorem dX10_reason_13 : decode cX10_reason 13 = .ok (.ifCond .eq 7, 3) := by decide +kernel
theorem dX10_reason_16 : decode cX10_reason 16 = .ok (.iconst 1, 1) := by decide +kernel
theorem dX10_reason_17 : decode cX10_reason 17 = .ok (.goto 4, 3) := by decide +kernel
theorem dX10_reason_20 : decode cX10_reason 20 = .ok (.iconst 0, 1) := by decide +kernel
theorem dX10_reason_21 : decode cX10_reason 21 = .ok (.iload_n 3, 1) := by decide +kernel
theorem dX10_reason_22 : decode cX10_reason 22 = .ok (.invokestatic 102, 3) := by decide +kernel
theorem dX10_reason_25 : decode cX10_reason 25 = .ok (.ifCond .eq 18, 3) := by decide +kernel
theorem dX10_reason_28 : decode cX10_reason 28 = .ok (.iload 4, 2) := by decide +kernel
theorem dX10_reason_30 : decode cX10_reason 30 = .ok (.iconst 1, 1) := by decide +kernel
theorem dX10_reason_31 : decode cX10_reason 31 = .ok (.bipush 100, 2) := by decide +kernel
theorem dX10_reason_33 : decode cX10_reason 33 = .ok (.invokestatic 36, 3) := by decide +kernel
theorem dX10_reason_36 : decode cX10_reason 36 = .ok (.ifCond .eq 7, 3) := by decide +kernel
theorem dX10_reason_39 : decode cX10_reason 39 = .ok (.iconst 1, 1) := by decide +kernel
theorem dX10_reason_40 : decode cX10_reason 40 = .ok (.goto 4, 3) := by decide +kernel
theorem dX10_reason_43 : decode cX10_reason 43 = .ok (.iconst 0, 1) := by decide +kernel
theorem dX10_reason_44 : decode cX10_reason 44 = .ok (.iconst 1, 1) := by decide +kernel
theorem dX10_reason_45 : decode cX10_reason 45 = .ok (.invokevirtual 64, 3) := by decide +kernel
theorem dX10_reason_48 : decode cX10_reason 48 = .ok (.ifCond .eq 7, 3) := by decide +kernel
theorem dX10_reason_51 : decode cX10_reason 51 = .ok (.iconst 0, 1) := by decide +kernel
theorem dX10_reason_52 : decode cX10_reason 52 = .ok (.goto 12, 3) := by decide +kernel
theorem dX10_reason_55 : decode cX10_reason 55 = .ok (.aload_n 0, 1) := by decide +kernel
theorem dX10_reason_56 : decode cX10_reason 56 = .ok (.iload_n 1, 1) := by decide +kernel
theorem dX10_reason_57 : decode cX10_reason 57 = .ok (.iload_n 2, 1) := by decide +kernel
theorem dX10_reason_58 : decode cX10_reason 58 = .ok (.iload_n 3, 1) := by decide +kernel
theorem dX10_reason_59 : decode cX10_reason 59 = .ok (.iload 4, 2) := by decide +kernel
theorem dX10_reason_61 : decode cX10_reason 61 = .ok (.invokevirtual 105, 3) := by decide +kernel
theorem dX10_reason_64 : decode cX10_reason 64 = .ok (.ireturn, 1) := by decide +kernel
theorem dX10_volumeIn_0 : decode cX10_volumeIn 0 = .ok (.aload_n 0, 1) := by decide +kernel
theorem dX10_volumeIn_1 : decode cX10_volumeIn 1 = .ok (.iload_n 1, 1) := by decide +kernel
theorem dX10_volumeIn_2 : decode cX10_volumeIn 2 = .ok (.invokestatic 40, 3) := by decide +kernel
theorem dX10_volumeIn_5 : decode cX10_volumeIn 5 = .ok (.iload_n 2, 1) := by decide +kernel
theorem dX10_volumeIn_6 : decode cX10_volumeIn 6 = .ok (.iconst 0, 1) := by decide +kernel
theorem dX10_volumeIn_7 : decode cX10_volumeIn 7 = .ok (.bipush 48, 2) := by decide +kernel
theorem dX10_volumeIn_9 : decode cX10_volumeIn 9 = .ok (.invokestatic 36, 3) := by decide +kernel
theorem dX10_volumeIn_12 : decode cX10_volumeIn 12 = .ok (.iconst 1, 1) := by decide +kernel
theorem dX10_volumeIn_13 : decode cX10_volumeIn 13 = .ok (.invokevirtual 64, 3) := by decide +kernel
theorem dX10_volumeIn_16 : decode cX10_volumeIn 16 = .ok (.ifCond .eq 5, 3) := by decide +kernel
theorem dX10_volumeIn_19 : decode cX10_volumeIn 19 = .ok (.iconst 0, 1) := by decide +kernel
theorem dX10_volumeIn_20 : decode cX10_volumeIn 20 = .ok (.ireturn, 1) := by decide +kernel
theorem dX10_volumeIn_21 : decode cX10_volumeIn 21 = .ok (.aload_n 0, 1) := by decide +kernel
theorem dX10_volumeIn_22 : decode cX10_volumeIn 22 = .ok (.invokevirtual 153, 3) := by decide +kernel
theorem dX10_volumeIn_25 : decode cX10_volumeIn 25 = .ok (.aload_n 0, 1) := by decide +kernel
theorem dX10_volumeIn_26 : decode cX10_volumeIn 26 = .ok (.iload_n 2, 1) := by decide +kernel
theorem dX10_volumeIn_27 : decode cX10_volumeIn 27 = .ok (.iconst 0, 1) := by decide +kernel
theorem dX10_volumeIn_28 : decode cX10_volumeIn 28 = .ok (.invokevirtual 116, 3) := by decide +kernel
theorem dX10_volumeIn_31 : decode cX10_volumeIn 31 = .ok (.istore_n 3, 1) := by decide +kernel
theorem dX10_volumeIn_32 : decode cX10_volumeIn 32 = .ok (.aload_n 0, 1) := by decide +kernel
theorem dX10_volumeIn_33 : decode cX10_volumeIn 33 = .ok (.iload_n 1, 1) := by decide +kernel
theorem dX10_volumeIn_34 : decode cX10_volumeIn 34 = .ok (.invokevirtual 123, 3) := by decide +kernel
theorem dX10_volumeIn_37 : decode cX10_volumeIn 37 = .ok (.istore 4, 2) := by decide +kernel
theorem dX10_volumeIn_39 : decode cX10_volumeIn 39 = .ok (.aload_n 0, 1) := by decide +kernel
theorem dX10_volumeIn_40 : decode cX10_volumeIn 40 = .ok (.invokevirtual 156, 3) := by decide +kernel
theorem dX10_volumeIn_43 : decode cX10_volumeIn 43 = .ok (.iload 4, 2) := by decide +kernel
theorem dX10_volumeIn_45 : decode cX10_volumeIn 45 = .ok (.ireturn, 1) := by decide +kernel
theorem dX10_goneIn_0 : decode cX10_goneIn 0 = .ok (.aload_n 0, 1) := by decide +kernel
theorem dX10_goneIn_1 : decode cX10_goneIn 1 = .ok (.iload_n 1, 1) := by decide +kernel
theorem dX10_goneIn_2 : decode cX10_goneIn 2 = .ok (.invokestatic 40, 3) := by decide +kernel
theorem dX10_goneIn_5 : decode cX10_goneIn 5 = .ok (.iconst 1, 1) := by decide +kernel
theorem dX10_goneIn_6 : decode cX10_goneIn 6 = .ok (.iconst 1, 1) := by decide +kernel
theorem dX10_goneIn_7 : decode cX10_goneIn 7 = .ok (.invokevirtual 64, 3) := by decide +kernel
theorem dX10_goneIn_10 : decode cX10_goneIn 10 = .ok (.ifCond .eq 5, 3) := by decide +kernel
theorem dX10_goneIn_13 : decode cX10_goneIn 13 = .ok (.iconst 0, 1) := by decide +kernel
theorem dX10_goneIn_14 : decode cX10_goneIn 14 = .ok (.ireturn, 1) := by decide +kernel
theorem dX10_goneIn_15 : decode cX10_goneIn 15 = .ok (.iconst (-1), 1) := by decide +kernel
theorem dX10_goneIn_16 : decode cX10_goneIn 16 = .ok (.istore_n 2, 1) := by decide +kernel
theorem dX10_goneIn_17 : decode cX10_goneIn 17 = .ok (.aload_n 0, 1) := by decide +kernel
theorem dX10_goneIn_18 : decode cX10_goneIn 18 = .ok (.invokevirtual 153, 3) := by decide +kernel
theorem dX10_goneIn_21 : decode cX10_goneIn 21 = .ok (.aload_n 0, 1) := by decide +kernel
theorem dX10_goneIn_22 : decode cX10_goneIn 22 = .ok (.getfield 7, 3) := by decide +kernel
theorem dX10_goneIn_25 : decode cX10_goneIn 25 = .ok (.bipush 12, 2) := by decide +kernel
theorem dX10_goneIn_27 : decode cX10_goneIn 27 = .ok (.iload_n 1, 1) := by decide +kernel
theorem dX10_goneIn_28 : decode cX10_goneIn 28 = .ok (.iadd, 1) := by decide +kernel
theorem dX10_goneIn_29 : decode cX10_goneIn 29 = .ok (.iaload, 1) := by decide +kernel
theorem dX10_goneIn_30 : decode cX10_goneIn 30 = .ok (.ifCond .le 7, 3) := by decide +kernel
theorem dX10_goneIn_33 : decode cX10_goneIn 33 = .ok (.iconst 1, 1) := by decide +kernel
theorem dX10_goneIn_34 : decode cX10_goneIn 34 = .ok (.goto 4, 3) := by decide +kernel
theorem dX10_goneIn_37 : decode cX10_goneIn 37 = .ok (.iconst 0, 1) := by decide +kernel
theorem dX10_goneIn_38 : decode cX10_goneIn 38 = .ok (.istore_n 3, 1) := by decide +kernel
theorem dX10_goneIn_39 : decode cX10_goneIn 39 = .ok (.iconst 1, 1) := by decide +kernel
theorem dX10_goneIn_40 : decode cX10_goneIn 40 = .ok (.istore 4, 2) := by decide +kernel
theorem dX10_goneIn_42 : decode cX10_goneIn 42 = .ok (.iload 4, 2) := by decide +kernel
theorem dX10_goneIn_44 : decode cX10_goneIn 44 = .ok (.sipush 200, 3) := by decide +kernel
theorem dX10_goneIn_47 : decode cX10_goneIn 47 = .ok (.if_icmp .gt 49, 3) := by decide +kernel
theorem dX10_goneIn_50 : decode cX10_goneIn 50 = .ok (.iload_n 3, 1) := by decide +kernel
theorem dX10_goneIn_51 : decode cX10_goneIn 51 = .ok (.ifCond .eq 45, 3) := by decide +kernel
theorem dX10_goneIn_54 : decode cX10_goneIn 54 = .ok (.aload_n 0, 1) := by decide +kernel
theorem dX10_goneIn_55 : decode cX10_goneIn 55 = .ok (.iconst 0, 1) := by decide +kernel
theorem dX10_goneIn_56 : decode cX10_goneIn 56 = .ok (.invokevirtual 60, 3) := by decide +kernel
theorem dX10_goneIn_59 : decode cX10_goneIn 59 = .ok (.istore 5, 2) := by decide +kernel
theorem dX10_goneIn_61 : decode cX10_goneIn 61 = .ok (.aload_n 0, 1) := by decide +kernel
theorem dX10_goneIn_62 : decode cX10_goneIn 62 = .ok (.getfield 7, 3) := by decide +kernel
theorem dX10_goneIn_65 : decode cX10_goneIn 65 = .ok (.bipush 12, 2) := by decide +kernel
theorem dX10_goneIn_67 : decode cX10_goneIn 67 = .ok (.iload_n 1, 1) := by decide +kernel
theorem dX10_goneIn_68 : decode cX10_goneIn 68 = .ok (.iadd, 1) := by decide +kernel
theorem dX10_goneIn_69 : decode cX10_goneIn 69 = .ok (.iaload, 1) := by decide +kernel
theorem dX10_goneIn_70 : decode cX10_goneIn 70 = .ok (.ifCond .le 7, 3) := by decide +kernel
theorem dX10_goneIn_73 : decode cX10_goneIn 73 = .ok (.iconst 1, 1) := by decide +kernel
theorem dX10_goneIn_74 : decode cX10_goneIn 74 = .ok (.goto 4, 3) := by decide +kernel
theorem dX10_goneIn_77 : decode cX10_goneIn 77 = .ok (.iconst 0, 1) := by decide +kernel
theorem dX10_goneIn_78 : decode cX10_goneIn 78 = .ok (.istore_n 3, 1) := by decide +kernel
theorem dX10_goneIn_79 : decode cX10_goneIn 79 = .ok (.iload_n 3, 1) := by decide +kernel
theorem dX10_goneIn_80 : decode cX10_goneIn 80 = .ok (.ifCond .eq 7, 3) := by decide +kernel
theorem dX10_goneIn_83 : decode cX10_goneIn 83 = .ok (.iconst (-1), 1) := by decide +kernel
theorem dX10_goneIn_84 : decode cX10_goneIn 84 = .ok (.goto 5, 3) := by decide +kernel
theorem dX10_goneIn_87 : decode cX10_goneIn 87 = .ok (.iload 4, 2) := by decide +kernel
theorem dX10_goneIn_89 : decode cX10_goneIn 89 = .ok (.istore_n 2, 1) := by decide +kernel
theorem dX10_goneIn_90 : decode cX10_goneIn 90 = .ok (.iinc 4 1, 3) := by decide +kernel
theorem dX10_goneIn_93 : decode cX10_goneIn 93 = .ok (.goto (-51), 3) := by decide +kernel
theorem dX10_goneIn_96 : decode cX10_goneIn 96 = .ok (.aload_n 0, 1) := by decide +kernel
theorem dX10_goneIn_97 : decode cX10_goneIn 97 = .ok (.invokevirtual 156, 3) := by decide +kernel
theorem dX10_goneIn_100 : decode cX10_goneIn 100 = .ok (.iload_n 2, 1) := by decide +kernel
theorem dX10_goneIn_101 : decode cX10_goneIn 101 = .ok (.ireturn, 1) := by decide +kernel
theorem dX10_best_0 : decode cX10_best 0 = .ok (.iconst (-1), 1) := by decide +kernel
theorem dX10_best_1 : decode cX10_best 1 = .ok (.istore_n 1, 1) := by decide +kernel
theorem dX10_best_2 : decode cX10_best 2 = .ok (.iconst 0, 1) := by decide +kernel
theorem dX10_best_3 : decode cX10_best 3 = .ok (.istore_n 2, 1) := by decide +kernel
theorem dX10_best_4 : decode cX10_best 4 = .ok (.aload_n 0, 1) := by decide +kernel
theorem dX10_best_5 : decode cX10_best 5 = .ok (.invokevirtual 153, 3) := by decide +kernel
theorem dX10_best_8 : decode cX10_best 8 = .ok (.aload_n 0, 1) := by decide +kernel
theorem dX10_best_9 : decode cX10_best 9 = .ok (.bipush 12, 2) := by decide +kernel
theorem dX10_best_11 : decode cX10_best 11 = .ok (.iconst 0, 1) := by decide +kernel
theorem dX10_best_12 : decode cX10_best 12 = .ok (.invokevirtual 116, 3) := by decide +kernel
theorem dX10_best_15 : decode cX10_best 15 = .ok (.istore_n 3, 1) := by decide +kernel
theorem dX10_best_16 : decode cX10_best 16 = .ok (.aload_n 0, 1) := by decide +kernel
theorem dX10_best_17 : decode cX10_best 17 = .ok (.invokevirtual 156, 3) := by decide +kernel
theorem dX10_best_20 : decode cX10_best 20 = .ok (.iconst 0, 1) := by decide +kernel
theorem dX10_best_21 : decode cX10_best 21 = .ok (.istore 4, 2) := by decide +kernel
theorem dX10_best_23 : decode cX10_best 23 = .ok (.iload 4, 2) := by decide +kernel
theorem dX10_best_25 : decode cX10_best 25 = .ok (.bipush 8, 2) := by decide +kernel
theorem dX10_best_27 : decode cX10_best 27 = .ok (.if_icmp .ge 74, 3) := by decide +kernel
theorem dX10_best_30 : decode cX10_best 30 = .ok (.aload_n 0, 1) := by decide +kernel
theorem dX10_best_31 : decode cX10_best 31 = .ok (.getfield 7, 3) := by decide +kernel
theorem dX10_best_34 : decode cX10_best 34 = .ok (.bipush 20, 2) := by decide +kernel
theorem dX10_best_36 : decode cX10_best 36 = .ok (.iload 4, 2) := by decide +kernel
theorem dX10_best_38 : decode cX10_best 38 = .ok (.iadd, 1) := by decide +kernel
theorem dX10_best_39 : decode cX10_best 39 = .ok (.iaload, 1) := by decide +kernel
theorem dX10_best_40 : decode cX10_best 40 = .ok (.ifCond .ne 55, 3) := by decide +kernel
theorem dX10_best_43 : decode cX10_best 43 = .ok (.aload_n 0, 1) := by decide +kernel
theorem dX10_best_44 : decode cX10_best 44 = .ok (.getfield 7, 3) := by decide +kernel
theorem dX10_best_47 : decode cX10_best 47 = .ok (.bipush 20, 2) := by decide +kernel
theorem dX10_best_49 : decode cX10_best 49 = .ok (.iload 4, 2) := by decide +kernel
theorem dX10_best_51 : decode cX10_best 51 = .ok (.iadd, 1) := by decide +kernel
theorem dX10_best_52 : decode cX10_best 52 = .ok (.iconst 1, 1) := by decide +kernel
theorem dX10_best_53 : decode cX10_best 53 = .ok (.iastore, 1) := by decide +kernel
theorem dX10_best_54 : decode cX10_best 54 = .ok (.iload_n 3, 1) := by decide +kernel
theorem dX10_best_55 : decode cX10_best 55 = .ok (.aload_n 0, 1) := by decide +kernel
theorem dX10_best_56 : decode cX10_best 56 = .ok (.bipush 12, 2) := by decide +kernel
theorem dX10_best_58 : decode cX10_best 58 = .ok (.iconst 0, 1) := by decide +kernel
theorem dX10_best_59 : decode cX10_best 59 = .ok (.invokevirtual 116, 3) := by decide +kernel
theorem dX10_best_62 : decode cX10_best 62 = .ok (.isub, 1) := by decide +kernel
theorem dX10_best_63 : decode cX10_best 63 = .ok (.istore 5, 2) := by decide +kernel
theorem dX10_best_65 : decode cX10_best 65 = .ok (.aload_n 0, 1) := by decide +kernel
theorem dX10_best_66 : decode cX10_best 66 = .ok (.invokevirtual 156, 3) := by decide +kernel
theorem dX10_best_69 : decode cX10_best 69 = .ok (.iload 5, 2) := by decide +kernel
theorem dX10_best_71 : decode cX10_best 71 = .ok (.iload_n 2, 1) := by decide +kernel
theorem dX10_best_72 : decode cX10_best 72 = .ok (.if_icmp .le 8, 3) := by decide +kernel
theorem dX10_best_75 : decode cX10_best 75 = .ok (.iload 4, 2) := by decide +kernel
theorem dX10_best_77 : decode cX10_best 77 = .ok (.goto 4, 3) := by decide +kernel
theorem dX10_best_80 : decode cX10_best 80 = .ok (.iload_n 1, 1) := by decide +kernel
theorem dX10_best_81 : decode cX10_best 81 = .ok (.istore_n 1, 1) := by decide +kernel
theorem dX10_best_82 : decode cX10_best 82 = .ok (.iload 5, 2) := by decide +kernel
theorem dX10_best_84 : decode cX10_best 84 = .ok (.iload_n 2, 1) := by decide +kernel
theorem dX10_best_85 : decode cX10_best 85 = .ok (.if_icmp .le 8, 3) := by decide +kernel
theorem dX10_best_88 : decode cX10_best 88 = .ok (.iload 5, 2) := by decide +kernel
theorem dX10_best_90 : decode cX10_best 90 = .ok (.goto 4, 3) := by decide +kernel
theorem dX10_best_93 : decode cX10_best 93 = .ok (.iload_n 2, 1) := by decide +kernel
theorem dX10_best_94 : decode cX10_best 94 = .ok (.istore_n 2, 1) := by decide +kernel
theorem dX10_best_95 : decode cX10_best 95 = .ok (.iinc 4 1, 3) := by decide +kernel
theorem dX10_best_98 : decode cX10_best 98 = .ok (.goto (-75), 3) := by decide +kernel
theorem dX10_best_101 : decode cX10_best 101 = .ok (.iload_n 1, 1) := by decide +kernel
theorem dX10_best_102 : decode cX10_best 102 = .ok (.ireturn, 1) := by decide +kernel
theorem dX10_bestWall_0 : decode cX10_bestWall 0 = .ok (.aload_n 0, 1) := by decide +kernel
theorem dX10_bestWall_1 : decode cX10_bestWall 1 = .ok (.iconst 0, 1) := by decide +kernel
theorem dX10_bestWall_2 : decode cX10_bestWall 2 = .ok (.putfield 29, 3) := by decide +kernel
theorem dX10_bestWall_5 : decode cX10_bestWall 5 = .ok (.aload_n 0, 1) := by decide +kernel
theorem dX10_bestWall_6 : decode cX10_bestWall 6 = .ok (.invokevirtual 159, 3) := by decide +kernel
theorem dX10_bestWall_9 : decode cX10_bestWall 9 = .ok (.ireturn, 1) := by decide +kernel
theorem dX10_minutesFor_0 : decode cX10_minutesFor 0 = .ok (.aload_n 0, 1) := by decide +kernel
theorem dX10_minutesFor_1 : decode cX10_minutesFor 1 = .ok (.aload_n 0, 1) := by decide +kernel
theorem dX10_minutesFor_2 : decode cX10_minutesFor 2 = .ok (.iload_n 1, 1) := by decide +kernel
theorem dX10_minutesFor_3 : decode cX10_minutesFor 3 = .ok (.invokevirtual 99, 3) := by decide +kernel
theorem dX10_minutesFor_6 : decode cX10_minutesFor 6 = .ok (.iload_n 2, 1) := by decide +kernel
theorem dX10_minutesFor_7 : decode cX10_minutesFor 7 = .ok (.iconst 0, 1) := by decide +kernel
theorem dX10_minutesFor_8 : decode cX10_minutesFor 8 = .ok (.sipush 9999, 3) := by decide +kernel
theorem dX10_minutesFor_11 : decode cX10_minutesFor 11 = .ok (.invokestatic 36, 3) := by decide +kernel
theorem dX10_minutesFor_14 : decode cX10_minutesFor 14 = .ok (.iconst 1, 1) := by decide +kernel
theorem dX10_minutesFor_15 : decode cX10_minutesFor 15 = .ok (.invokevirtual 64, 3) := by decide +kernel
theorem dX10_minutesFor_18 : decode cX10_minutesFor 18 = .ok (.ifCond .eq 7, 3) := by decide +kernel
theorem dX10_minutesFor_21 : decode cX10_minutesFor 21 = .ok (.iconst 0, 1) := by decide +kernel
theorem dX10_minutesFor_22 : decode cX10_minutesFor 22 = .ok (.goto 17, 3) := by decide +kernel
theorem dX10_minutesFor_25 : decode cX10_minutesFor 25 = .ok (.iload_n 2, 1) := by decide +kernel
theorem dX10_minutesFor_26 : decode cX10_minutesFor 26 = .ok (.aload_n 0, 1) := by decide +kernel
theorem dX10_minutesFor_27 : decode cX10_minutesFor 27 = .ok (.getfield 7, 3) := by decide +kernel
theorem dX10_minutesFor_30 : decode cX10_minutesFor 30 = .ok (.sipush 140, 3) := by decide +kernel
theorem dX10_minutesFor_33 : decode cX10_minutesFor 33 = .ok (.iload_n 1, 1) := by decide +kernel
theorem dX10_minutesFor_34 : decode cX10_minutesFor 34 = .ok (.iadd, 1) := by decide +kernel
theorem dX10_minutesFor_35 : decode cX10_minutesFor 35 = .ok (.iaload, 1) := by decide +kernel
theorem dX10_minutesFor_36 : decode cX10_minutesFor 36 = .ok (.invokestatic 96, 3) := by decide +kernel
theorem dX10_minutesFor_39 : decode cX10_minutesFor 39 = .ok (.ireturn, 1) := by decide +kernel
theorem dX10_type_0 : decode cX10_type 0 = .ok (.aload_n 0, 1) := by decide +kernel
theorem dX10_type_1 : decode cX10_type 1 = .ok (.iload_n 1, 1) := by decide +kernel
theorem dX10_type_2 : decode cX10_type 2 = .ok (.iconst 0, 1) := by decide +kernel
theorem dX10_type_3 : decode cX10_type 3 = .ok (.bipush 127, 2) := by decide +kernel
theorem dX10_type_5 : decode cX10_type 5 = .ok (.invokestatic 36, 3) := by decide +kernel
theorem dX10_type_8 : decode cX10_type 8 = .ok (.aload_n 0, 1) := by decide +kernel
theorem dX10_type_9 : decode cX10_type 9 = .ok (.getfield 132, 3) := by decide +kernel
theorem dX10_type_12 : decode cX10_type 12 = .ok (.sipush 150, 3) := by decide +kernel
theorem dX10_type_15 : decode cX10_type 15 = .ok (.if_icmp .ge 7, 3) := by decide +kernel
theorem dX10_type_18 : decode cX10_type 18 = .ok (.iconst 1, 1) := by decide +kernel
theorem dX10_type_19 : decode cX10_type 19 = .ok (.goto 4, 3) := by decide +kernel
theorem dX10_type_22 : decode cX10_type 22 = .ok (.iconst 0, 1) := by decide +kernel
theorem dX10_type_23 : decode cX10_type 23 = .ok (.iconst 1, 1) := by decide +kernel
theorem dX10_type_24 : decode cX10_type 24 = .ok (.invokevirtual 64, 3) := by decide +kernel
theorem dX10_type_27 : decode cX10_type 27 = .ok (.ifCond .eq 5, 3) := by decide +kernel
theorem dX10_type_30 : decode cX10_type 30 = .ok (.iconst 0, 1) := by decide +kernel
theorem dX10_type_31 : decode cX10_type 31 = .ok (.ireturn, 1) := by decide +kernel
theorem dX10_type_32 : decode cX10_type 32 = .ok (.aload_n 0, 1) := by decide +kernel
theorem dX10_type_33 : decode cX10_type 33 = .ok (.getfield 22, 3) := by decide +kernel
theorem dX10_type_36 : decode cX10_type 36 = .ok (.aload_n 0, 1) := by decide +kernel
theorem dX10_type_37 : decode cX10_type 37 = .ok (.getfield 132, 3) := by decide +kernel
theorem dX10_type_40 : decode cX10_type 40 = .ok (.iload_n 1, 1) := by decide +kernel
theorem dX10_type_41 : decode cX10_type 41 = .ok (.i2b, 1) := by decide +kernel
theorem dX10_type_42 : decode cX10_type 42 = .ok (.bastore, 1) := by decide +kernel
theorem dX10_type_43 : decode cX10_type 43 = .ok (.aload_n 0, 1) := by decide +kernel
theorem dX10_type_44 : decode cX10_type 44 = .ok (.dup, 1) := by decide +kernel
theorem dX10_type_45 : decode cX10_type 45 = .ok (.getfield 132, 3) := by decide +kernel
theorem dX10_type_48 : decode cX10_type 48 = .ok (.iconst 1, 1) := by decide +kernel
theorem dX10_type_49 : decode cX10_type 49 = .ok (.iadd, 1) := by decide +kernel
theorem dX10_type_50 : decode cX10_type 50 = .ok (.putfield 132, 3) := by decide +kernel
theorem dX10_type_53 : decode cX10_type 53 = .ok (.aload_n 0, 1) := by decide +kernel
theorem dX10_type_54 : decode cX10_type 54 = .ok (.getfield 132, 3) := by decide +kernel
theorem dX10_type_57 : decode cX10_type 57 = .ok (.ireturn, 1) := by decide +kernel
theorem dX10_clearOrders_0 : decode cX10_clearOrders 0 = .ok (.aload_n 0, 1) := by decide +kernel
theorem dX10_clearOrders_1 : decode cX10_clearOrders 1 = .ok (.iconst 0, 1) := by decide +kernel
theorem dX10_clearOrders_2 : decode cX10_clearOrders 2 = .ok (.putfield 29, 3) := by decide +kernel
theorem dX10_clearOrders_5 : decode cX10_clearOrders 5 = .ok (.aload_n 0, 1) := by decide +kernel
theorem dX10_clearOrders_6 : decode cX10_clearOrders 6 = .ok (.getfield 132, 3) := by decide +kernel
theorem dX10_clearOrders_9 : decode cX10_clearOrders 9 = .ok (.istore_n 1, 1) := by decide +kernel
theorem dX10_clearOrders_10 : decode cX10_clearOrders 10 = .ok (.aload_n 0, 1) := by decide +kernel
theorem dX10_clearOrders_11 : decode cX10_clearOrders 11 = .ok (.iconst 0, 1) := by decide +kernel
theorem dX10_clearOrders_12 : decode cX10_clearOrders 12 = .ok (.putfield 132, 3) := by decide +kernel
theorem dX10_clearOrders_15 : decode cX10_clearOrders 15 = .ok (.iload_n 1, 1) := by decide +kernel
theorem dX10_clearOrders_16 : decode cX10_clearOrders 16 = .ok (.ireturn, 1) := by decide +kernel
theorem dX10_isAt_0 : decode cX10_isAt 0 = .ok (.aload_n 0, 1) := by decide +kernel
theorem dX10_isAt_1 : decode cX10_isAt 1 = .ok (.getfield 162, 3) := by decide +kernel
theorem dX10_isAt_4 : decode cX10_isAt 4 = .ok (.aload_n 0, 1) := by decide +kernel
theorem dX10_isAt_5 : decode cX10_isAt 5 = .ok (.getfield 132, 3) := by decide +kernel
theorem dX10_isAt_8 : decode cX10_isAt 8 = .ok (.if_icmp .ge 24, 3) := by decide +kernel
theorem dX10_isAt_11 : decode cX10_isAt 11 = .ok (.aload_n 0, 1) := by decide +kernel
theorem dX10_isAt_12 : decode cX10_isAt 12 = .ok (.getfield 22, 3) := by decide +kernel
theorem dX10_isAt_15 : decode cX10_isAt 15 = .ok (.aload_n 0, 1) := by decide +kernel
theorem dX10_isAt_16 : decode cX10_isAt 16 = .ok (.getfield 162, 3) := by decide +kernel
theorem dX10_isAt_19 : decode cX10_isAt 19 = .ok (.baload, 1) := by decide +kernel
theorem dX10_isAt_20 : decode cX10_isAt 20 = .ok (.iload_n 1, 1) := by decide +kernel
theorem dX10_isAt_21 : decode cX10_isAt 21 = .ok (.iload_n 2, 1) := by decide +kernel
theorem dX10_isAt_22 : decode cX10_isAt 22 = .ok (.invokestatic 36, 3) := by decide +kernel
theorem dX10_isAt_25 : decode cX10_isAt 25 = .ok (.ifCond .eq 7, 3) := by decide +kernel
theorem dX10_isAt_28 : decode cX10_isAt 28 = .ok (.iconst 1, 1) := by decide +kernel
theorem dX10_isAt_29 : decode cX10_isAt 29 = .ok (.goto 4, 3) := by decide +kernel
theorem dX10_isAt_32 : decode cX10_isAt 32 = .ok (.iconst 0, 1) := by decide +kernel
theorem dX10_isAt_33 : decode cX10_isAt 33 = .ok (.ireturn, 1) := by decide +kernel
theorem dX10_passSpaces_0 : decode cX10_passSpaces 0 = .ok (.aload_n 0, 1) := by decide +kernel
theorem dX10_passSpaces_1 : decode cX10_passSpaces 1 = .ok (.bipush 32, 2) := by decide +kernel
theorem dX10_passSpaces_3 : decode cX10_passSpaces 3 = .ok (.bipush 32, 2) := by decide +kernel
theorem dX10_passSpaces_5 : decode cX10_passSpaces 5 = .ok (.invokevirtual 165, 3) := by decide +kernel
theorem dX10_passSpaces_8 : decode cX10_passSpaces 8 = .ok (.ifCond .eq 16, 3) := by decide +kernel
theorem dX10_passSpaces_11 : decode cX10_passSpaces 11 = .ok (.aload_n 0, 1) := by decide +kernel
theorem dX10_passSpaces_12 : decode cX10_passSpaces 12 = .ok (.dup, 1) := by decide +kernel
theorem dX10_passSpaces_13 : decode cX10_passSpaces 13 = .ok (.getfield 162, 3) := by decide +kernel
theorem dX10_passSpaces_16 : decode cX10_passSpaces 16 = .ok (.iconst 1, 1) := by decide +kernel
theorem dX10_passSpaces_17 : decode cX10_passSpaces 17 = .ok (.iadd, 1) := by decide +kernel
theorem dX10_passSpaces_18 : decode cX10_passSpaces 18 = .ok (.putfield 162, 3) := by decide +kernel
theorem dX10_passSpaces_21 : decode cX10_passSpaces 21 = .ok (.goto (-21), 3) := by decide +kernel
theorem dX10_passSpaces_24 : decode cX10_passSpaces 24 = .ok (.return_, 1) := by decide +kernel
theorem dX10_wordOf_0 : decode cX10_wordOf 0 = .ok (.iload_n 0, 1) := by decide +kernel
theorem dX10_wordOf_1 : decode cX10_wordOf 1 = .ok (.lookupswitch 104 #[(14432, 95), (384611, 83), (405012, 89), (453774, 93), (670208, 101), (1627727, 91), (1842025, 98), (8861527, 85), (10491860, 87)], 83) := by decide +kernel
theorem dX10_wordOf_84 : decode cX10_wordOf 84 = .ok (.iconst 0, 1) := by decide +kernel
theorem dX10_wordOf_85 : decode cX10_wordOf 85 = .ok (.ireturn, 1) := by decide +kernel
theorem dX10_wordOf_86 : decode cX10_wordOf 86 = .ok (.iconst 1, 1) := by decide +kernel
theorem dX10_wordOf_87 : decode cX10_wordOf 87 = .ok (.ireturn, 1) := by decide +kernel
theorem dX10_wordOf_88 : decode cX10_wordOf 88 = .ok (.iconst 2, 1) := by decide +kernel
theorem dX10_wordOf_89 : decode cX10_wordOf 89 = .ok (.ireturn, 1) := by decide +kernel
theorem dX10_wordOf_90 : decode cX10_wordOf 90 = .ok (.iconst 3, 1) := by decide +kernel
theorem dX10_wordOf_91 : decode cX10_wordOf 91 = .ok (.ireturn, 1) := by decide +kernel
theorem dX10_wordOf_92 : decode cX10_wordOf 92 = .ok (.iconst 4, 1) := by decide +kernel
theorem dX10_wordOf_93 : decode cX10_wordOf 93 = .ok (.ireturn, 1) := by decide +kernel
theorem dX10_wordOf_94 : decode cX10_wordOf 94 = .ok (.iconst 5, 1) := by decide +kernel
theorem dX10_wordOf_95 : decode cX10_wordOf 95 = .ok (.ireturn, 1) := by decide +kernel
theorem dX10_wordOf_96 : decode cX10_wordOf 96 = .ok (.bipush 6, 2) := by decide +kernel
theorem dX10_wordOf_98 : decode cX10_wordOf 98 = .ok (.ireturn, 1) := by decide +kernel
theorem dX10_wordOf_99 : decode cX10_wordOf 99 = .ok (.bipush 7, 2) := by decide +kernel
theorem dX10_wordOf_101 : decode cX10_wordOf 101 = .ok (.ireturn, 1) := by decide +kernel
theorem dX10_wordOf_102 : decode cX10_wordOf 102 = .ok (.bipush 8, 2) := by decide +kernel
theorem dX10_wordOf_104 : decode cX10_wordOf 104 = .ok (.ireturn, 1) := by decide +kernel
theorem dX10_wordOf_105 : decode cX10_wordOf 105 = .ok (.iconst (-1), 1) := by decide +kernel
theorem dX10_wordOf_106 : decode cX10_wordOf 106 = .ok (.ireturn, 1) := by decide +kernel
theorem dX10_numbersOf_0 : decode cX10_numbersOf 0 = .ok (.iload_n 0, 1) := by decide +kernel
theorem dX10_numbersOf_1 : decode cX10_numbersOf 1 = .ok (.bipush 8, 2) := by decide +kernel
theorem dX10_numbersOf_3 : decode cX10_numbersOf 3 = .ok (.if_icmp .ne 7, 3) := by decide +kernel
theorem dX10_numbersOf_6 : decode cX10_numbersOf 6 = .ok (.iconst 0, 1) := by decide +kernel
theorem dX10_numbersOf_7 : decode cX10_numbersOf 7 = .ok (.goto 27, 3) := by decide +kernel
theorem dX10_numbersOf_10 : decode cX10_numbersOf 10 = .ok (.iload_n 0, 1) := by decide +kernel
theorem dX10_numbersOf_11 : decode cX10_numbersOf 11 = .ok (.iconst 4, 1) := by decide +kernel
theorem dX10_numbersOf_12 : decode cX10_numbersOf 12 = .ok (.if_icmp .ne 7, 3) := by decide +kernel
theorem dX10_numbersOf_15 : decode cX10_numbersOf 15 = .ok (.iconst 4, 1) := by decide +kernel
theorem dX10_numbersOf_16 : decode cX10_numbersOf 16 = .ok (.goto 18, 3) := by decide +kernel
theorem dX10_numbersOf_19 : decode cX10_numbersOf 19 = .ok (.iload_n 0, 1) := by decide +kernel
theorem dX10_numbersOf_20 : decode cX10_numbersOf 20 = .ok (.iconst 1, 1) := by decide +kernel
theorem dX10_numbersOf_21 : decode cX10_numbersOf 21 = .ok (.if_icmp .eq 8, 3) := by decide +kernel
theorem dX10_numbersOf_24 : decode cX10_numbersOf 24 = .ok (.iload_n 0, 1) := by decide +kernel
theorem dX10_numbersOf_25 : decode cX10_numbersOf 25 = .ok (.iconst 2, 1) := by decide +kernel
theorem dX10_numbersOf_26 : decode cX10_numbersOf 26 = .ok (.if_icmp .ne 7, 3) := by decide +kernel
theorem dX10_numbersOf_29 : decode cX10_numbersOf 29 = .ok (.iconst 2, 1) := by decide +kernel
theorem dX10_numbersOf_30 : decode cX10_numbersOf 30 = .ok (.goto 4, 3) := by decide +kernel
theorem dX10_numbersOf_33 : decode cX10_numbersOf 33 = .ok (.iconst 1, 1) := by decide +kernel
theorem dX10_numbersOf_34 : decode cX10_numbersOf 34 = .ok (.ireturn, 1) := by decide +kernel
theorem dX10_due_0 : decode cX10_due 0 = .ok (.aload_n 0, 1) := by decide +kernel
theorem dX10_due_1 : decode cX10_due 1 = .ok (.aload_n 0, 1) := by decide +kernel
theorem dX10_due_2 : decode cX10_due 2 = .ok (.getfield 168, 3) := by decide +kernel
theorem dX10_due_5 : decode cX10_due 5 = .ok (.iconst (-1), 1) := by decide +kernel
theorem dX10_due_6 : decode cX10_due 6 = .ok (.if_icmp .ne 14, 3) := by decide +kernel
theorem dX10_due_9 : decode cX10_due 9 = .ok (.iload_n 1, 1) := by decide +kernel
theorem dX10_due_10 : decode cX10_due 10 = .ok (.ifCond .ne 10, 3) := by decide +kernel
theorem dX10_due_13 : decode cX10_due 13 = .ok (.aload_n 0, 1) := by decide +kernel
theorem dX10_due_14 : decode cX10_due 14 = .ok (.getfield 162, 3) := by decide +kernel
theorem dX10_due_17 : decode cX10_due 17 = .ok (.goto 7, 3) := by decide +kernel
theorem dX10_due_20 : decode cX10_due 20 = .ok (.aload_n 0, 1) := by decide +kernel
theorem dX10_due_21 : decode cX10_due 21 = .ok (.getfield 168, 3) := by decide +kernel
theorem dX10_due_24 : decode cX10_due 24 = .ok (.putfield 168, 3) := by decide +kernel
theorem dX10_due_27 : decode cX10_due 27 = .ok (.aload_n 0, 1) := by decide +kernel
theorem dX10_due_28 : decode cX10_due 28 = .ok (.getfield 168, 3) := by decide +kernel
theorem dX10_due_31 : decode cX10_due 31 = .ok (.iconst (-1), 1) := by decide +kernel
theorem dX10_due_32 : decode cX10_due 32 = .ok (.if_icmp .ne 7, 3) := by decide +kernel
theorem dX10_due_35 : decode cX10_due 35 = .ok (.iconst 1, 1) := by decide +kernel
theorem dX10_due_36 : decode cX10_due 36 = .ok (.goto 4, 3) := by decide +kernel
theorem dX10_due_39 : decode cX10_due 39 = .ok (.iconst 0, 1) := by decide +kernel
theorem dX10_due_40 : decode cX10_due 40 = .ok (.ireturn, 1) := by decide +kernel
theorem dX10_readWord_0 : decode cX10_readWord 0 = .ok (.aload_n 0, 1) := by decide +kernel
theorem dX10_readWord_1 : decode cX10_readWord 1 = .ok (.getfield 162, 3) := by decide +kernel
theorem dX10_readWord_4 : decode cX10_readWord 4 = .ok (.istore_n 1, 1) := by decide +kernel
theorem dX10_readWord_5 : decode cX10_readWord 5 = .ok (.iconst 0, 1) := by decide +kernel
theorem dX10_readWord_6 : decode cX10_readWord 6 = .ok (.istore_n 2, 1) := by decide +kernel
theorem dX10_readWord_7 : decode cX10_readWord 7 = .ok (.aload_n 0, 1) := by decide +kernel
theorem dX10_readWord_8 : decode cX10_readWord 8 = .ok (.bipush 97, 2) := by decide +kernel
theorem dX10_readWord_10 : decode cX10_readWord 10 = .ok (.bipush 122, 2) := by decide +kernel
theorem dX10_readWord_12 : decode cX10_readWord 12 = .ok (.invokevirtual 165, 3) := by decide +kernel
theorem dX10_readWord_15 : decode cX10_readWord 15 = .ok (.ifCond .eq 48, 3) := by decide +kernel
theorem dX10_readWord_18 : decode cX10_readWord 18 = .ok (.aload_n 0, 1) := by decide +kernel
theorem dX10_readWord_19 : decode cX10_readWord 19 = .ok (.getfield 162, 3) := by decide +kernel
theorem dX10_readWord_22 : decode cX10_readWord 22 = .ok (.iload_n 1, 1) := by decide +kernel
theorem dX10_readWord_23 : decode cX10_readWord 23 = .ok (.isub, 1) := by decide +kernel
theorem dX10_readWord_24 : decode cX10_readWord 24 = .ok (.iconst 5, 1) := by decide +kernel
theorem dX10_readWord_25 : decode cX10_readWord 25 = .ok (.if_icmp .ge 23, 3) := by decide +kernel
theorem dX10_readWord_28 : decode cX10_readWord 28 = .ok (.bipush 27, 2) := by decide +kernel
theorem dX10_readWord_30 : decode cX10_readWord 30 = .ok (.iload_n 2, 1) := by decide +kernel
theorem dX10_readWord_31 : decode cX10_readWord 31 = .ok (.imul, 1) := by decide +kernel
theorem dX10_readWord_32 : decode cX10_readWord 32 = .ok (.aload_n 0, 1) := by decide +kernel
theorem dX10_readWord_33 : decode cX10_readWord 33 = .ok (.getfield 22, 3) := by decide +kernel
theorem dX10_readWord_36 : decode cX10_readWord 36 = .ok (.aload_n 0, 1) := by decide +kernel
theorem dX10_readWord_37 : decode cX10_readWord 37 = .ok (.getfield 162, 3) := by decide +kernel
theorem dX10_readWord_40 : decode cX10_readWord 40 = .ok (.baload, 1) := by decide +kernel
theorem dX10_readWord_41 : decode cX10_readWord 41 = .ok (.iadd, 1) := by decide +kernel
theorem dX10_readWord_42 : decode cX10_readWord 42 = .ok (.bipush 96, 2) := by decide +kernel
theorem dX10_readWord_44 : decode cX10_readWord 44 = .ok (.isub, 1) := by decide +kernel
theorem dX10_readWord_45 : decode cX10_readWord 45 = .ok (.goto 4, 3) := by decide +kernel
theorem dX10_readWord_48 : decode cX10_readWord 48 = .ok (.iconst 0, 1) := by decide +kernel
theorem dX10_readWord_49 : decode cX10_readWord 49 = .ok (.istore_n 2, 1) := by decide +kernel
theorem dX10_readWord_50 : decode cX10_readWord 50 = .ok (.aload_n 0, 1) := by decide +kernel
theorem dX10_readWord_51 : decode cX10_readWord 51 = .ok (.dup, 1) := by decide +kernel
theorem dX10_readWord_52 : decode cX10_readWord 52 = .ok (.getfield 162, 3) := by decide +kernel
theorem dX10_readWord_55 : decode cX10_readWord 55 = .ok (.iconst 1, 1) := by decide +kernel
theorem dX10_readWord_56 : decode cX10_readWord 56 = .ok (.iadd, 1) := by decide +kernel
theorem dX10_readWord_57 : decode cX10_readWord 57 = .ok (.putfield 162, 3) := by decide +kernel
theorem dX10_readWord_60 : decode cX10_readWord 60 = .ok (.goto (-53), 3) := by decide +kernel
theorem dX10_readWord_63 : decode cX10_readWord 63 = .ok (.aload_n 0, 1) := by decide +kernel
theorem dX10_readWord_64 : decode cX10_readWord 64 = .ok (.aload_n 0, 1) := by decide +kernel
theorem dX10_readWord_65 : decode cX10_readWord 65 = .ok (.getfield 162, 3) := by decide +kernel
theorem dX10_readWord_68 : decode cX10_readWord 68 = .ok (.iload_n 1, 1) := by decide +kernel
theorem dX10_readWord_69 : decode cX10_readWord 69 = .ok (.isub, 1) := by decide +kernel
theorem dX10_readWord_70 : decode cX10_readWord 70 = .ok (.iconst 5, 1) := by decide +kernel
theorem dX10_readWord_71 : decode cX10_readWord 71 = .ok (.if_icmp .le 7, 3) := by decide +kernel
theorem dX10_readWord_74 : decode cX10_readWord 74 = .ok (.iconst 0, 1) := by decide +kernel
theorem dX10_readWord_75 : decode cX10_readWord 75 = .ok (.goto 4, 3) := by decide +kernel
theorem dX10_readWord_78 : decode cX10_readWord 78 = .ok (.iload_n 2, 1) := by decide +kernel
theorem dX10_readWord_79 : decode cX10_readWord 79 = .ok (.invokestatic 171, 3) := by decide +kernel
theorem dX10_readWord_82 : decode cX10_readWord 82 = .ok (.putfield 174, 3) := by decide +kernel
theorem dX10_readWord_85 : decode cX10_readWord 85 = .ok (.aload_n 0, 1) := by decide +kernel
theorem dX10_readWord_86 : decode cX10_readWord 86 = .ok (.aload_n 0, 1) := by decide +kernel
theorem dX10_readWord_87 : decode cX10_readWord 87 = .ok (.getfield 174, 3) := by decide +kernel
theorem dX10_readWord_90 : decode cX10_readWord 90 = .ok (.iconst (-1), 1) := by decide +kernel
theorem dX10_readWord_91 : decode cX10_readWord 91 = .ok (.if_icmp .ne 7, 3) := by decide +kernel
theorem dX10_readWord_94 : decode cX10_readWord 94 = .ok (.iload_n 1, 1) := by decide +kernel
theorem dX10_readWord_95 : decode cX10_readWord 95 = .ok (.goto 7, 3) := by decide +kernel
theorem dX10_readWord_98 : decode cX10_readWord 98 = .ok (.aload_n 0, 1) := by decide +kernel
theorem dX10_readWord_99 : decode cX10_readWord 99 = .ok (.getfield 168, 3) := by decide +kernel
theorem dX10_readWord_102 : decode cX10_readWord 102 = .ok (.putfield 168, 3) := by decide +kernel
theorem dX10_readWord_105 : decode cX10_readWord 105 = .ok (.return_, 1) := by decide +kernel
theorem dX10_readNumber_0 : decode cX10_readNumber 0 = .ok (.aload_n 0, 1) := by decide +kernel
theorem dX10_readNumber_1 : decode cX10_readNumber 1 = .ok (.aload_n 0, 1) := by decide +kernel
theorem dX10_readNumber_2 : decode cX10_readNumber 2 = .ok (.bipush 32, 2) := by decide +kernel
theorem dX10_readNumber_4 : decode cX10_readNumber 4 = .ok (.bipush 32, 2) := by decide +kernel
theorem dX10_readNumber_6 : decode cX10_readNumber 6 = .ok (.invokevirtual 165, 3) := by decide +kernel
theorem dX10_readNumber_9 : decode cX10_readNumber 9 = .ok (.invokevirtual 177, 3) := by decide +kernel
theorem dX10_readNumber_12 : decode cX10_readNumber 12 = .ok (.ifCond .ne 5, 3) := by decide +kernel
theorem dX10_readNumber_15 : decode cX10_readNumber 15 = .ok (.iconst 0, 1) := by decide +kernel
theorem dX10_readNumber_16 : decode cX10_readNumber 16 = .ok (.ireturn, 1) := by decide +kernel
theorem dX10_readNumber_17 : decode cX10_readNumber 17 = .ok (.aload_n 0, 1) := by decide +kernel
theorem dX10_readNumber_18 : decode cX10_readNumber 18 = .ok (.invokevirtual 181, 3) := by decide +kernel
theorem dX10_readNumber_21 : decode cX10_readNumber 21 = .ok (.aload_n 0, 1) := by decide +kernel
theorem dX10_readNumber_22 : decode cX10_readNumber 22 = .ok (.aload_n 0, 1) := by decide +kernel
theorem dX10_readNumber_23 : decode cX10_readNumber 23 = .ok (.bipush 48, 2) := by decide +kernel
theorem dX10_readNumber_25 : decode cX10_readNumber 25 = .ok (.bipush 57, 2) := by decide +kernel
theorem dX10_readNumber_27 : decode cX10_readNumber 27 = .ok (.invokevirtual 165, 3) := by decide +kernel
theorem dX10_readNumber_30 : decode cX10_readNumber 30 = .ok (.invokevirtual 177, 3) := by decide +kernel
theorem dX10_readNumber_33 : decode cX10_readNumber 33 = .ok (.ifCond .ne 5, 3) := by decide +kernel
theorem dX10_readNumber_36 : decode cX10_readNumber 36 = .ok (.iconst 0, 1) := by decide +kernel
theorem dX10_readNumber_37 : decode cX10_readNumber 37 = .ok (.ireturn, 1) := by decide +kernel
theorem dX10_readNumber_38 : decode cX10_readNumber 38 = .ok (.iconst 0, 1) := by decide +kernel
theorem dX10_readNumber_39 : decode cX10_readNumber 39 = .ok (.istore_n 1, 1) := by decide +kernel
theorem dX10_readNumber_40 : decode cX10_readNumber 40 = .ok (.iconst 0, 1) := by decide +kernel
theorem dX10_readNumber_41 : decode cX10_readNumber 41 = .ok (.istore_n 2, 1) := by decide +kernel
theorem dX10_readNumber_42 : decode cX10_readNumber 42 = .ok (.iload_n 2, 1) := by decide +kernel
theorem dX10_readNumber_43 : decode cX10_readNumber 43 = .ok (.iconst 4, 1) := by decide +kernel
theorem dX10_readNumber_44 : decode cX10_readNumber 44 = .ok (.if_icmp .ge 48, 3) := by decide +kernel
theorem dX10_readNumber_47 : decode cX10_readNumber 47 = .ok (.aload_n 0, 1) := by decide +kernel
theorem dX10_readNumber_48 : decode cX10_readNumber 48 = .ok (.bipush 48, 2) := by decide +kernel
theorem dX10_readNumber_50 : decode cX10_readNumber 50 = .ok (.bipush 57, 2) := by decide +kernel
theorem dX10_readNumber_52 : decode cX10_readNumber 52 = .ok (.invokevirtual 165, 3) := by decide +kernel
theorem dX10_readNumber_55 : decode cX10_readNumber 55 = .ok (.ifCond .eq 37, 3) := by decide +kernel
theorem dX10_readNumber_58 : decode cX10_readNumber 58 = .ok (.bipush 10, 2) := by decide +kernel
theorem dX10_readNumber_60 : decode cX10_readNumber 60 = .ok (.iload_n 1, 1) := by decide +kernel
theorem dX10_readNumber_61 : decode cX10_readNumber 61 = .ok (.imul, 1) := by decide +kernel
theorem dX10_readNumber_62 : decode cX10_readNumber 62 = .ok (.aload_n 0, 1) := by decide +kernel
theorem dX10_readNumber_63 : decode cX10_readNumber 63 = .ok (.getfield 22, 3) := by decide +kernel
theorem dX10_readNumber_66 : decode cX10_readNumber 66 = .ok (.aload_n 0, 1) := by decide +kernel
theorem dX10_readNumber_67 : decode cX10_readNumber 67 = .ok (.getfield 162, 3) := by decide +kernel
theorem dX10_readNumber_70 : decode cX10_readNumber 70 = .ok (.baload, 1) := by decide +kernel
theorem dX10_readNumber_71 : decode cX10_readNumber 71 = .ok (.iadd, 1) := by decide +kernel
theorem dX10_readNumber_72 : decode cX10_readNumber 72 = .ok (.bipush 48, 2) := by decide +kernel
theorem dX10_readNumber_74 : decode cX10_readNumber 74 = .ok (.isub, 1) := by decide +kernel
theorem dX10_readNumber_75 : decode cX10_readNumber 75 = .ok (.istore_n 1, 1) := by decide +kernel
theorem dX10_readNumber_76 : decode cX10_readNumber 76 = .ok (.aload_n 0, 1) := by decide +kernel
theorem dX10_readNumber_77 : decode cX10_readNumber 77 = .ok (.dup, 1) := by decide +kernel
theorem dX10_readNumber_78 : decode cX10_readNumber 78 = .ok (.getfield 162, 3) := by decide +kernel
theorem dX10_readNumber_81 : decode cX10_readNumber 81 = .ok (.iconst 1, 1) := by decide +kernel
theorem dX10_readNumber_82 : decode cX10_readNumber 82 = .ok (.iadd, 1) := by decide +kernel
theorem dX10_readNumber_83 : decode cX10_readNumber 83 = .ok (.putfield 162, 3) := by decide +kernel
theorem dX10_readNumber_86 : decode cX10_readNumber 86 = .ok (.iinc 2 1, 3) := by decide +kernel
theorem dX10_readNumber_89 : decode cX10_readNumber 89 = .ok (.goto (-47), 3) := by decide +kernel
theorem dX10_readNumber_92 : decode cX10_readNumber 92 = .ok (.aload_n 0, 1) := by decide +kernel
theorem dX10_readNumber_93 : decode cX10_readNumber 93 = .ok (.aload_n 0, 1) := by decide +kernel
theorem dX10_readNumber_94 : decode cX10_readNumber 94 = .ok (.bipush 48, 2) := by decide +kernel
theorem dX10_readNumber_96 : decode cX10_readNumber 96 = .ok (.bipush 57, 2) := by decide +kernel
theorem dX10_readNumber_98 : decode cX10_readNumber 98 = .ok (.invokevirtual 165, 3) := by decide +kernel
theorem dX10_readNumber_101 : decode cX10_readNumber 101 = .ok (.ifCond .ne 7, 3) := by decide +kernel
theorem dX10_readNumber_104 : decode cX10_readNumber 104 = .ok (.iconst 1, 1) := by decide +kernel
theorem dX10_readNumber_105 : decode cX10_readNumber 105 = .ok (.goto 4, 3) := by decide +kernel
theorem dX10_readNumber_108 : decode cX10_readNumber 108 = .ok (.iconst 0, 1) := by decide +kernel
theorem dX10_readNumber_109 : decode cX10_readNumber 109 = .ok (.invokevirtual 177, 3) := by decide +kernel
theorem dX10_readNumber_112 : decode cX10_readNumber 112 = .ok (.istore_n 2, 1) := by decide +kernel
theorem dX10_readNumber_113 : decode cX10_readNumber 113 = .ok (.iload_n 1, 1) := by decide +kernel
theorem dX10_readNumber_114 : decode cX10_readNumber 114 = .ok (.ireturn, 1) := by decide +kernel
theorem dX10_order_0 : decode cX10_order 0 = .ok (.aload_n 0, 1) := by decide +kernel
theorem dX10_order_1 : decode cX10_order 1 = .ok (.aload_n 0, 1) := by decide +kernel
theorem dX10_order_2 : decode cX10_order 2 = .ok (.bipush 97, 2) := by decide +kernel
theorem dX10_order_4 : decode cX10_order 4 = .ok (.bipush 122, 2) := by decide +kernel
theorem dX10_order_6 : decode cX10_order 6 = .ok (.invokevirtual 165, 3) := by decide +kernel
theorem dX10_order_9 : decode cX10_order 9 = .ok (.invokevirtual 177, 3) := by decide +kernel
theorem dX10_order_12 : decode cX10_order 12 = .ok (.ifCond .ne 5, 3) := by decide +kernel
theorem dX10_order_15 : decode cX10_order 15 = .ok (.iconst 0, 1) := by decide +kernel
theorem dX10_order_16 : decode cX10_order 16 = .ok (.ireturn, 1) := by decide +kernel
theorem dX10_order_17 : decode cX10_order 17 = .ok (.aload_n 0, 1) := by decide +kernel
theorem dX10_order_18 : decode cX10_order 18 = .ok (.invokevirtual 184, 3) := by decide +kernel
theorem dX10_order_21 : decode cX10_order 21 = .ok (.iconst 0, 1) := by decide +kernel
theorem dX10_order_22 : decode cX10_order 22 = .ok (.istore_n 2, 1) := by decide +kernel
theorem dX10_order_23 : decode cX10_order 23 = .ok (.aload_n 0, 1) := by decide +kernel
theorem dX10_order_24 : decode cX10_order 24 = .ok (.getfield 168, 3) := by decide +kernel
theorem dX10_order_27 : decode cX10_order 27 = .ok (.iconst (-1), 1) := by decide +kernel
theorem dX10_order_28 : decode cX10_order 28 = .ok (.if_icmp .ne 30, 3) := by decide +kernel
theorem dX10_order_31 : decode cX10_order 31 = .ok (.iload_n 2, 1) := by decide +kernel
theorem dX10_order_32 : decode cX10_order 32 = .ok (.aload_n 0, 1) := by decide +kernel
theorem dX10_order_33 : decode cX10_order 33 = .ok (.getfield 174, 3) := by decide +kernel
theorem dX10_order_36 : decode cX10_order 36 = .ok (.invokestatic 187, 3) := by decide +kernel
theorem dX10_order_39 : decode cX10_order 39 = .ok (.if_icmp .ge 19, 3) := by decide +kernel
theorem dX10_order_42 : decode cX10_order 42 = .ok (.aload_n 0, 1) := by decide +kernel
theorem dX10_order_43 : decode cX10_order 43 = .ok (.getfield 26, 3) := by decide +kernel
theorem dX10_order_46 : decode cX10_order 46 = .ok (.iload_n 2, 1) := by decide +kernel
theorem dX10_order_47 : decode cX10_order 47 = .ok (.aload_n 0, 1) := by decide +kernel
theorem dX10_order_48 : decode cX10_order 48 = .ok (.invokevirtual 190, 3) := by decide +kernel
theorem dX10_order_51 : decode cX10_order 51 = .ok (.iastore, 1) := by decide +kernel
theorem dX10_order_52 : decode cX10_order 52 = .ok (.iinc 2 1, 3) := by decide +kernel
theorem dX10_order_55 : decode cX10_order 55 = .ok (.goto (-32), 3) := by decide +kernel
theorem dX10_order_58 : decode cX10_order 58 = .ok (.aload_n 0, 1) := by decide +kernel
theorem dX10_order_59 : decode cX10_order 59 = .ok (.getfield 168, 3) := by decide +kernel
theorem dX10_order_62 : decode cX10_order 62 = .ok (.iconst (-1), 1) := by decide +kernel
theorem dX10_order_63 : decode cX10_order 63 = .ok (.if_icmp .ne 20, 3) := by decide +kernel
theorem dX10_order_66 : decode cX10_order 66 = .ok (.aload_n 0, 1) := by decide +kernel
theorem dX10_order_67 : decode cX10_order 67 = .ok (.invokevirtual 181, 3) := by decide +kernel
theorem dX10_order_70 : decode cX10_order 70 = .ok (.aload_n 0, 1) := by decide +kernel
theorem dX10_order_71 : decode cX10_order 71 = .ok (.aload_n 0, 1) := by decide +kernel
theorem dX10_order_72 : decode cX10_order 72 = .ok (.bipush 59, 2) := by decide +kernel
theorem dX10_order_74 : decode cX10_order 74 = .ok (.bipush 59, 2) := by decide +kernel
theorem dX10_order_76 : decode cX10_order 76 = .ok (.invokevirtual 165, 3) := by decide +kernel
theorem dX10_order_79 : decode cX10_order 79 = .ok (.invokevirtual 177, 3) := by decide +kernel
theorem dX10_order_82 : decode cX10_order 82 = .ok (.istore_n 2, 1) := by decide +kernel
theorem dX10_order_83 : decode cX10_order 83 = .ok (.aload_n 0, 1) := by decide +kernel
theorem dX10_order_84 : decode cX10_order 84 = .ok (.dup, 1) := by decide +kernel
theorem dX10_order_85 : decode cX10_order 85 = .ok (.getfield 162, 3) := by decide +kernel
theorem dX10_order_88 : decode cX10_order 88 = .ok (.iconst 1, 1) := by decide +kernel
theorem dX10_order_89 : decode cX10_order 89 = .ok (.iadd, 1) := by decide +kernel
theorem dX10_order_90 : decode cX10_order 90 = .ok (.putfield 162, 3) := by decide +kernel
theorem dX10_order_93 : decode cX10_order 93 = .ok (.aload_n 0, 1) := by decide +kernel
theorem dX10_order_94 : decode cX10_order 94 = .ok (.getfield 168, 3) := by decide +kernel
theorem dX10_order_97 : decode cX10_order 97 = .ok (.iconst (-1), 1) := by decide +kernel
theorem dX10_order_98 : decode cX10_order 98 = .ok (.if_icmp .ne 18, 3) := by decide +kernel
theorem dX10_order_101 : decode cX10_order 101 = .ok (.iload_n 1, 1) := by decide +kernel
theorem dX10_order_102 : decode cX10_order 102 = .ok (.ifCond .eq 10, 3) := by decide +kernel
theorem dX10_order_105 : decode cX10_order 105 = .ok (.aload_n 0, 1) := by decide +kernel
theorem dX10_order_106 : decode cX10_order 106 = .ok (.invokevirtual 193, 3) := by decide +kernel
theorem dX10_order_109 : decode cX10_order 109 = .ok (.ifCond .eq 7, 3) := by decide +kernel
theorem dX10_order_112 : decode cX10_order 112 = .ok (.iconst 1, 1) := by decide +kernel
theorem dX10_order_113 : decode cX10_order 113 = .ok (.goto 4, 3) := by decide +kernel
theorem dX10_order_116 : decode cX10_order 116 = .ok (.iconst 0, 1) := by decide +kernel
theorem dX10_order_117 : decode cX10_order 117 = .ok (.ireturn, 1) := by decide +kernel
theorem dX10_carriesOut_0 : decode cX10_carriesOut 0 = .ok (.iconst 0, 1) := by decide +kernel
theorem dX10_carriesOut_1 : decode cX10_carriesOut 1 = .ok (.istore_n 1, 1) := by decide +kernel
theorem dX10_carriesOut_2 : decode cX10_carriesOut 2 = .ok (.aload_n 0, 1) := by decide +kernel
theorem dX10_carriesOut_3 : decode cX10_carriesOut 3 = .ok (.getfield 174, 3) := by decide +kernel
theorem dX10_carriesOut_6 : decode cX10_carriesOut 6 = .ok (.tableswitch 197 0 7 #[46, 61, 82, 103, 118, 151, 167, 182], 46) := by decide +kernel
theorem dX10_carriesOut_52 : decode cX10_carriesOut 52 = .ok (.aload_n 0, 1) := by decide +kernel
theorem dX10_carriesOut_53 : decode cX10_carriesOut 53 = .ok (.aload_n 0, 1) := by decide +kernel
theorem dX10_carriesOut_54 : decode cX10_carriesOut 54 = .ok (.getfield 26, 3) := by decide +kernel
theorem dX10_carriesOut_57 : decode cX10_carriesOut 57 = .ok (.iconst 0, 1) := by decide +kernel
theorem dX10_carriesOut_58 : decode cX10_carriesOut 58 = .ok (.iaload, 1) := by decide +kernel
theorem dX10_carriesOut_59 : decode cX10_carriesOut 59 = .ok (.iconst 0, 1) := by decide +kernel
theorem dX10_carriesOut_60 : decode cX10_carriesOut 60 = .ok (.invokevirtual 71, 3) := by decide +kernel
theorem dX10_carriesOut_63 : decode cX10_carriesOut 63 = .ok (.istore_n 1, 1) := by decide +kernel
theorem dX10_carriesOut_64 : decode cX10_carriesOut 64 = .ok (.goto 145, 3) := by decide +kernel
theorem dX10_carriesOut_67 : decode cX10_carriesOut 67 = .ok (.aload_n 0, 1) := by decide +kernel
theorem dX10_carriesOut_68 : decode cX10_carriesOut 68 = .ok (.aload_n 0, 1) := by decide +kernel
theorem dX10_carriesOut_69 : decode cX10_carriesOut 69 = .ok (.getfield 26, 3) := by decide +kernel
theorem dX10_carriesOut_72 : decode cX10_carriesOut 72 = .ok (.iconst 0, 1) := by decide +kernel
theorem dX10_carriesOut_73 : decode cX10_carriesOut 73 = .ok (.iaload, 1) := by decide +kernel
theorem dX10_carriesOut_74 : decode cX10_carriesOut 74 = .ok (.aload_n 0, 1) := by decide +kernel
theorem dX10_carriesOut_75 : decode cX10_carriesOut 75 = .ok (.getfield 26, 3) := by decide +kernel
theorem dX10_carriesOut_78 : decode cX10_carriesOut 78 = .ok (.iconst 1, 1) := by decide +kernel
theorem dX10_carriesOut_79 : decode cX10_carriesOut 79 = .ok (.iaload, 1) := by decide +kernel
theorem dX10_carriesOut_80 : decode cX10_carriesOut 80 = .ok (.iconst 0, 1) := by decide +kernel
theorem dX10_carriesOut_81 : decode cX10_carriesOut 81 = .ok (.invokevirtual 78, 3) := by decide +kernel
theorem dX10_carriesOut_84 : decode cX10_carriesOut 84 = .ok (.istore_n 1, 1) := by decide +kernel
theorem dX10_carriesOut_85 : decode cX10_carriesOut 85 = .ok (.goto 124, 3) := by decide +kernel
theorem dX10_carriesOut_88 : decode cX10_carriesOut 88 = .ok (.aload_n 0, 1) := by decide +kernel
theorem dX10_carriesOut_89 : decode cX10_carriesOut 89 = .ok (.aload_n 0, 1) := by decide +kernel
theorem dX10_carriesOut_90 : decode cX10_carriesOut 90 = .ok (.getfield 26, 3) := by decide +kernel
theorem dX10_carriesOut_93 : decode cX10_carriesOut 93 = .ok (.iconst 0, 1) := by decide +kernel
theorem dX10_carriesOut_94 : decode cX10_carriesOut 94 = .ok (.iaload, 1) := by decide +kernel
theorem dX10_carriesOut_95 : decode cX10_carriesOut 95 = .ok (.aload_n 0, 1) := by decide +kernel
theorem dX10_carriesOut_96 : decode cX10_carriesOut 96 = .ok (.getfield 26, 3) := by decide +kernel
theorem dX10_carriesOut_99 : decode cX10_carriesOut 99 = .ok (.iconst 1, 1) := by decide +kernel
theorem dX10_carriesOut_100 : decode cX10_carriesOut 100 = .ok (.iaload, 1) := by decide +kernel
theorem dX10_carriesOut_101 : decode cX10_carriesOut 101 = .ok (.iconst 0, 1) := by decide +kernel
theorem dX10_carriesOut_102 : decode cX10_carriesOut 102 = .ok (.invokevirtual 82, 3) := by decide +kernel
theorem dX10_carriesOut_105 : decode cX10_carriesOut 105 = .ok (.istore_n 1, 1) := by decide +kernel
theorem dX10_carriesOut_106 : decode cX10_carriesOut 106 = .ok (.goto 103, 3) := by decide +kernel
theorem dX10_carriesOut_109 : decode cX10_carriesOut 109 = .ok (.aload_n 0, 1) := by decide +kernel
theorem dX10_carriesOut_110 : decode cX10_carriesOut 110 = .ok (.aload_n 0, 1) := by decide +kernel
theorem dX10_carriesOut_111 : decode cX10_carriesOut 111 = .ok (.getfield 26, 3) := by decide +kernel
theorem dX10_carriesOut_114 : decode cX10_carriesOut 114 = .ok (.iconst 0, 1) := by decide +kernel
theorem dX10_carriesOut_115 : decode cX10_carriesOut 115 = .ok (.iaload, 1) := by decide +kernel
theorem dX10_carriesOut_116 : decode cX10_carriesOut 116 = .ok (.iconst 0, 1) := by decide +kernel
theorem dX10_carriesOut_117 : decode cX10_carriesOut 117 = .ok (.invokevirtual 93, 3) := by decide +kernel
theorem dX10_carriesOut_120 : decode cX10_carriesOut 120 = .ok (.istore_n 1, 1) := by decide +kernel
theorem dX10_carriesOut_121 : decode cX10_carriesOut 121 = .ok (.goto 88, 3) := by decide +kernel
theorem dX10_carriesOut_124 : decode cX10_carriesOut 124 = .ok (.aload_n 0, 1) := by decide +kernel
theorem dX10_carriesOut_125 : decode cX10_carriesOut 125 = .ok (.aload_n 0, 1) := by decide +kernel
theorem dX10_carriesOut_126 : decode cX10_carriesOut 126 = .ok (.getfield 26, 3) := by decide +kernel
theorem dX10_carriesOut_129 : decode cX10_carriesOut 129 = .ok (.iconst 0, 1) := by decide +kernel
theorem dX10_carriesOut_130 : decode cX10_carriesOut 130 = .ok (.iaload, 1) := by decide +kernel
theorem dX10_carriesOut_131 : decode cX10_carriesOut 131 = .ok (.aload_n 0, 1) := by decide +kernel
theorem dX10_carriesOut_132 : decode cX10_carriesOut 132 = .ok (.getfield 26, 3) := by decide +kernel
theorem dX10_carriesOut_135 : decode cX10_carriesOut 135 = .ok (.iconst 1, 1) := by decide +kernel
theorem dX10_carriesOut_136 : decode cX10_carriesOut 136 = .ok (.iaload, 1) := by decide +kernel
theorem dX10_carriesOut_137 : decode cX10_carriesOut 137 = .ok (.aload_n 0, 1) := by decide +kernel
theorem dX10_carriesOut_138 : decode cX10_carriesOut 138 = .ok (.getfield 26, 3) := by decide +kernel
theorem dX10_carriesOut_141 : decode cX10_carriesOut 141 = .ok (.iconst 2, 1) := by decide +kernel
theorem dX10_carriesOut_142 : decode cX10_carriesOut 142 = .ok (.iaload, 1) := by decide +kernel
theorem dX10_carriesOut_143 : decode cX10_carriesOut 143 = .ok (.aload_n 0, 1) := by decide +kernel
theorem dX10_carriesOut_144 : decode cX10_carriesOut 144 = .ok (.getfield 26, 3) := by decide +kernel
theorem dX10_carriesOut_147 : decode cX10_carriesOut 147 = .ok (.iconst 3, 1) := by decide +kernel
theorem dX10_carriesOut_148 : decode cX10_carriesOut 148 = .ok (.iaload, 1) := by decide +kernel
theorem dX10_carriesOut_149 : decode cX10_carriesOut 149 = .ok (.iconst 0, 1) := by decide +kernel
theorem dX10_carriesOut_150 : decode cX10_carriesOut 150 = .ok (.invokevirtual 109, 3) := by decide +kernel
theorem dX10_carriesOut_153 : decode cX10_carriesOut 153 = .ok (.istore_n 1, 1) := by decide +kernel
theorem dX10_carriesOut_154 : decode cX10_carriesOut 154 = .ok (.goto 55, 3) := by decide +kernel
theorem dX10_carriesOut_157 : decode cX10_carriesOut 157 = .ok (.aload_n 0, 1) := by decide +kernel
theorem dX10_carriesOut_158 : decode cX10_carriesOut 158 = .ok (.aload_n 0, 1) := by decide +kernel
theorem dX10_carriesOut_159 : decode cX10_carriesOut 159 = .ok (.getfield 26, 3) := by decide +kernel
theorem dX10_carriesOut_162 : decode cX10_carriesOut 162 = .ok (.iconst 0, 1) := by decide +kernel
theorem dX10_carriesOut_163 : decode cX10_carriesOut 163 = .ok (.iaload, 1) := by decide +kernel
theorem dX10_carriesOut_164 : decode cX10_carriesOut 164 = .ok (.iconst 1, 1) := by decide +kernel
theorem dX10_carriesOut_165 : decode cX10_carriesOut 165 = .ok (.iconst 0, 1) := by decide +kernel
theorem dX10_carriesOut_166 : decode cX10_carriesOut 166 = .ok (.invokevirtual 89, 3) := by decide +kernel
theorem dX10_carriesOut_169 : decode cX10_carriesOut 169 = .ok (.istore_n 1, 1) := by decide +kernel
theorem dX10_carriesOut_170 : decode cX10_carriesOut 170 = .ok (.goto 39, 3) := by decide +kernel
theorem dX10_carriesOut_173 : decode cX10_carriesOut 173 = .ok (.aload_n 0, 1) := by decide +kernel
theorem dX10_carriesOut_174 : decode cX10_carriesOut 174 = .ok (.aload_n 0, 1) := by decide +kernel
theorem dX10_carriesOut_175 : decode cX10_carriesOut 175 = .ok (.getfield 26, 3) := by decide +kernel
theorem dX10_carriesOut_178 : decode cX10_carriesOut 178 = .ok (.iconst 0, 1) := by decide +kernel
theorem dX10_carriesOut_179 : decode cX10_carriesOut 179 = .ok (.iaload, 1) := by decide +kernel
theorem dX10_carriesOut_180 : decode cX10_carriesOut 180 = .ok (.iconst 0, 1) := by decide +kernel
theorem dX10_carriesOut_181 : decode cX10_carriesOut 181 = .ok (.invokevirtual 197, 3) := by decide +kernel
theorem dX10_carriesOut_184 : decode cX10_carriesOut 184 = .ok (.istore_n 1, 1) := by decide +kernel
theorem dX10_carriesOut_185 : decode cX10_carriesOut 185 = .ok (.goto 24, 3) := by decide +kernel
theorem dX10_carriesOut_188 : decode cX10_carriesOut 188 = .ok (.aload_n 0, 1) := by decide +kernel
theorem dX10_carriesOut_189 : decode cX10_carriesOut 189 = .ok (.aload_n 0, 1) := by decide +kernel
theorem dX10_carriesOut_190 : decode cX10_carriesOut 190 = .ok (.getfield 26, 3) := by decide +kernel
theorem dX10_carriesOut_193 : decode cX10_carriesOut 193 = .ok (.iconst 0, 1) := by decide +kernel
theorem dX10_carriesOut_194 : decode cX10_carriesOut 194 = .ok (.iaload, 1) := by decide +kernel
theorem dX10_carriesOut_195 : decode cX10_carriesOut 195 = .ok (.iconst 1, 1) := by decide +kernel
theorem dX10_carriesOut_196 : decode cX10_carriesOut 196 = .ok (.invokevirtual 197, 3) := by decide +kernel
theorem dX10_carriesOut_199 : decode cX10_carriesOut 199 = .ok (.istore_n 1, 1) := by decide +kernel
theorem dX10_carriesOut_200 : decode cX10_carriesOut 200 = .ok (.goto 9, 3) := by decide +kernel
theorem dX10_carriesOut_203 : decode cX10_carriesOut 203 = .ok (.aload_n 0, 1) := by decide +kernel
theorem dX10_carriesOut_204 : decode cX10_carriesOut 204 = .ok (.iconst 0, 1) := by decide +kernel
theorem dX10_carriesOut_205 : decode cX10_carriesOut 205 = .ok (.invokevirtual 113, 3) := by decide +kernel
theorem dX10_carriesOut_208 : decode cX10_carriesOut 208 = .ok (.istore_n 1, 1) := by decide +kernel
theorem dX10_carriesOut_209 : decode cX10_carriesOut 209 = .ok (.aload_n 0, 1) := by decide +kernel
theorem dX10_carriesOut_210 : decode cX10_carriesOut 210 = .ok (.dup, 1) := by decide +kernel
theorem dX10_carriesOut_211 : decode cX10_carriesOut 211 = .ok (.getfield 200, 3) := by decide +kernel
theorem dX10_carriesOut_214 : decode cX10_carriesOut 214 = .ok (.aload_n 0, 1) := by decide +kernel
theorem dX10_carriesOut_215 : decode cX10_carriesOut 215 = .ok (.getfield 29, 3) := by decide +kernel
theorem dX10_carriesOut_218 : decode cX10_carriesOut 218 = .ok (.ifCond .ne 7, 3) := by decide +kernel
theorem dX10_carriesOut_221 : decode cX10_carriesOut 221 = .ok (.iconst 1, 1) := by decide +kernel
theorem dX10_carriesOut_222 : decode cX10_carriesOut 222 = .ok (.goto 4, 3) := by decide +kernel
theorem dX10_carriesOut_225 : decode cX10_carriesOut 225 = .ok (.iconst 0, 1) := by decide +kernel
theorem dX10_carriesOut_226 : decode cX10_carriesOut 226 = .ok (.iadd, 1) := by decide +kernel
theorem dX10_carriesOut_227 : decode cX10_carriesOut 227 = .ok (.putfield 200, 3) := by decide +kernel
theorem dX10_carriesOut_230 : decode cX10_carriesOut 230 = .ok (.aload_n 0, 1) := by decide +kernel
theorem dX10_carriesOut_231 : decode cX10_carriesOut 231 = .ok (.getfield 29, 3) := by decide +kernel
theorem dX10_carriesOut_234 : decode cX10_carriesOut 234 = .ok (.ifCond .ne 7, 3) := by decide +kernel
theorem dX10_carriesOut_237 : decode cX10_carriesOut 237 = .ok (.iconst 1, 1) := by decide +kernel
theorem dX10_carriesOut_238 : decode cX10_carriesOut 238 = .ok (.goto 4, 3) := by decide +kernel
theorem dX10_carriesOut_241 : decode cX10_carriesOut 241 = .ok (.iconst 0, 1) := by decide +kernel
theorem dX10_carriesOut_242 : decode cX10_carriesOut 242 = .ok (.ireturn, 1) := by decide +kernel
theorem dX10_goThrough_0 : decode cX10_goThrough 0 = .ok (.aload_n 0, 1) := by decide +kernel
theorem dX10_goThrough_1 : decode cX10_goThrough 1 = .ok (.iconst 0, 1) := by decide +kernel
theorem dX10_goThrough_2 : decode cX10_goThrough 2 = .ok (.putfield 162, 3) := by decide +kernel
theorem dX10_goThrough_5 : decode cX10_goThrough 5 = .ok (.aload_n 0, 1) := by decide +kernel
theorem dX10_goThrough_6 : decode cX10_goThrough 6 = .ok (.iconst (-1), 1) := by decide +kernel
theorem dX10_goThrough_7 : decode cX10_goThrough 7 = .ok (.putfield 168, 3) := by decide +kernel
theorem dX10_goThrough_10 : decode cX10_goThrough 10 = .ok (.aload_n 0, 1) := by decide +kernel
theorem dX10_goThrough_11 : decode cX10_goThrough 11 = .ok (.iconst 0, 1) := by decide +kernel
theorem dX10_goThrough_12 : decode cX10_goThrough 12 = .ok (.putfield 200, 3) := by decide +kernel
theorem dX10_goThrough_15 : decode cX10_goThrough 15 = .ok (.aload_n 0, 1) := by decide +kernel
theorem dX10_goThrough_16 : decode cX10_goThrough 16 = .ok (.invokevirtual 181, 3) := by decide +kernel
theorem dX10_goThrough_19 : decode cX10_goThrough 19 = .ok (.aload_n 0, 1) := by decide +kernel
theorem dX10_goThrough_20 : decode cX10_goThrough 20 = .ok (.getfield 162, 3) := by decide +kernel
theorem dX10_goThrough_23 : decode cX10_goThrough 23 = .ok (.aload_n 0, 1) := by decide +kernel
theorem dX10_goThrough_24 : decode cX10_goThrough 24 = .ok (.getfield 132, 3) := by decide +kernel
theorem dX10_goThrough_27 : decode cX10_goThrough 27 = .ok (.if_icmp .ge 7, 3) := by decide +kernel
theorem dX10_goThrough_30 : decode cX10_goThrough 30 = .ok (.iconst 1, 1) := by decide +kernel
theorem dX10_goThrough_31 : decode cX10_goThrough 31 = .ok (.goto 4, 3) := by decide +kernel
theorem dX10_goThrough_34 : decode cX10_goThrough 34 = .ok (.iconst 0, 1) := by decide +kernel
theorem dX10_goThrough_35 : decode cX10_goThrough 35 = .ok (.istore_n 2, 1) := by decide +kernel
theorem dX10_goThrough_36 : decode cX10_goThrough 36 = .ok (.iload_n 2, 1) := by decide +kernel
theorem dX10_goThrough_37 : decode cX10_goThrough 37 = .ok (.ifCond .eq 41, 3) := by decide +kernel
theorem dX10_goThrough_40 : decode cX10_goThrough 40 = .ok (.aload_n 0, 1) := by decide +kernel
theorem dX10_goThrough_41 : decode cX10_goThrough 41 = .ok (.iload_n 1, 1) := by decide +kernel
theorem dX10_goThrough_42 : decode cX10_goThrough 42 = .ok (.invokevirtual 203, 3) := by decide +kernel
theorem dX10_goThrough_45 : decode cX10_goThrough 45 = .ok (.istore_n 3, 1) := by decide +kernel
theorem dX10_goThrough_46 : decode cX10_goThrough 46 = .ok (.iload_n 3, 1) := by decide +kernel
theorem dX10_goThrough_47 : decode cX10_goThrough 47 = .ok (.ifCond .eq 7, 3) := by decide +kernel
theorem dX10_goThrough_50 : decode cX10_goThrough 50 = .ok (.aload_n 0, 1) := by decide +kernel
theorem dX10_goThrough_51 : decode cX10_goThrough 51 = .ok (.invokevirtual 181, 3) := by decide +kernel
theorem dX10_goThrough_54 : decode cX10_goThrough 54 = .ok (.iload_n 3, 1) := by decide +kernel
theorem dX10_goThrough_55 : decode cX10_goThrough 55 = .ok (.ifCond .eq 18, 3) := by decide +kernel
theorem dX10_goThrough_58 : decode cX10_goThrough 58 = .ok (.aload_n 0, 1) := by decide +kernel
theorem dX10_goThrough_59 : decode cX10_goThrough 59 = .ok (.getfield 162, 3) := by decide +kernel
theorem dX10_goThrough_62 : decode cX10_goThrough 62 = .ok (.aload_n 0, 1) := by decide +kernel
theorem dX10_goThrough_63 : decode cX10_goThrough 63 = .ok (.getfield 132, 3) := by decide +kernel
theorem dX10_goThrough_66 : decode cX10_goThrough 66 = .ok (.if_icmp .ge 7, 3) := by decide +kernel
theorem dX10_goThrough_69 : decode cX10_goThrough 69 = .ok (.iconst 1, 1) := by decide +kernel
theorem dX10_goThrough_70 : decode cX10_goThrough 70 = .ok (.goto 4, 3) := by decide +kernel
theorem dX10_goThrough_73 : decode cX10_goThrough 73 = .ok (.iconst 0, 1) := by decide +kernel
theorem dX10_goThrough_74 : decode cX10_goThrough 74 = .ok (.istore_n 2, 1) := by decide +kernel
theorem dX10_goThrough_75 : decode cX10_goThrough 75 = .ok (.goto (-39), 3) := by decide +kernel
theorem dX10_goThrough_78 : decode cX10_goThrough 78 = .ok (.return_, 1) := by decide +kernel
theorem dX10_runOrders_0 : decode cX10_runOrders 0 = .ok (.aload_n 0, 1) := by decide +kernel
theorem dX10_runOrders_1 : decode cX10_runOrders 1 = .ok (.iconst 0, 1) := by decide +kernel
theorem dX10_runOrders_2 : decode cX10_runOrders 2 = .ok (.putfield 29, 3) := by decide +kernel
theorem dX10_runOrders_5 : decode cX10_runOrders 5 = .ok (.aload_n 0, 1) := by decide +kernel
theorem dX10_runOrders_6 : decode cX10_runOrders 6 = .ok (.iconst 0, 1) := by decide +kernel
theorem dX10_runOrders_7 : decode cX10_runOrders 7 = .ok (.invokevirtual 206, 3) := by decide +kernel
theorem dX10_runOrders_10 : decode cX10_runOrders 10 = .ok (.aload_n 0, 1) := by decide +kernel
theorem dX10_runOrders_11 : decode cX10_runOrders 11 = .ok (.getfield 168, 3) := by decide +kernel
theorem dX10_runOrders_14 : decode cX10_runOrders 14 = .ok (.iconst (-1), 1) := by decide +kernel
theorem dX10_runOrders_15 : decode cX10_runOrders 15 = .ok (.if_icmp .eq 11, 3) := by decide +kernel
theorem dX10_runOrders_18 : decode cX10_runOrders 18 = .ok (.bipush (-10), 2) := by decide +kernel
theorem dX10_runOrders_20 : decode cX10_runOrders 20 = .ok (.aload_n 0, 1) := by decide +kernel
theorem dX10_runOrders_21 : decode cX10_runOrders 21 = .ok (.getfield 168, 3) := by decide +kernel
theorem dX10_runOrders_24 : decode cX10_runOrders 24 = .ok (.isub, 1) := by decide +kernel
theorem dX10_runOrders_25 : decode cX10_runOrders 25 = .ok (.ireturn, 1) := by decide +kernel
theorem dX10_runOrders_26 : decode cX10_runOrders 26 = .ok (.aload_n 0, 1) := by decide +kernel
theorem dX10_runOrders_27 : decode cX10_runOrders 27 = .ok (.invokevirtual 68, 3) := by decide +kernel
theorem dX10_runOrders_30 : decode cX10_runOrders 30 = .ok (.aload_n 0, 1) := by decide +kernel
theorem dX10_runOrders_31 : decode cX10_runOrders 31 = .ok (.iconst 1, 1) := by decide +kernel
theorem dX10_runOrders_32 : decode cX10_runOrders 32 = .ok (.invokevirtual 206, 3) := by decide +kernel
theorem dX10_runOrders_35 : decode cX10_runOrders 35 = .ok (.aload_n 0, 1) := by decide +kernel
theorem dX10_runOrders_36 : decode cX10_runOrders 36 = .ok (.iconst 0, 1) := by decide +kernel
theorem dX10_runOrders_37 : decode cX10_runOrders 37 = .ok (.putfield 29, 3) := by decide +kernel
theorem dX10_runOrders_40 : decode cX10_runOrders 40 = .ok (.aload_n 0, 1) := by decide +kernel
theorem dX10_runOrders_41 : decode cX10_runOrders 41 = .ok (.getfield 200, 3) := by decide +kernel
theorem dX10_runOrders_44 : decode cX10_runOrders 44 = .ok (.ireturn, 1) := by decide +kernel
theorem dX10_undo_0 : decode cX10_undo 0 = .ok (.aload_n 0, 1) := by decide +kernel
theorem dX10_undo_1 : decode cX10_undo 1 = .ok (.aload_n 0, 1) := by decide +kernel
theorem dX10_undo_2 : decode cX10_undo 2 = .ok (.getfield 33, 3) := by decide +kernel
theorem dX10_undo_5 : decode cX10_undo 5 = .ok (.ifCond .le 7, 3) := by decide +kernel
theorem dX10_undo_8 : decode cX10_undo 8 = .ok (.iconst 1, 1) := by decide +kernel
theorem dX10_undo_9 : decode cX10_undo 9 = .ok (.goto 4, 3) := by decide +kernel
theorem dX10_undo_12 : decode cX10_undo 12 = .ok (.iconst 0, 1) := by decide +kernel
theorem dX10_undo_13 : decode cX10_undo 13 = .ok (.iconst 1, 1) := by decide +kernel
theorem dX10_undo_14 : decode cX10_undo 14 = .ok (.iconst 1, 1) := by decide +kernel
theorem dX10_undo_15 : decode cX10_undo 15 = .ok (.invokevirtual 64, 3) := by decide +kernel
theorem dX10_undo_18 : decode cX10_undo 18 = .ok (.ifCond .eq 5, 3) := by decide +kernel
theorem dX10_undo_21 : decode cX10_undo 21 = .ok (.iconst 0, 1) := by decide +kernel
theorem dX10_undo_22 : decode cX10_undo 22 = .ok (.ireturn, 1) := by decide +kernel
theorem dX10_undo_23 : decode cX10_undo 23 = .ok (.aload_n 0, 1) := by decide +kernel
theorem dX10_undo_24 : decode cX10_undo 24 = .ok (.dup, 1) := by decide +kernel
theorem dX10_undo_25 : decode cX10_undo 25 = .ok (.getfield 33, 3) := by decide +kernel
theorem dX10_undo_28 : decode cX10_undo 28 = .ok (.iconst 1, 1) := by decide +kernel
theorem dX10_undo_29 : decode cX10_undo 29 = .ok (.isub, 1) := by decide +kernel
theorem dX10_undo_30 : decode cX10_undo 30 = .ok (.putfield 33, 3) := by decide +kernel
theorem dX10_undo_33 : decode cX10_undo 33 = .ok (.iconst 0, 1) := by decide +kernel
theorem dX10_undo_34 : decode cX10_undo 34 = .ok (.istore_n 1, 1) := by decide +kernel
theorem dX10_undo_35 : decode cX10_undo 35 = .ok (.iload_n 1, 1) := by decide +kernel
theorem dX10_undo_36 : decode cX10_undo 36 = .ok (.sipush 215, 3) := by decide +kernel
theorem dX10_undo_39 : decode cX10_undo 39 = .ok (.if_icmp .ge 30, 3) := by decide +kernel
theorem dX10_undo_42 : decode cX10_undo 42 = .ok (.aload_n 0, 1) := by decide +kernel
theorem dX10_undo_43 : decode cX10_undo 43 = .ok (.getfield 7, 3) := by decide +kernel
theorem dX10_undo_46 : decode cX10_undo 46 = .ok (.iload_n 1, 1) := by decide +kernel
theorem dX10_undo_47 : decode cX10_undo 47 = .ok (.aload_n 0, 1) := by decide +kernel
theorem dX10_undo_48 : decode cX10_undo 48 = .ok (.getfield 13, 3) := by decide +kernel
theorem dX10_undo_51 : decode cX10_undo 51 = .ok (.sipush 215, 3) := by decide +kernel
theorem dX10_undo_54 : decode cX10_undo 54 = .ok (.aload_n 0, 1) := by decide +kernel
theorem dX10_undo_55 : decode cX10_undo 55 = .ok (.getfield 33, 3) := by decide +kernel
theorem dX10_undo_58 : decode cX10_undo 58 = .ok (.imul, 1) := by decide +kernel
theorem dX10_undo_59 : decode cX10_undo 59 = .ok (.iload_n 1, 1) := by decide +kernel
theorem dX10_undo_60 : decode cX10_undo 60 = .ok (.iadd, 1) := by decide +kernel
theorem dX10_undo_61 : decode cX10_undo 61 = .ok (.iaload, 1) := by decide +kernel
theorem dX10_undo_62 : decode cX10_undo 62 = .ok (.iastore, 1) := by decide +kernel
theorem dX10_undo_63 : decode cX10_undo 63 = .ok (.iinc 1 1, 3) := by decide +kernel
theorem dX10_undo_66 : decode cX10_undo 66 = .ok (.goto (-31), 3) := by decide +kernel
theorem dX10_undo_69 : decode cX10_undo 69 = .ok (.aload_n 0, 1) := by decide +kernel
theorem dX10_undo_70 : decode cX10_undo 70 = .ok (.getfield 33, 3) := by decide +kernel
theorem dX10_undo_73 : decode cX10_undo 73 = .ok (.ireturn, 1) := by decide +kernel
theorem dX10_digest_0 : decode cX10_digest 0 = .ok (.aload_n 0, 1) := by decide +kernel
theorem dX10_digest_1 : decode cX10_digest 1 = .ok (.iconst 0, 1) := by decide +kernel
theorem dX10_digest_2 : decode cX10_digest 2 = .ok (.putfield 29, 3) := by decide +kernel
theorem dX10_digest_5 : decode cX10_digest 5 = .ok (.ldc2_w 210, 3) := by decide +kernel
theorem dX10_digest_8 : decode cX10_digest 8 = .ok (.aload_n 0, 1) := by decide +kernel
theorem dX10_digest_9 : decode cX10_digest 9 = .ok (.getfield 33, 3) := by decide +kernel
theorem dX10_digest_12 : decode cX10_digest 12 = .ok (.i2l, 1) := by decide +kernel
theorem dX10_digest_13 : decode cX10_digest 13 = .ok (.ladd, 1) := by decide +kernel
theorem dX10_digest_14 : decode cX10_digest 14 = .ok (.lstore_n 1, 1) := by decide +kernel
theorem dX10_digest_15 : decode cX10_digest 15 = .ok (.iconst 0, 1) := by decide +kernel
theorem dX10_digest_16 : decode cX10_digest 16 = .ok (.istore_n 3, 1) := by decide +kernel
theorem dX10_digest_17 : decode cX10_digest 17 = .ok (.iload_n 3, 1) := by decide +kernel
theorem dX10_digest_18 : decode cX10_digest 18 = .ok (.bipush 15, 2) := by decide +kernel
theorem dX10_digest_20 : decode cX10_digest 20 = .ok (.if_icmp .gt 22, 3) := by decide +kernel
theorem dX10_digest_23 : decode cX10_digest 23 = .ok (.ldc2_w 212, 3) := by decide +kernel
theorem dX10_digest_26 : decode cX10_digest 26 = .ok (.lload_n 1, 1) := by decide +kernel
theorem dX10_digest_27 : decode cX10_digest 27 = .ok (.lmul, 1) := by decide +kernel
theorem dX10_digest_28 : decode cX10_digest 28 = .ok (.aload_n 0, 1) := by decide +kernel
theorem dX10_digest_29 : decode cX10_digest 29 = .ok (.iload_n 3, 1) := by decide +kernel
theorem dX10_digest_30 : decode cX10_digest 30 = .ok (.invokevirtual 135, 3) := by decide +kernel
theorem dX10_digest_33 : decode cX10_digest 33 = .ok (.i2l, 1) := by decide +kernel
theorem dX10_digest_34 : decode cX10_digest 34 = .ok (.ladd, 1) := by decide +kernel
theorem dX10_digest_35 : decode cX10_digest 35 = .ok (.lstore_n 1, 1) := by decide +kernel
theorem dX10_digest_36 : decode cX10_digest 36 = .ok (.iinc 3 1, 3) := by decide +kernel
theorem dX10_digest_39 : decode cX10_digest 39 = .ok (.goto (-22), 3) := by decide +kernel
theorem dX10_digest_42 : decode cX10_digest 42 = .ok (.iconst 0, 1) := by decide +kernel
theorem dX10_digest_43 : decode cX10_digest 43 = .ok (.istore_n 3, 1) := by decide +kernel
theorem dX10_digest_44 : decode cX10_digest 44 = .ok (.iload_n 3, 1) := by decide +kernel
theorem dX10_digest_45 : decode cX10_digest 45 = .ok (.bipush 8, 2) := by decide +kernel
theorem dX10_digest_47 : decode cX10_digest 47 = .ok (.if_icmp .ge 94, 3) := by decide +kernel
theorem dX10_digest_50 : decode cX10_digest 50 = .ok (.iconst 0, 1) := by decide +kernel
theorem dX10_digest_51 : decode cX10_digest 51 = .ok (.istore 4, 2) := by decide +kernel
theorem dX10_digest_53 : decode cX10_digest 53 = .ok (.iload 4, 2) := by decide +kernel
theorem dX10_digest_55 : decode cX10_digest 55 = .ok (.iconst 4, 1) := by decide +kernel
theorem dX10_digest_56 : decode cX10_digest 56 = .ok (.if_icmp .gt 24, 3) := by decide +kernel
theorem dX10_digest_59 : decode cX10_digest 59 = .ok (.ldc2_w 212, 3) := by decide +kernel
theorem dX10_digest_62 : decode cX10_digest 62 = .ok (.lload_n 1, 1) := by decide +kernel
theorem dX10_digest_63 : decode cX10_digest 63 = .ok (.lmul, 1) := by decide +kernel
theorem dX10_digest_64 : decode cX10_digest 64 = .ok (.aload_n 0, 1) := by decide +kernel
theorem dX10_digest_65 : decode cX10_digest 65 = .ok (.iload_n 3, 1) := by decide +kernel
theorem dX10_digest_66 : decode cX10_digest 66 = .ok (.iload 4, 2) := by decide +kernel
theorem dX10_digest_68 : decode cX10_digest 68 = .ok (.invokevirtual 126, 3) := by decide +kernel
theorem dX10_digest_71 : decode cX10_digest 71 = .ok (.i2l, 1) := by decide +kernel
theorem dX10_digest_72 : decode cX10_digest 72 = .ok (.ladd, 1) := by decide +kernel
theorem dX10_digest_73 : decode cX10_digest 73 = .ok (.lstore_n 1, 1) := by decide +kernel
theorem dX10_digest_74 : decode cX10_digest 74 = .ok (.iinc 4 1, 3) := by decide +kernel
theorem dX10_digest_77 : decode cX10_digest 77 = .ok (.goto (-24), 3) := by decide +kernel
theorem dX10_digest_80 : decode cX10_digest 80 = .ok (.iconst 0, 1) := by decide +kernel
theorem dX10_digest_81 : decode cX10_digest 81 = .ok (.istore 4, 2) := by decide +kernel
theorem dX10_digest_83 : decode cX10_digest 83 = .ok (.iload 4, 2) := by decide +kernel
theorem dX10_digest_85 : decode cX10_digest 85 = .ok (.aload_n 0, 1) := by decide +kernel
theorem dX10_digest_86 : decode cX10_digest 86 = .ok (.getfield 7, 3) := by decide +kernel
theorem dX10_digest_89 : decode cX10_digest 89 = .ok (.bipush 12, 2) := by decide +kernel
theorem dX10_digest_91 : decode cX10_digest 91 = .ok (.iload_n 3, 1) := by decide +kernel
theorem dX10_digest_92 : decode cX10_digest 92 = .ok (.iadd, 1) := by decide +kernel
theorem dX10_digest_93 : decode cX10_digest 93 = .ok (.iaload, 1) := by decide +kernel
theorem dX10_digest_94 : decode cX10_digest 94 = .ok (.if_icmp .ge 41, 3) := by decide +kernel
theorem dX10_digest_97 : decode cX10_digest 97 = .ok (.iconst 0, 1) := by decide +kernel
theorem dX10_digest_98 : decode cX10_digest 98 = .ok (.istore 5, 2) := by decide +kernel
theorem dX10_digest_100 : decode cX10_digest 100 = .ok (.iload 5, 2) := by decide +kernel
theorem dX10_digest_102 : decode cX10_digest 102 = .ok (.iconst 2, 1) := by decide +kernel
theorem dX10_digest_103 : decode cX10_digest 103 = .ok (.if_icmp .gt 26, 3) := by decide +kernel
theorem dX10_digest_106 : decode cX10_digest 106 = .ok (.ldc2_w 212, 3) := by decide +kernel
theorem dX10_digest_109 : decode cX10_digest 109 = .ok (.lload_n 1, 1) := by decide +kernel
theorem dX10_digest_110 : decode cX10_digest 110 = .ok (.lmul, 1) := by decide +kernel
theorem dX10_digest_111 : decode cX10_digest 111 = .ok (.aload_n 0, 1) := by decide +kernel
theorem dX10_digest_112 : decode cX10_digest 112 = .ok (.iload_n 3, 1) := by decide +kernel
theorem dX10_digest_113 : decode cX10_digest 113 = .ok (.iload 4, 2) := by decide +kernel
theorem dX10_digest_115 : decode cX10_digest 115 = .ok (.iload 5, 2) := by decide +kernel
theorem dX10_digest_117 : decode cX10_digest 117 = .ok (.invokevirtual 119, 3) := by decide +kernel
theorem dX10_digest_120 : decode cX10_digest 120 = .ok (.i2l, 1) := by decide +kernel
theorem dX10_digest_121 : decode cX10_digest 121 = .ok (.ladd, 1) := by decide +kernel
theorem dX10_digest_122 : decode cX10_digest 122 = .ok (.lstore_n 1, 1) := by decide +kernel
theorem dX10_digest_123 : decode cX10_digest 123 = .ok (.iinc 5 1, 3) := by decide +kernel
theorem dX10_digest_126 : decode cX10_digest 126 = .ok (.goto (-26), 3) := by decide +kernel
theorem dX10_digest_129 : decode cX10_digest 129 = .ok (.iinc 4 1, 3) := by decide +kernel
theorem dX10_digest_132 : decode cX10_digest 132 = .ok (.goto (-49), 3) := by decide +kernel
theorem dX10_digest_135 : decode cX10_digest 135 = .ok (.iinc 3 1, 3) := by decide +kernel
theorem dX10_digest_138 : decode cX10_digest 138 = .ok (.goto (-94), 3) := by decide +kernel
theorem dX10_digest_141 : decode cX10_digest 141 = .ok (.iconst 0, 1) := by decide +kernel
theorem dX10_digest_142 : decode cX10_digest 142 = .ok (.istore_n 3, 1) := by decide +kernel
theorem dX10_digest_143 : decode cX10_digest 143 = .ok (.iload_n 3, 1) := by decide +kernel
theorem dX10_digest_144 : decode cX10_digest 144 = .ok (.aload_n 0, 1) := by decide +kernel
theorem dX10_digest_145 : decode cX10_digest 145 = .ok (.getfield 7, 3) := by decide +kernel
theorem dX10_digest_148 : decode cX10_digest 148 = .ok (.bipush 10, 2) := by decide +kernel
theorem dX10_digest_150 : decode cX10_digest 150 = .ok (.iaload, 1) := by decide +kernel
theorem dX10_digest_151 : decode cX10_digest 151 = .ok (.if_icmp .ge 39, 3) := by decide +kernel
theorem dX10_digest_154 : decode cX10_digest 154 = .ok (.iconst 0, 1) := by decide +kernel
theorem dX10_digest_155 : decode cX10_digest 155 = .ok (.istore 4, 2) := by decide +kernel
theorem dX10_digest_157 : decode cX10_digest 157 = .ok (.iload 4, 2) := by decide +kernel
theorem dX10_digest_159 : decode cX10_digest 159 = .ok (.iconst 2, 1) := by decide +kernel
theorem dX10_digest_160 : decode cX10_digest 160 = .ok (.if_icmp .gt 24, 3) := by decide +kernel
theorem dX10_digest_163 : decode cX10_digest 163 = .ok (.ldc2_w 212, 3) := by decide +kernel
theorem dX10_digest_166 : decode cX10_digest 166 = .ok (.lload_n 1, 1) := by decide +kernel
theorem dX10_digest_167 : decode cX10_digest 167 = .ok (.lmul, 1) := by decide +kernel
theorem dX10_digest_168 : decode cX10_digest 168 = .ok (.aload_n 0, 1) := by decide +kernel
theorem dX10_digest_169 : decode cX10_digest 169 = .ok (.iload_n 3, 1) := by decide +kernel
theorem dX10_digest_170 : decode cX10_digest 170 = .ok (.iload 4, 2) := by decide +kernel
theorem dX10_digest_172 : decode cX10_digest 172 = .ok (.invokevirtual 129, 3) := by decide +kernel
theorem dX10_digest_175 : decode cX10_digest 175 = .ok (.i2l, 1) := by decide +kernel
theorem dX10_digest_176 : decode cX10_digest 176 = .ok (.ladd, 1) := by decide +kernel
theorem dX10_digest_177 : decode cX10_digest 177 = .ok (.lstore_n 1, 1) := by decide +kernel
theorem dX10_digest_178 : decode cX10_digest 178 = .ok (.iinc 4 1, 3) := by decide +kernel
theorem dX10_digest_181 : decode cX10_digest 181 = .ok (.goto (-24), 3) := by decide +kernel
theorem dX10_digest_184 : decode cX10_digest 184 = .ok (.iinc 3 1, 3) := by decide +kernel
theorem dX10_digest_187 : decode cX10_digest 187 = .ok (.goto (-44), 3) := by decide +kernel
theorem dX10_digest_190 : decode cX10_digest 190 = .ok (.aload_n 0, 1) := by decide +kernel
theorem dX10_digest_191 : decode cX10_digest 191 = .ok (.invokevirtual 150, 3) := by decide +kernel
theorem dX10_digest_194 : decode cX10_digest 194 = .ok (.ldc2_w 212, 3) := by decide +kernel
theorem dX10_digest_197 : decode cX10_digest 197 = .ok (.lload_n 1, 1) := by decide +kernel
theorem dX10_digest_198 : decode cX10_digest 198 = .ok (.lmul, 1) := by decide +kernel
theorem dX10_digest_199 : decode cX10_digest 199 = .ok (.aload_n 0, 1) := by decide +kernel
theorem dX10_digest_200 : decode cX10_digest 200 = .ok (.getfield 138, 3) := by decide +kernel
theorem dX10_digest_203 : decode cX10_digest 203 = .ok (.i2l, 1) := by decide +kernel
theorem dX10_digest_204 : decode cX10_digest 204 = .ok (.ladd, 1) := by decide +kernel
theorem dX10_digest_205 : decode cX10_digest 205 = .ok (.lstore_n 1, 1) := by decide +kernel
theorem dX10_digest_206 : decode cX10_digest 206 = .ok (.iconst 0, 1) := by decide +kernel
theorem dX10_digest_207 : decode cX10_digest 207 = .ok (.istore_n 3, 1) := by decide +kernel
theorem dX10_digest_208 : decode cX10_digest 208 = .ok (.iload_n 3, 1) := by decide +kernel
theorem dX10_digest_209 : decode cX10_digest 209 = .ok (.bipush 8, 2) := by decide +kernel
theorem dX10_digest_211 : decode cX10_digest 211 = .ok (.aload_n 0, 1) := by decide +kernel
theorem dX10_digest_212 : decode cX10_digest 212 = .ok (.getfield 138, 3) := by decide +kernel
theorem dX10_digest_215 : decode cX10_digest 215 = .ok (.imul, 1) := by decide +kernel
theorem dX10_digest_216 : decode cX10_digest 216 = .ok (.if_icmp .ge 23, 3) := by decide +kernel
theorem dX10_digest_219 : decode cX10_digest 219 = .ok (.ldc2_w 212, 3) := by decide +kernel
theorem dX10_digest_222 : decode cX10_digest 222 = .ok (.lload_n 1, 1) := by decide +kernel
theorem dX10_digest_223 : decode cX10_digest 223 = .ok (.lmul, 1) := by decide +kernel
theorem dX10_digest_224 : decode cX10_digest 224 = .ok (.aload_n 0, 1) := by decide +kernel
theorem dX10_digest_225 : decode cX10_digest 225 = .ok (.getfield 19, 3) := by decide +kernel
theorem dX10_digest_228 : decode cX10_digest 228 = .ok (.iload_n 3, 1) := by decide +kernel
theorem dX10_digest_229 : decode cX10_digest 229 = .ok (.iaload, 1) := by decide +kernel
theorem dX10_digest_230 : decode cX10_digest 230 = .ok (.i2l, 1) := by decide +kernel
theorem dX10_digest_231 : decode cX10_digest 231 = .ok (.ladd, 1) := by decide +kernel
theorem dX10_digest_232 : decode cX10_digest 232 = .ok (.lstore_n 1, 1) := by decide +kernel
theorem dX10_digest_233 : decode cX10_digest 233 = .ok (.iinc 3 1, 3) := by decide +kernel
theorem dX10_digest_236 : decode cX10_digest 236 = .ok (.goto (-28), 3) := by decide +kernel
theorem dX10_digest_239 : decode cX10_digest 239 = .ok (.ldc2_w 212, 3) := by decide +kernel
theorem dX10_digest_242 : decode cX10_digest 242 = .ok (.lload_n 1, 1) := by decide +kernel
theorem dX10_digest_243 : decode cX10_digest 243 = .ok (.lmul, 1) := by decide +kernel
theorem dX10_digest_244 : decode cX10_digest 244 = .ok (.aload_n 0, 1) := by decide +kernel
theorem dX10_digest_245 : decode cX10_digest 245 = .ok (.getfield 141, 3) := by decide +kernel
theorem dX10_digest_248 : decode cX10_digest 248 = .ok (.i2l, 1) := by decide +kernel
theorem dX10_digest_249 : decode cX10_digest 249 = .ok (.ladd, 1) := by decide +kernel
theorem dX10_digest_250 : decode cX10_digest 250 = .ok (.lstore_n 1, 1) := by decide +kernel
theorem dX10_digest_251 : decode cX10_digest 251 = .ok (.ldc2_w 212, 3) := by decide +kernel
theorem dX10_digest_254 : decode cX10_digest 254 = .ok (.lload_n 1, 1) := by decide +kernel
theorem dX10_digest_255 : decode cX10_digest 255 = .ok (.lmul, 1) := by decide +kernel
theorem dX10_digest_256 : decode cX10_digest 256 = .ok (.aload_n 0, 1) := by decide +kernel
theorem dX10_digest_257 : decode cX10_digest 257 = .ok (.invokevirtual 159, 3) := by decide +kernel
theorem dX10_digest_260 : decode cX10_digest 260 = .ok (.i2l, 1) := by decide +kernel
theorem dX10_digest_261 : decode cX10_digest 261 = .ok (.ladd, 1) := by decide +kernel
theorem dX10_digest_262 : decode cX10_digest 262 = .ok (.lreturn, 1) := by decide +kernel
