theorem dX1_init_0 : decode cX1_init 0 = .ok (.aload_n 0, 1) := by decide +kernel
theorem dX1_init_1 : decode cX1_init 1 = .ok (.invokespecial 3, 3) := by decide +kernel
theorem dX1_init_4 : decode cX1_init 4 = .ok (.aload_n 0, 1) := by decide +kernel
theorem dX1_init_5 : decode cX1_init 5 = .ok (.bipush 60, 2) := by decide +kernel
theorem dX1_init_7 : decode cX1_init 7 = .ok (.newarray .int, 2) := by decide +kernel
theorem dX1_init_9 : decode cX1_init 9 = .ok (.putfield 9, 3) := by decide +kernel
theorem dX1_init_12 : decode cX1_init 12 = .ok (.return_, 1) := by decide +kernel
theorem dX1_copyFrom_0 : decode cX1_copyFrom 0 = .ok (.aload_n 0, 1) := by decide +kernel
theorem dX1_copyFrom_1 : decode cX1_copyFrom 1 = .ok (.aload_n 1, 1) := by decide +kernel
theorem dX1_copyFrom_2 : decode cX1_copyFrom 2 = .ok (.getfield 15, 3) := by decide +kernel
theorem dX1_copyFrom_5 : decode cX1_copyFrom 5 = .ok (.putfield 15, 3) := by decide +kernel
theorem dX1_copyFrom_8 : decode cX1_copyFrom 8 = .ok (.aload_n 1, 1) := by decide +kernel
theorem dX1_copyFrom_9 : decode cX1_copyFrom 9 = .ok (.getfield 9, 3) := by decide +kernel
theorem dX1_copyFrom_12 : decode cX1_copyFrom 12 = .ok (.aload_n 0, 1) := by decide +kernel
theorem dX1_copyFrom_13 : decode cX1_copyFrom 13 = .ok (.getfield 9, 3) := by decide +kernel
theorem dX1_copyFrom_16 : decode cX1_copyFrom 16 = .ok (.invokestatic 19, 3) := by decide +kernel
theorem dX1_copyFrom_19 : decode cX1_copyFrom 19 = .ok (.return_, 1) := by decide +kernel
theorem dX1_add_0 : decode cX1_add 0 = .ok (.aload_n 0, 1) := by decide +kernel
theorem dX1_add_1 : decode cX1_add 1 = .ok (.getfield 15, 3) := by decide +kernel
theorem dX1_add_4 : decode cX1_add 4 = .ok (.iconst 3, 1) := by decide +kernel
theorem dX1_add_5 : decode cX1_add 5 = .ok (.imul, 1) := by decide +kernel
theorem dX1_add_6 : decode cX1_add 6 = .ok (.istore 4, 2) := by decide +kernel
theorem dX1_add_8 : decode cX1_add 8 = .ok (.aload_n 0, 1) := by decide +kernel
theorem dX1_add_9 : decode cX1_add 9 = .ok (.getfield 9, 3) := by decide +kernel
theorem dX1_add_12 : decode cX1_add 12 = .ok (.iload 4, 2) := by decide +kernel
theorem dX1_add_14 : decode cX1_add 14 = .ok (.iload_n 1, 1) := by decide +kernel
theorem dX1_add_15 : decode cX1_add 15 = .ok (.iastore, 1) := by decide +kernel
theorem dX1_add_16 : decode cX1_add 16 = .ok (.aload_n 0, 1) := by decide +kernel
theorem dX1_add_17 : decode cX1_add 17 = .ok (.getfield 9, 3) := by decide +kernel
theorem dX1_add_20 : decode cX1_add 20 = .ok (.iload 4, 2) := by decide +kernel
theorem dX1_add_22 : decode cX1_add 22 = .ok (.iconst 1, 1) := by decide +kernel
theorem dX1_add_23 : decode cX1_add 23 = .ok (.iadd, 1) := by decide +kernel
theorem dX1_add_24 : decode cX1_add 24 = .ok (.iload_n 2, 1) := by decide +kernel
theorem dX1_add_25 : decode cX1_add 25 = .ok (.iastore, 1) := by decide +kernel
theorem dX1_add_26 : decode cX1_add 26 = .ok (.aload_n 0, 1) := by decide +kernel
theorem dX1_add_27 : decode cX1_add 27 = .ok (.getfield 9, 3) := by decide +kernel
theorem dX1_add_30 : decode cX1_add 30 = .ok (.iload 4, 2) := by decide +kernel
theorem dX1_add_32 : decode cX1_add 32 = .ok (.iconst 2, 1) := by decide +kernel
theorem dX1_add_33 : decode cX1_add 33 = .ok (.iadd, 1) := by decide +kernel
theorem dX1_add_34 : decode cX1_add 34 = .ok (.iload_n 3, 1) := by decide +kernel
theorem dX1_add_35 : decode cX1_add 35 = .ok (.iastore, 1) := by decide +kernel
theorem dX1_add_36 : decode cX1_add 36 = .ok (.aload_n 0, 1) := by decide +kernel
theorem dX1_add_37 : decode cX1_add 37 = .ok (.dup, 1) := by decide +kernel
theorem dX1_add_38 : decode cX1_add 38 = .ok (.getfield 15, 3) := by decide +kernel
theorem dX1_add_41 : decode cX1_add 41 = .ok (.iconst 1, 1) := by decide +kernel
theorem dX1_add_42 : decode cX1_add 42 = .ok (.iadd, 1) := by decide +kernel
theorem dX1_add_43 : decode cX1_add 43 = .ok (.putfield 15, 3) := by decide +kernel
theorem dX1_add_46 : decode cX1_add 46 = .ok (.return_, 1) := by decide +kernel
theorem dX1_choiceAmong_0 : decode cX1_choiceAmong 0 = .ok (.iconst 0, 1) := by decide +kernel
theorem dX1_choiceAmong_1 : decode cX1_choiceAmong 1 = .ok (.istore_n 3, 1) := by decide +kernel
theorem dX1_choiceAmong_2 : decode cX1_choiceAmong 2 = .ok (.iload_n 3, 1) := by decide +kernel
theorem dX1_choiceAmong_3 : decode cX1_choiceAmong 3 = .ok (.iconst 3, 1) := by decide +kernel
theorem dX1_choiceAmong_4 : decode cX1_choiceAmong 4 = .ok (.if_icmp .ge 39, 3) := by decide +kernel
theorem dX1_choiceAmong_7 : decode cX1_choiceAmong 7 = .ok (.aload_n 0, 1) := by decide +kernel
theorem dX1_choiceAmong_8 : decode cX1_choiceAmong 8 = .ok (.getfield 9, 3) := by decide +kernel
theorem dX1_choiceAmong_11 : decode cX1_choiceAmong 11 = .ok (.iload_n 2, 1) := by decide +kernel
theorem dX1_choiceAmong_12 : decode cX1_choiceAmong 12 = .ok (.iconst 3, 1) := by decide +kernel
theorem dX1_choiceAmong_13 : decode cX1_choiceAmong 13 = .ok (.imul, 1) := by decide +kernel
theorem dX1_choiceAmong_14 : decode cX1_choiceAmong 14 = .ok (.iload_n 3, 1) := by decide +kernel
theorem dX1_choiceAmong_15 : decode cX1_choiceAmong 15 = .ok (.iadd, 1) := by decide +kernel
theorem dX1_choiceAmong_16 : decode cX1_choiceAmong 16 = .ok (.iaload, 1) := by decide +kernel
theorem dX1_choiceAmong_17 : decode cX1_choiceAmong 17 = .ok (.istore 4, 2) := by decide +kernel
theorem dX1_choiceAmong_19 : decode cX1_choiceAmong 19 = .ok (.iload 4, 2) := by decide +kernel
theorem dX1_choiceAmong_21 : decode cX1_choiceAmong 21 = .ok (.invokestatic 23, 3) := by decide +kernel
theorem dX1_choiceAmong_24 : decode cX1_choiceAmong 24 = .ok (.ifCond .eq 13, 3) := by decide +kernel
theorem dX1_choiceAmong_27 : decode cX1_choiceAmong 27 = .ok (.aload_n 1, 1) := by decide +kernel
theorem dX1_choiceAmong_28 : decode cX1_choiceAmong 28 = .ok (.iload 4, 2) := by decide +kernel
theorem dX1_choiceAmong_30 : decode cX1_choiceAmong 30 = .ok (.baload, 1) := by decide +kernel
theorem dX1_choiceAmong_31 : decode cX1_choiceAmong 31 = .ok (.ifCond .eq 6, 3) := by decide +kernel
theorem dX1_choiceAmong_34 : decode cX1_choiceAmong 34 = .ok (.iload 4, 2) := by decide +kernel
theorem dX1_choiceAmong_36 : decode cX1_choiceAmong 36 = .ok (.ireturn, 1) := by decide +kernel
theorem dX1_choiceAmong_37 : decode cX1_choiceAmong 37 = .ok (.iinc 3 1, 3) := by decide +kernel
theorem dX1_choiceAmong_40 : decode cX1_choiceAmong 40 = .ok (.goto (-38), 3) := by decide +kernel
theorem dX1_choiceAmong_43 : decode cX1_choiceAmong 43 = .ok (.iconst (-1), 1) := by decide +kernel
theorem dX1_choiceAmong_44 : decode cX1_choiceAmong 44 = .ok (.ireturn, 1) := by decide +kernel
theorem dX2_init_0 : decode cX2_init 0 = .ok (.aload_n 0, 1) := by decide +kernel
theorem dX2_init_1 : decode cX2_init 1 = .ok (.invokespecial 3, 3) := by decide +kernel
theorem dX2_init_4 : decode cX2_init 4 = .ok (.aload_n 0, 1) := by decide +kernel
theorem dX2_init_5 : decode cX2_init 5 = .ok (.iconst (-1), 1) := by decide +kernel
theorem dX2_init_6 : decode cX2_init 6 = .ok (.putfield 9, 3) := by decide +kernel
theorem dX2_init_9 : decode cX2_init 9 = .ok (.aload_n 0, 1) := by decide +kernel
theorem dX2_init_10 : decode cX2_init 10 = .ok (.bipush 8, 2) := by decide +kernel
theorem dX2_init_12 : decode cX2_init 12 = .ok (.newarray .boolean, 2) := by decide +kernel
theorem dX2_init_14 : decode cX2_init 14 = .ok (.putfield 15, 3) := by decide +kernel
theorem dX2_init_17 : decode cX2_init 17 = .ok (.aload_n 0, 1) := by decide +kernel
theorem dX2_init_18 : decode cX2_init 18 = .ok (.bipush 64, 2) := by decide +kernel
theorem dX2_init_20 : decode cX2_init 20 = .ok (.newarray .int, 2) := by decide +kernel
theorem dX2_init_22 : decode cX2_init 22 = .ok (.putfield 19, 3) := by decide +kernel
theorem dX2_init_25 : decode cX2_init 25 = .ok (.return_, 1) := by decide +kernel
theorem dX2_take_0 : decode cX2_take 0 = .ok (.aload_n 0, 1) := by decide +kernel
theorem dX2_take_1 : decode cX2_take 1 = .ok (.iconst 0, 1) := by decide +kernel
theorem dX2_take_2 : decode cX2_take 2 = .ok (.putfield 23, 3) := by decide +kernel
theorem dX2_take_5 : decode cX2_take 5 = .ok (.aload_n 0, 1) := by decide +kernel
theorem dX2_take_6 : decode cX2_take 6 = .ok (.iconst (-1), 1) := by decide +kernel
theorem dX2_take_7 : decode cX2_take 7 = .ok (.putfield 9, 3) := by decide +kernel
theorem dX2_take_10 : decode cX2_take 10 = .ok (.iconst 0, 1) := by decide +kernel
theorem dX2_take_11 : decode cX2_take 11 = .ok (.istore_n 3, 1) := by decide +kernel
theorem dX2_take_12 : decode cX2_take 12 = .ok (.iload_n 3, 1) := by decide +kernel
theorem dX2_take_13 : decode cX2_take 13 = .ok (.bipush 8, 2) := by decide +kernel
theorem dX2_take_15 : decode cX2_take 15 = .ok (.if_icmp .ge 21, 3) := by decide +kernel
theorem dX2_take_18 : decode cX2_take 18 = .ok (.aload_n 0, 1) := by decide +kernel
theorem dX2_take_19 : decode cX2_take 19 = .ok (.getfield 15, 3) := by decide +kernel
theorem dX2_take_22 : decode cX2_take 22 = .ok (.iload_n 3, 1) := by decide +kernel
theorem dX2_take_23 : decode cX2_take 23 = .ok (.aload_n 1, 1) := by decide +kernel
theorem dX2_take_24 : decode cX2_take 24 = .ok (.iload_n 3, 1) := by decide +kernel
theorem dX2_take_25 : decode cX2_take 25 = .ok (.iconst 0, 1) := by decide +kernel
theorem dX2_take_26 : decode cX2_take 26 = .ok (.invokevirtual 26, 3) := by decide +kernel
theorem dX2_take_29 : decode cX2_take 29 = .ok (.bastore, 1) := by decide +kernel
theorem dX2_take_30 : decode cX2_take 30 = .ok (.iinc 3 1, 3) := by decide +kernel
theorem dX2_take_33 : decode cX2_take 33 = .ok (.goto (-21), 3) := by decide +kernel
theorem dX2_take_36 : decode cX2_take 36 = .ok (.aload_n 1, 1) := by decide +kernel
theorem dX2_take_37 : decode cX2_take 37 = .ok (.invokevirtual 32, 3) := by decide +kernel
theorem dX2_take_40 : decode cX2_take 40 = .ok (.ifCond .ne 4, 3) := by decide +kernel
theorem dX2_take_43 : decode cX2_take 43 = .ok (.return_, 1) := by decide +kernel
theorem dX2_take_44 : decode cX2_take 44 = .ok (.iconst 0, 1) := by decide +kernel
theorem dX2_take_45 : decode cX2_take 45 = .ok (.istore_n 3, 1) := by decide +kernel
theorem dX2_take_46 : decode cX2_take 46 = .ok (.iload_n 3, 1) := by decide +kernel
theorem dX2_take_47 : decode cX2_take 47 = .ok (.bipush 8, 2) := by decide +kernel
theorem dX2_take_49 : decode cX2_take 49 = .ok (.if_icmp .ge 46, 3) := by decide +kernel
theorem dX2_take_52 : decode cX2_take 52 = .ok (.aload_n 0, 1) := by decide +kernel
theorem dX2_take_53 : decode cX2_take 53 = .ok (.iload_n 3, 1) := by decide +kernel
theorem dX2_take_54 : decode cX2_take 54 = .ok (.aload_n 2, 1) := by decide +kernel
theorem dX2_take_55 : decode cX2_take 55 = .ok (.invokevirtual 36, 3) := by decide +kernel
theorem dX2_take_58 : decode cX2_take 58 = .ok (.aload_n 0, 1) := by decide +kernel
theorem dX2_take_59 : decode cX2_take 59 = .ok (.iload_n 3, 1) := by decide +kernel
theorem dX2_take_60 : decode cX2_take 60 = .ok (.iconst 1, 1) := by decide +kernel
theorem dX2_take_61 : decode cX2_take 61 = .ok (.iadd, 1) := by decide +kernel
theorem dX2_take_62 : decode cX2_take 62 = .ok (.putfield 23, 3) := by decide +kernel
theorem dX2_take_65 : decode cX2_take 65 = .ok (.aload_n 0, 1) := by decide +kernel
theorem dX2_take_66 : decode cX2_take 66 = .ok (.aload_n 0, 1) := by decide +kernel
theorem dX2_take_67 : decode cX2_take 67 = .ok (.iload_n 3, 1) := by decide +kernel
theorem dX2_take_68 : decode cX2_take 68 = .ok (.invokevirtual 40, 3) := by decide +kernel
theorem dX2_take_71 : decode cX2_take 71 = .ok (.putfield 9, 3) := by decide +kernel
theorem dX2_take_74 : decode cX2_take 74 = .ok (.aload_n 0, 1) := by decide +kernel
theorem dX2_take_75 : decode cX2_take 75 = .ok (.getfield 9, 3) := by decide +kernel
theorem dX2_take_78 : decode cX2_take 78 = .ok (.iconst (-1), 1) := by decide +kernel
theorem dX2_take_79 : decode cX2_take 79 = .ok (.if_icmp .eq 4, 3) := by decide +kernel
theorem dX2_take_82 : decode cX2_take 82 = .ok (.return_, 1) := by decide +kernel
theorem dX2_take_83 : decode cX2_take 83 = .ok (.aload_n 0, 1) := by decide +kernel
theorem dX2_take_84 : decode cX2_take 84 = .ok (.iload_n 3, 1) := by decide +kernel
theorem dX2_take_85 : decode cX2_take 85 = .ok (.aload_n 1, 1) := by decide +kernel
theorem dX2_take_86 : decode cX2_take 86 = .ok (.invokevirtual 44, 3) := by decide +kernel
theorem dX2_take_89 : decode cX2_take 89 = .ok (.iinc 3 1, 3) := by decide +kernel
theorem dX2_take_92 : decode cX2_take 92 = .ok (.goto (-46), 3) := by decide +kernel
theorem dX2_take_95 : decode cX2_take 95 = .ok (.return_, 1) := by decide +kernel
theorem dX2_votesIn_0 : decode cX2_votesIn 0 = .ok (.iload_n 1, 1) := by decide +kernel
theorem dX2_votesIn_1 : decode cX2_votesIn 1 = .ok (.ifCond .lt 11, 3) := by decide +kernel
theorem dX2_votesIn_4 : decode cX2_votesIn 4 = .ok (.iload_n 1, 1) := by decide +kernel
theorem dX2_votesIn_5 : decode cX2_votesIn 5 = .ok (.aload_n 0, 1) := by decide +kernel
theorem dX2_votesIn_6 : decode cX2_votesIn 6 = .ok (.getfield 23, 3) := by decide +kernel
theorem dX2_votesIn_9 : decode cX2_votesIn 9 = .ok (.if_icmp .lt 5, 3) := by decide +kernel
theorem dX2_votesIn_12 : decode cX2_votesIn 12 = .ok (.iconst (-1), 1) := by decide +kernel
theorem dX2_votesIn_13 : decode cX2_votesIn 13 = .ok (.ireturn, 1) := by decide +kernel
theorem dX2_votesIn_14 : decode cX2_votesIn 14 = .ok (.aload_n 0, 1) := by decide +kernel
theorem dX2_votesIn_15 : decode cX2_votesIn 15 = .ok (.getfield 19, 3) := by decide +kernel
theorem dX2_votesIn_18 : decode cX2_votesIn 18 = .ok (.iload_n 1, 1) := by decide +kernel
theorem dX2_votesIn_19 : decode cX2_votesIn 19 = .ok (.bipush 8, 2) := by decide +kernel
theorem dX2_votesIn_21 : decode cX2_votesIn 21 = .ok (.imul, 1) := by decide +kernel
theorem dX2_votesIn_22 : decode cX2_votesIn 22 = .ok (.iload_n 2, 1) := by decide +kernel
theorem dX2_votesIn_23 : decode cX2_votesIn 23 = .ok (.iadd, 1) := by decide +kernel
theorem dX2_votesIn_24 : decode cX2_votesIn 24 = .ok (.iaload, 1) := by decide +kernel
theorem dX2_votesIn_25 : decode cX2_votesIn 25 = .ok (.ireturn, 1) := by decide +kernel
theorem dX2_countVotes_0 : decode cX2_countVotes 0 = .ok (.aload_n 0, 1) := by decide +kernel
theorem dX2_countVotes_1 : decode cX2_countVotes 1 = .ok (.iconst 0, 1) := by decide +kernel
theorem dX2_countVotes_2 : decode cX2_countVotes 2 = .ok (.putfield 48, 3) := by decide +kernel
theorem dX2_countVotes_5 : decode cX2_countVotes 5 = .ok (.iconst 0, 1) := by decide +kernel
theorem dX2_countVotes_6 : decode cX2_countVotes 6 = .ok (.istore_n 3, 1) := by decide +kernel
theorem dX2_countVotes_7 : decode cX2_countVotes 7 = .ok (.iload_n 3, 1) := by decide +kernel
theorem dX2_countVotes_8 : decode cX2_countVotes 8 = .ok (.bipush 8, 2) := by decide +kernel
theorem dX2_countVotes_10 : decode cX2_countVotes 10 = .ok (.if_icmp .ge 34, 3) := by decide +kernel
theorem dX2_countVotes_13 : decode cX2_countVotes 13 = .ok (.aload_n 0, 1) := by decide +kernel
theorem dX2_countVotes_14 : decode cX2_countVotes 14 = .ok (.getfield 19, 3) := by decide +kernel
theorem dX2_countVotes_17 : decode cX2_countVotes 17 = .ok (.iload_n 1, 1) := by decide +kernel
theorem dX2_countVotes_18 : decode cX2_countVotes 18 = .ok (.bipush 8, 2) := by decide +kernel
theorem dX2_countVotes_20 : decode cX2_countVotes 20 = .ok (.imul, 1) := by decide +kernel
theorem dX2_countVotes_21 : decode cX2_countVotes 21 = .ok (.iload_n 3, 1) := by decide +kernel
theorem dX2_countVotes_22 : decode cX2_countVotes 22 = .ok (.iadd, 1) := by decide +kernel
theorem dX2_countVotes_23 : decode cX2_countVotes 23 = .ok (.aload_n 0, 1) := by decide +kernel
theorem dX2_countVotes_24 : decode cX2_countVotes 24 = .ok (.getfield 15, 3) := by decide +kernel
theorem dX2_countVotes_27 : decode cX2_countVotes 27 = .ok (.iload_n 3, 1) := by decide +kernel
theorem dX2_countVotes_28 : decode cX2_countVotes 28 = .ok (.baload, 1) := by decide +kernel
theorem dX2_countVotes_29 : decode cX2_countVotes 29 = .ok (.ifCond .eq 7, 3) := by decide +kernel
theorem dX2_countVotes_32 : decode cX2_countVotes 32 = .ok (.iconst 0, 1) := by decide +kernel
theorem dX2_countVotes_33 : decode cX2_countVotes 33 = .ok (.goto 4, 3) := by decide +kernel
theorem dX2_countVotes_36 : decode cX2_countVotes 36 = .ok (.iconst (-1), 1) := by decide +kernel
theorem dX2_countVotes_37 : decode cX2_countVotes 37 = .ok (.iastore, 1) := by decide +kernel
theorem dX2_countVotes_38 : decode cX2_countVotes 38 = .ok (.iinc 3 1, 3) := by decide +kernel
theorem dX2_countVotes_41 : decode cX2_countVotes 41 = .ok (.goto (-34), 3) := by decide +kernel
theorem dX2_countVotes_44 : decode cX2_countVotes 44 = .ok (.iconst 0, 1) := by decide +kernel
theorem dX2_countVotes_45 : decode cX2_countVotes 45 = .ok (.istore_n 3, 1) := by decide +kernel
theorem dX2_countVotes_46 : decode cX2_countVotes 46 = .ok (.iload_n 3, 1) := by decide +kernel
theorem dX2_countVotes_47 : decode cX2_countVotes 47 = .ok (.aload_n 2, 1) := by decide +kernel
theorem dX2_countVotes_48 : decode cX2_countVotes 48 = .ok (.getfield 51, 3) := by decide +kernel
theorem dX2_countVotes_51 : decode cX2_countVotes 51 = .ok (.if_icmp .ge 52, 3) := by decide +kernel
theorem dX2_countVotes_54 : decode cX2_countVotes 54 = .ok (.aload_n 2, 1) := by decide +kernel
theorem dX2_countVotes_55 : decode cX2_countVotes 55 = .ok (.aload_n 0, 1) := by decide +kernel
theorem dX2_countVotes_56 : decode cX2_countVotes 56 = .ok (.getfield 15, 3) := by decide +kernel
theorem dX2_countVotes_59 : decode cX2_countVotes 59 = .ok (.iload_n 3, 1) := by decide +kernel
theorem dX2_countVotes_60 : decode cX2_countVotes 60 = .ok (.invokevirtual 56, 3) := by decide +kernel
theorem dX2_countVotes_63 : decode cX2_countVotes 63 = .ok (.istore 4, 2) := by decide +kernel
theorem dX2_countVotes_65 : decode cX2_countVotes 65 = .ok (.iload 4, 2) := by decide +kernel
theorem dX2_countVotes_67 : decode cX2_countVotes 67 = .ok (.iconst (-1), 1) := by decide +kernel
theorem dX2_countVotes_68 : decode cX2_countVotes 68 = .ok (.if_icmp .eq 29, 3) := by decide +kernel
theorem dX2_countVotes_71 : decode cX2_countVotes 71 = .ok (.aload_n 0, 1) := by decide +kernel
theorem dX2_countVotes_72 : decode cX2_countVotes 72 = .ok (.getfield 19, 3) := by decide +kernel
theorem dX2_countVotes_75 : decode cX2_countVotes 75 = .ok (.iload_n 1, 1) := by decide +kernel
theorem dX2_countVotes_76 : decode cX2_countVotes 76 = .ok (.bipush 8, 2) := by decide +kernel
theorem dX2_countVotes_78 : decode cX2_countVotes 78 = .ok (.imul, 1) := by decide +kernel
theorem dX2_countVotes_79 : decode cX2_countVotes 79 = .ok (.iload 4, 2) := by decide +kernel
theorem dX2_countVotes_81 : decode cX2_countVotes 81 = .ok (.iadd, 1) := by decide +kernel
theorem dX2_countVotes_82 : decode cX2_countVotes 82 = .ok (.dup2, 1) := by decide +kernel
theorem dX2_countVotes_83 : decode cX2_countVotes 83 = .ok (.iaload, 1) := by decide +kernel
theorem dX2_countVotes_84 : decode cX2_countVotes 84 = .ok (.iconst 1, 1) := by decide +kernel
theorem dX2_countVotes_85 : decode cX2_countVotes 85 = .ok (.iadd, 1) := by decide +kernel
theorem dX2_countVotes_86 : decode cX2_countVotes 86 = .ok (.iastore, 1) := by decide +kernel
theorem dX2_countVotes_87 : decode cX2_countVotes 87 = .ok (.aload_n 0, 1) := by decide +kernel
theorem dX2_countVotes_88 : decode cX2_countVotes 88 = .ok (.dup, 1) := by decide +kernel
theorem dX2_countVotes_89 : decode cX2_countVotes 89 = .ok (.getfield 48, 3) := by decide +kernel
theorem dX2_countVotes_92 : decode cX2_countVotes 92 = .ok (.iconst 1, 1) := by decide +kernel
theorem dX2_countVotes_93 : decode cX2_countVotes 93 = .ok (.iadd, 1) := by decide +kernel
theorem dX2_countVotes_94 : decode cX2_countVotes 94 = .ok (.putfield 48, 3) := by decide +kernel
theorem dX2_countVotes_97 : decode cX2_countVotes 97 = .ok (.iinc 3 1, 3) := by decide +kernel
theorem dX2_countVotes_100 : decode cX2_countVotes 100 = .ok (.goto (-54), 3) := by decide +kernel
theorem dX2_countVotes_103 : decode cX2_countVotes 103 = .ok (.return_, 1) := by decide +kernel
theorem dX2_winnerOf_0 : decode cX2_winnerOf 0 = .ok (.iconst 0, 1) := by decide +kernel
theorem dX2_winnerOf_1 : decode cX2_winnerOf 1 = .ok (.istore_n 2, 1) := by decide +kernel
theorem dX2_winnerOf_2 : decode cX2_winnerOf 2 = .ok (.iconst (-1), 1) := by decide +kernel
theorem dX2_winnerOf_3 : decode cX2_winnerOf 3 = .ok (.istore_n 3, 1) := by decide +kernel
theorem dX2_winnerOf_4 : decode cX2_winnerOf 4 = .ok (.iconst 0, 1) := by decide +kernel
theorem dX2_winnerOf_5 : decode cX2_winnerOf 5 = .ok (.istore 4, 2) := by decide +kernel
theorem dX2_winnerOf_7 : decode cX2_winnerOf 7 = .ok (.iload 4, 2) := by decide +kernel
theorem dX2_winnerOf_9 : decode cX2_winnerOf 9 = .ok (.bipush 8, 2) := by decide +kernel
theorem dX2_winnerOf_11 : decode cX2_winnerOf 11 = .ok (.if_icmp .ge 49, 3) := by decide +kernel
theorem dX2_winnerOf_14 : decode cX2_winnerOf 14 = .ok (.aload_n 0, 1) := by decide +kernel
theorem dX2_winnerOf_15 : decode cX2_winnerOf 15 = .ok (.getfield 15, 3) := by decide +kernel
theorem dX2_winnerOf_18 : decode cX2_winnerOf 18 = .ok (.iload 4, 2) := by decide +kernel
theorem dX2_winnerOf_20 : decode cX2_winnerOf 20 = .ok (.baload, 1) := by decide +kernel
theorem dX2_winnerOf_21 : decode cX2_winnerOf 21 = .ok (.ifCond .eq 33, 3) := by decide +kernel
theorem dX2_winnerOf_24 : decode cX2_winnerOf 24 = .ok (.iconst 2, 1) := by decide +kernel
theorem dX2_winnerOf_25 : decode cX2_winnerOf 25 = .ok (.aload_n 0, 1) := by decide +kernel
theorem dX2_winnerOf_26 : decode cX2_winnerOf 26 = .ok (.getfield 19, 3) := by decide +kernel
theorem dX2_winnerOf_29 : decode cX2_winnerOf 29 = .ok (.iload_n 1, 1) := by decide +kernel
theorem dX2_winnerOf_30 : decode cX2_winnerOf 30 = .ok (.bipush 8, 2) := by decide +kernel
theorem dX2_winnerOf_32 : decode cX2_winnerOf 32 = .ok (.imul, 1) := by decide +kernel
theorem dX2_winnerOf_33 : decode cX2_winnerOf 33 = .ok (.iload 4, 2) := by decide +kernel
theorem dX2_winnerOf_35 : decode cX2_winnerOf 35 = .ok (.iadd, 1) := by decide +kernel
theorem dX2_winnerOf_36 : decode cX2_winnerOf 36 = .ok (.iaload, 1) := by decide +kernel
theorem dX2_winnerOf_37 : decode cX2_winnerOf 37 = .ok (.imul, 1) := by decide +kernel
theorem dX2_winnerOf_38 : decode cX2_winnerOf 38 = .ok (.aload_n 0, 1) := by decide +kernel
theorem dX2_winnerOf_39 : decode cX2_winnerOf 39 = .ok (.getfield 48, 3) := by decide +kernel
theorem dX2_winnerOf_42 : decode cX2_winnerOf 42 = .ok (.if_icmp .le 6, 3) := by decide +kernel
theorem dX2_winnerOf_45 : decode cX2_winnerOf 45 = .ok (.iload 4, 2) := by decide +kernel
theorem dX2_winnerOf_47 : decode cX2_winnerOf 47 = .ok (.ireturn, 1) := by decide +kernel
theorem dX2_winnerOf_48 : decode cX2_winnerOf 48 = .ok (.iinc 2 1, 3) := by decide +kernel
theorem dX2_winnerOf_51 : decode cX2_winnerOf 51 = .ok (.iload 4, 2) := by decide +kernel
theorem dX2_winnerOf_53 : decode cX2_winnerOf 53 = .ok (.istore_n 3, 1) := by decide +kernel
theorem dX2_winnerOf_54 : decode cX2_winnerOf 54 = .ok (.iinc 4 1, 3) := by decide +kernel
theorem dX2_winnerOf_57 : decode cX2_winnerOf 57 = .ok (.goto (-50), 3) := by decide +kernel
theorem dX2_winnerOf_60 : decode cX2_winnerOf 60 = .ok (.iload_n 2, 1) := by decide +kernel
theorem dX2_winnerOf_61 : decode cX2_winnerOf 61 = .ok (.iconst 1, 1) := by decide +kernel
theorem dX2_winnerOf_62 : decode cX2_winnerOf 62 = .ok (.if_icmp .ne 7, 3) := by decide +kernel
theorem dX2_winnerOf_65 : decode cX2_winnerOf 65 = .ok (.iload_n 3, 1) := by decide +kernel
theorem dX2_winnerOf_66 : decode cX2_winnerOf 66 = .ok (.goto 4, 3) := by decide +kernel
theorem dX2_winnerOf_69 : decode cX2_winnerOf 69 = .ok (.iconst (-1), 1) := by decide +kernel
theorem dX2_winnerOf_70 : decode cX2_winnerOf 70 = .ok (.ireturn, 1) := by decide +kernel
theorem dX2_dropWeakest_0 : decode cX2_dropWeakest 0 = .ok (.iconst (-1), 1) := by decide +kernel
theorem dX2_dropWeakest_1 : decode cX2_dropWeakest 1 = .ok (.istore_n 3, 1) := by decide +kernel
theorem dX2_dropWeakest_2 : decode cX2_dropWeakest 2 = .ok (.iconst 0, 1) := by decide +kernel
theorem dX2_dropWeakest_3 : decode cX2_dropWeakest 3 = .ok (.istore 4, 2) := by decide +kernel
theorem dX2_dropWeakest_5 : decode cX2_dropWeakest 5 = .ok (.iload 4, 2) := by decide +kernel
theorem dX2_dropWeakest_7 : decode cX2_dropWeakest 7 = .ok (.bipush 8, 2) := by decide +kernel
theorem dX2_dropWeakest_9 : decode cX2_dropWeakest 9 = .ok (.if_icmp .ge 39, 3) := by decide +kernel
theorem dX2_dropWeakest_12 : decode cX2_dropWeakest 12 = .ok (.aload_n 0, 1) := by decide +kernel
theorem dX2_dropWeakest_13 : decode cX2_dropWeakest 13 = .ok (.getfield 15, 3) := by decide +kernel
theorem dX2_dropWeakest_16 : decode cX2_dropWeakest 16 = .ok (.iload 4, 2) := by decide +kernel
theorem dX2_dropWeakest_18 : decode cX2_dropWeakest 18 = .ok (.baload, 1) := by decide +kernel
theorem dX2_dropWeakest_19 : decode cX2_dropWeakest 19 = .ok (.ifCond .eq 23, 3) := by decide +kernel
theorem dX2_dropWeakest_22 : decode cX2_dropWeakest 22 = .ok (.iload_n 3, 1) := by decide +kernel
theorem dX2_dropWeakest_23 : decode cX2_dropWeakest 23 = .ok (.iconst (-1), 1) := by decide +kernel
theorem dX2_dropWeakest_24 : decode cX2_dropWeakest 24 = .ok (.if_icmp .eq 15, 3) := by decide +kernel
theorem dX2_dropWeakest_27 : decode cX2_dropWeakest 27 = .ok (.aload_n 0, 1) := by decide +kernel
theorem dX2_dropWeakest_28 : decode cX2_dropWeakest 28 = .ok (.iload 4, 2) := by decide +kernel
theorem dX2_dropWeakest_30 : decode cX2_dropWeakest 30 = .ok (.iload_n 3, 1) := by decide +kernel
theorem dX2_dropWeakest_31 : decode cX2_dropWeakest 31 = .ok (.iload_n 1, 1) := by decide +kernel
theorem dX2_dropWeakest_32 : decode cX2_dropWeakest 32 = .ok (.aload_n 2, 1) := by decide +kernel
theorem dX2_dropWeakest_33 : decode cX2_dropWeakest 33 = .ok (.invokevirtual 60, 3) := by decide +kernel
theorem dX2_dropWeakest_36 : decode cX2_dropWeakest 36 = .ok (.ifCond .eq 6, 3) := by decide +kernel
theorem dX2_dropWeakest_39 : decode cX2_dropWeakest 39 = .ok (.iload 4, 2) := by decide +kernel
theorem dX2_dropWeakest_41 : decode cX2_dropWeakest 41 = .ok (.istore_n 3, 1) := by decide +kernel
theorem dX2_dropWeakest_42 : decode cX2_dropWeakest 42 = .ok (.iinc 4 1, 3) := by decide +kernel
theorem dX2_dropWeakest_45 : decode cX2_dropWeakest 45 = .ok (.goto (-40), 3) := by decide +kernel
theorem dX2_dropWeakest_48 : decode cX2_dropWeakest 48 = .ok (.iload_n 3, 1) := by decide +kernel
theorem dX2_dropWeakest_49 : decode cX2_dropWeakest 49 = .ok (.iconst (-1), 1) := by decide +kernel
theorem dX2_dropWeakest_50 : decode cX2_dropWeakest 50 = .ok (.if_icmp .eq 10, 3) := by decide +kernel
theorem dX2_dropWeakest_53 : decode cX2_dropWeakest 53 = .ok (.aload_n 0, 1) := by decide +kernel
theorem dX2_dropWeakest_54 : decode cX2_dropWeakest 54 = .ok (.getfield 15, 3) := by decide +kernel
theorem dX2_dropWeakest_57 : decode cX2_dropWeakest 57 = .ok (.iload_n 3, 1) := by decide +kernel
theorem dX2_dropWeakest_58 : decode cX2_dropWeakest 58 = .ok (.iconst 0, 1) := by decide +kernel
theorem dX2_dropWeakest_59 : decode cX2_dropWeakest 59 = .ok (.bastore, 1) := by decide +kernel
theorem dX2_dropWeakest_60 : decode cX2_dropWeakest 60 = .ok (.return_, 1) := by decide +kernel
theorem dX2_isNotStronger_0 : decode cX2_isNotStronger 0 = .ok (.aload_n 0, 1) := by decide +kernel
theorem dX2_isNotStronger_1 : decode cX2_isNotStronger 1 = .ok (.getfield 19, 3) := by decide +kernel
theorem dX2_isNotStronger_4 : decode cX2_isNotStronger 4 = .ok (.iload_n 3, 1) := by decide +kernel
theorem dX2_isNotStronger_5 : decode cX2_isNotStronger 5 = .ok (.bipush 8, 2) := by decide +kernel
theorem dX2_isNotStronger_7 : decode cX2_isNotStronger 7 = .ok (.imul, 1) := by decide +kernel
theorem dX2_isNotStronger_8 : decode cX2_isNotStronger 8 = .ok (.iload_n 1, 1) := by decide +kernel
theorem dX2_isNotStronger_9 : decode cX2_isNotStronger 9 = .ok (.iadd, 1) := by decide +kernel
theorem dX2_isNotStronger_10 : decode cX2_isNotStronger 10 = .ok (.iaload, 1) := by decide +kernel
theorem dX2_isNotStronger_11 : decode cX2_isNotStronger 11 = .ok (.istore 5, 2) := by decide +kernel
theorem dX2_isNotStronger_13 : decode cX2_isNotStronger 13 = .ok (.aload_n 0, 1) := by decide +kernel
theorem dX2_isNotStronger_14 : decode cX2_isNotStronger 14 = .ok (.getfield 19, 3) := by decide +kernel
theorem dX2_isNotStronger_17 : decode cX2_isNotStronger 17 = .ok (.iload_n 3, 1) := by decide +kernel
theorem dX2_isNotStronger_18 : decode cX2_isNotStronger 18 = .ok (.bipush 8, 2) := by decide +kernel
theorem dX2_isNotStronger_20 : decode cX2_isNotStronger 20 = .ok (.imul, 1) := by decide +kernel
theorem dX2_isNotStronger_21 : decode cX2_isNotStronger 21 = .ok (.iload_n 2, 1) := by decide +kernel
theorem dX2_isNotStronger_22 : decode cX2_isNotStronger 22 = .ok (.iadd, 1) := by decide +kernel
theorem dX2_isNotStronger_23 : decode cX2_isNotStronger 23 = .ok (.iaload, 1) := by decide +kernel
theorem dX2_isNotStronger_24 : decode cX2_isNotStronger 24 = .ok (.istore 6, 2) := by decide +kernel
theorem dX2_isNotStronger_26 : decode cX2_isNotStronger 26 = .ok (.iload 5, 2) := by decide +kernel
theorem dX2_isNotStronger_28 : decode cX2_isNotStronger 28 = .ok (.iload 6, 2) := by decide +kernel
theorem dX2_isNotStronger_30 : decode cX2_isNotStronger 30 = .ok (.if_icmp .eq 16, 3) := by decide +kernel
theorem dX2_isNotStronger_33 : decode cX2_isNotStronger 33 = .ok (.iload 5, 2) := by decide +kernel
theorem dX2_isNotStronger_35 : decode cX2_isNotStronger 35 = .ok (.iload 6, 2) := by decide +kernel
theorem dX2_isNotStronger_37 : decode cX2_isNotStronger 37 = .ok (.if_icmp .ge 7, 3) := by decide +kernel
theorem dX2_isNotStronger_40 : decode cX2_isNotStronger 40 = .ok (.iconst 1, 1) := by decide +kernel
theorem dX2_isNotStronger_41 : decode cX2_isNotStronger 41 = .ok (.goto 4, 3) := by decide +kernel
theorem dX2_isNotStronger_44 : decode cX2_isNotStronger 44 = .ok (.iconst 0, 1) := by decide +kernel
theorem dX2_isNotStronger_45 : decode cX2_isNotStronger 45 = .ok (.ireturn, 1) := by decide +kernel
theorem dX2_isNotStronger_46 : decode cX2_isNotStronger 46 = .ok (.aload 4, 2) := by decide +kernel
theorem dX2_isNotStronger_48 : decode cX2_isNotStronger 48 = .ok (.iload_n 1, 1) := by decide +kernel
theorem dX2_isNotStronger_49 : decode cX2_isNotStronger 49 = .ok (.invokevirtual 64, 3) := by decide +kernel
theorem dX2_isNotStronger_52 : decode cX2_isNotStronger 52 = .ok (.aload 4, 2) := by decide +kernel
theorem dX2_isNotStronger_54 : decode cX2_isNotStronger 54 = .ok (.iload_n 2, 1) := by decide +kernel
theorem dX2_isNotStronger_55 : decode cX2_isNotStronger 55 = .ok (.invokevirtual 64, 3) := by decide +kernel
theorem dX2_isNotStronger_58 : decode cX2_isNotStronger 58 = .ok (.if_icmp .gt 7, 3) := by decide +kernel
theorem dX2_isNotStronger_61 : decode cX2_isNotStronger 61 = .ok (.iconst 1, 1) := by decide +kernel
theorem dX2_isNotStronger_62 : decode cX2_isNotStronger 62 = .ok (.goto 4, 3) := by decide +kernel
theorem dX2_isNotStronger_65 : decode cX2_isNotStronger 65 = .ok (.iconst 0, 1) := by decide +kernel
theorem dX2_isNotStronger_66 : decode cX2_isNotStronger 66 = .ok (.ireturn, 1) := by decide +kernel
theorem dX3_init_0 : decode cX3_init 0 = .ok (.aload_n 0, 1) := by decide +kernel
theorem dX3_init_1 : decode cX3_init 1 = .ok (.invokespecial 3, 3) := by decide +kernel
theorem dX3_init_4 : decode cX3_init 4 = .ok (.aload_n 0, 1) := by decide +kernel
theorem dX3_init_5 : decode cX3_init 5 = .ok (.iconst 4, 1) := by decide +kernel
theorem dX3_init_6 : decode cX3_init 6 = .ok (.newarray .int, 2) := by decide +kernel
theorem dX3_init_8 : decode cX3_init 8 = .ok (.putfield 9, 3) := by decide +kernel
theorem dX3_init_11 : decode cX3_init 11 = .ok (.aload_n 0, 1) := by decide +kernel
theorem dX3_init_12 : decode cX3_init 12 = .ok (.iconst (-1), 1) := by decide +kernel
theorem dX3_init_13 : decode cX3_init 13 = .ok (.putfield 15, 3) := by decide +kernel
theorem dX3_init_16 : decode cX3_init 16 = .ok (.aload_n 0, 1) := by decide +kernel
theorem dX3_init_17 : decode cX3_init 17 = .ok (.sipush 150, 3) := by decide +kernel
theorem dX3_init_20 : decode cX3_init 20 = .ok (.newarray .byte, 2) := by decide +kernel
theorem dX3_init_22 : decode cX3_init 22 = .ok (.putfield 19, 3) := by decide +kernel
theorem dX3_init_25 : decode cX3_init 25 = .ok (.return_, 1) := by decide +kernel
theorem dX4_init_0 : decode cX4_init 0 = .ok (.aload_n 0, 1) := by decide +kernel
theorem dX4_init_1 : decode cX4_init 1 = .ok (.invokespecial 3, 3) := by decide +kernel
theorem dX4_init_4 : decode cX4_init 4 = .ok (.aload_n 0, 1) := by decide +kernel
theorem dX4_init_5 : decode cX4_init 5 = .ok (.bipush 8, 2) := by decide +kernel
theorem dX4_init_7 : decode cX4_init 7 = .ok (.newarray .int, 2) := by decide +kernel
theorem dX4_init_9 : decode cX4_init 9 = .ok (.putfield 9, 3) := by decide +kernel
theorem dX4_init_12 : decode cX4_init 12 = .ok (.aload_n 0, 1) := by decide +kernel
theorem dX4_init_13 : decode cX4_init 13 = .ok (.bipush 8, 2) := by decide +kernel
theorem dX4_init_15 : decode cX4_init 15 = .ok (.newarray .int, 2) := by decide +kernel
theorem dX4_init_17 : decode cX4_init 17 = .ok (.putfield 15, 3) := by decide +kernel
theorem dX4_init_20 : decode cX4_init 20 = .ok (.aload_n 0, 1) := by decide +kernel
theorem dX4_init_21 : decode cX4_init 21 = .ok (.bipush 8, 2) := by decide +kernel
theorem dX4_init_23 : decode cX4_init 23 = .ok (.newarray .int, 2) := by decide +kernel
theorem dX4_init_25 : decode cX4_init 25 = .ok (.putfield 18, 3) := by decide +kernel
theorem dX4_init_28 : decode cX4_init 28 = .ok (.aload_n 0, 1) := by decide +kernel
theorem dX4_init_29 : decode cX4_init 29 = .ok (.bipush 8, 2) := by decide +kernel
theorem dX4_init_31 : decode cX4_init 31 = .ok (.newarray .int, 2) := by decide +kernel
theorem dX4_init_33 : decode cX4_init 33 = .ok (.putfield 21, 3) := by decide +kernel
theorem dX4_init_36 : decode cX4_init 36 = .ok (.aload_n 0, 1) := by decide +kernel
theorem dX4_init_37 : decode cX4_init 37 = .ok (.bipush 48, 2) := by decide +kernel
theorem dX4_init_39 : decode cX4_init 39 = .ok (.newarray .int, 2) := by decide +kernel
theorem dX4_init_41 : decode cX4_init 41 = .ok (.putfield 24, 3) := by decide +kernel
theorem dX4_init_44 : decode cX4_init 44 = .ok (.aload_n 0, 1) := by decide +kernel
theorem dX4_init_45 : decode cX4_init 45 = .ok (.bipush 48, 2) := by decide +kernel
theorem dX4_init_47 : decode cX4_init 47 = .ok (.newarray .int, 2) := by decide +kernel
theorem dX4_init_49 : decode cX4_init 49 = .ok (.putfield 27, 3) := by decide +kernel
theorem dX4_init_52 : decode cX4_init 52 = .ok (.aload_n 0, 1) := by decide +kernel
theorem dX4_init_53 : decode cX4_init 53 = .ok (.bipush 48, 2) := by decide +kernel
theorem dX4_init_55 : decode cX4_init 55 = .ok (.newarray .int, 2) := by decide +kernel
theorem dX4_init_57 : decode cX4_init 57 = .ok (.putfield 30, 3) := by decide +kernel
theorem dX4_init_60 : decode cX4_init 60 = .ok (.return_, 1) := by decide +kernel
theorem dX4_copyFrom_0 : decode cX4_copyFrom 0 = .ok (.aload_n 1, 1) := by decide +kernel
theorem dX4_copyFrom_1 : decode cX4_copyFrom 1 = .ok (.getfield 9, 3) := by decide +kernel
theorem dX4_copyFrom_4 : decode cX4_copyFrom 4 = .ok (.aload_n 0, 1) := by decide +kernel
theorem dX4_copyFrom_5 : decode cX4_copyFrom 5 = .ok (.getfield 9, 3) := by decide +kernel
theorem dX4_copyFrom_8 : decode cX4_copyFrom 8 = .ok (.invokestatic 33, 3) := by decide +kernel
theorem dX4_copyFrom_11 : decode cX4_copyFrom 11 = .ok (.aload_n 1, 1) := by decide +kernel
theorem dX4_copyFrom_12 : decode cX4_copyFrom 12 = .ok (.getfield 15, 3) := by decide +kernel
theorem dX4_copyFrom_15 : decode cX4_copyFrom 15 = .ok (.aload_n 0, 1) := by decide +kernel
theorem dX4_copyFrom_16 : decode cX4_copyFrom 16 = .ok (.getfield 15, 3) := by decide +kernel
theorem dX4_copyFrom_19 : decode cX4_copyFrom 19 = .ok (.invokestatic 33, 3) := by decide +kernel
theorem dX4_copyFrom_22 : decode cX4_copyFrom 22 = .ok (.aload_n 1, 1) := by decide +kernel
theorem dX4_copyFrom_23 : decode cX4_copyFrom 23 = .ok (.getfield 18, 3) := by decide +kernel
theorem dX4_copyFrom_26 : decode cX4_copyFrom 26 = .ok (.aload_n 0, 1) := by decide +kernel
theorem dX4_copyFrom_27 : decode cX4_copyFrom 27 = .ok (.getfield 18, 3) := by decide +kernel
theorem dX4_copyFrom_30 : decode cX4_copyFrom 30 = .ok (.invokestatic 33, 3) := by decide +kernel
theorem dX4_copyFrom_33 : decode cX4_copyFrom 33 = .ok (.aload_n 1, 1) := by decide +kernel
theorem dX4_copyFrom_34 : decode cX4_copyFrom 34 = .ok (.getfield 21, 3) := by decide +kernel
theorem dX4_copyFrom_37 : decode cX4_copyFrom 37 = .ok (.aload_n 0, 1) := by decide +kernel
theorem dX4_copyFrom_38 : decode cX4_copyFrom 38 = .ok (.getfield 21, 3) := by decide +kernel
theorem dX4_copyFrom_41 : decode cX4_copyFrom 41 = .ok (.invokestatic 33, 3) := by decide +kernel
theorem dX4_copyFrom_44 : decode cX4_copyFrom 44 = .ok (.aload_n 1, 1) := by decide +kernel
theorem dX4_copyFrom_45 : decode cX4_copyFrom 45 = .ok (.getfield 24, 3) := by decide +kernel
theorem dX4_copyFrom_48 : decode cX4_copyFrom 48 = .ok (.aload_n 0, 1) := by decide +kernel
theorem dX4_copyFrom_49 : decode cX4_copyFrom 49 = .ok (.getfield 24, 3) := by decide +kernel
theorem dX4_copyFrom_52 : decode cX4_copyFrom 52 = .ok (.invokestatic 33, 3) := by decide +kernel
theorem dX4_copyFrom_55 : decode cX4_copyFrom 55 = .ok (.aload_n 1, 1) := by decide +kernel
theorem dX4_copyFrom_56 : decode cX4_copyFrom 56 = .ok (.getfield 27, 3) := by decide +kernel
theorem dX4_copyFrom_59 : decode cX4_copyFrom 59 = .ok (.aload_n 0, 1) := by decide +kernel
theorem dX4_copyFrom_60 : decode cX4_copyFrom 60 = .ok (.getfield 27, 3) := by decide +kernel
theorem dX4_copyFrom_63 : decode cX4_copyFrom 63 = .ok (.invokestatic 33, 3) := by decide +kernel
theorem dX4_copyFrom_66 : decode cX4_copyFrom 66 = .ok (.return_, 1) := by decide +kernel
theorem dX4_hasBlock_0 : decode cX4_hasBlock 0 = .ok (.iload_n 2, 1) := by decide +kernel
theorem dX4_hasBlock_1 : decode cX4_hasBlock 1 = .ok (.ifCond .lt 16, 3) := by decide +kernel
theorem dX4_hasBlock_4 : decode cX4_hasBlock 4 = .ok (.iload_n 2, 1) := by decide +kernel
theorem dX4_hasBlock_5 : decode cX4_hasBlock 5 = .ok (.aload_n 0, 1) := by decide +kernel
theorem dX4_hasBlock_6 : decode cX4_hasBlock 6 = .ok (.iload_n 1, 1) := by decide +kernel
theorem dX4_hasBlock_7 : decode cX4_hasBlock 7 = .ok (.invokevirtual 37, 3) := by decide +kernel
theorem dX4_hasBlock_10 : decode cX4_hasBlock 10 = .ok (.if_icmp .ge 7, 3) := by decide +kernel
theorem dX4_hasBlock_13 : decode cX4_hasBlock 13 = .ok (.iconst 1, 1) := by decide +kernel
theorem dX4_hasBlock_14 : decode cX4_hasBlock 14 = .ok (.goto 4, 3) := by decide +kernel
theorem dX4_hasBlock_17 : decode cX4_hasBlock 17 = .ok (.iconst 0, 1) := by decide +kernel
theorem dX4_hasBlock_18 : decode cX4_hasBlock 18 = .ok (.ireturn, 1) := by decide +kernel
theorem dX4_heightAt_0 : decode cX4_heightAt 0 = .ok (.iload_n 1, 1) := by decide +kernel
theorem dX4_heightAt_1 : decode cX4_heightAt 1 = .ok (.ifCond .lt 18, 3) := by decide +kernel
theorem dX4_heightAt_4 : decode cX4_heightAt 4 = .ok (.iload_n 1, 1) := by decide +kernel
theorem dX4_heightAt_5 : decode cX4_heightAt 5 = .ok (.bipush 8, 2) := by decide +kernel
theorem dX4_heightAt_7 : decode cX4_heightAt 7 = .ok (.if_icmp .ge 12, 3) := by decide +kernel
theorem dX4_heightAt_10 : decode cX4_heightAt 10 = .ok (.aload_n 0, 1) := by decide +kernel
theorem dX4_heightAt_11 : decode cX4_heightAt 11 = .ok (.getfield 9, 3) := by decide +kernel
theorem dX4_heightAt_14 : decode cX4_heightAt 14 = .ok (.iload_n 1, 1) := by decide +kernel
theorem dX4_heightAt_15 : decode cX4_heightAt 15 = .ok (.iaload, 1) := by decide +kernel
theorem dX4_heightAt_16 : decode cX4_heightAt 16 = .ok (.goto 4, 3) := by decide +kernel
theorem dX4_heightAt_19 : decode cX4_heightAt 19 = .ok (.iconst 0, 1) := by decide +kernel
theorem dX4_heightAt_20 : decode cX4_heightAt 20 = .ok (.ireturn, 1) := by decide +kernel
theorem dX4_add_0 : decode cX4_add 0 = .ok (.iload_n 1, 1) := by decide +kernel
theorem dX4_add_1 : decode cX4_add 1 = .ok (.aload_n 0, 1) := by decide +kernel
theorem dX4_add_2 : decode cX4_add 2 = .ok (.getfield 9, 3) := by decide +kernel
theorem dX4_add_5 : decode cX4_add 5 = .ok (.iload_n 1, 1) := by decide +kernel
theorem dX4_add_6 : decode cX4_add 6 = .ok (.iaload, 1) := by decide +kernel
theorem dX4_add_7 : decode cX4_add 7 = .ok (.invokestatic 41, 3) := by decide +kernel
theorem dX4_add_10 : decode cX4_add 10 = .ok (.istore_n 3, 1) := by decide +kernel
theorem dX4_add_11 : decode cX4_add 11 = .ok (.aload_n 0, 1) := by decide +kernel
theorem dX4_add_12 : decode cX4_add 12 = .ok (.getfield 24, 3) := by decide +kernel
theorem dX4_add_15 : decode cX4_add 15 = .ok (.iload_n 3, 1) := by decide +kernel
theorem dX4_add_16 : decode cX4_add 16 = .ok (.iload_n 2, 1) := by decide +kernel
theorem dX4_add_17 : decode cX4_add 17 = .ok (.iastore, 1) := by decide +kernel
theorem dX4_add_18 : decode cX4_add 18 = .ok (.aload_n 0, 1) := by decide +kernel
theorem dX4_add_19 : decode cX4_add 19 = .ok (.getfield 27, 3) := by decide +kernel
theorem dX4_add_22 : decode cX4_add 22 = .ok (.iload_n 3, 1) := by decide +kernel
theorem dX4_add_23 : decode cX4_add 23 = .ok (.bipush 100, 2) := by decide +kernel
theorem dX4_add_25 : decode cX4_add 25 = .ok (.iastore, 1) := by decide +kernel
theorem dX4_add_26 : decode cX4_add 26 = .ok (.aload_n 0, 1) := by decide +kernel
theorem dX4_add_27 : decode cX4_add 27 = .ok (.getfield 9, 3) := by decide +kernel
theorem dX4_add_30 : decode cX4_add 30 = .ok (.iload_n 1, 1) := by decide +kernel
theorem dX4_add_31 : decode cX4_add 31 = .ok (.dup2, 1) := by decide +kernel
theorem dX4_add_32 : decode cX4_add 32 = .ok (.iaload, 1) := by decide +kernel
theorem dX4_add_33 : decode cX4_add 33 = .ok (.iconst 1, 1) := by decide +kernel
theorem dX4_add_34 : decode cX4_add 34 = .ok (.iadd, 1) := by decide +kernel
theorem dX4_add_35 : decode cX4_add 35 = .ok (.iastore, 1) := by decide +kernel
theorem dX4_add_36 : decode cX4_add 36 = .ok (.return_, 1) := by decide +kernel
theorem dX4_cut_0 : decode cX4_cut 0 = .ok (.iload_n 1, 1) := by decide +kernel
theorem dX4_cut_1 : decode cX4_cut 1 = .ok (.iload_n 2, 1) := by decide +kernel
theorem dX4_cut_2 : decode cX4_cut 2 = .ok (.invokestatic 41, 3) := by decide +kernel
theorem dX4_cut_5 : decode cX4_cut 5 = .ok (.istore 4, 2) := by decide +kernel
theorem dX4_cut_7 : decode cX4_cut 7 = .ok (.aload_n 0, 1) := by decide +kernel
theorem dX4_cut_8 : decode cX4_cut 8 = .ok (.getfield 27, 3) := by decide +kernel
theorem dX4_cut_11 : decode cX4_cut 11 = .ok (.iload 4, 2) := by decide +kernel
theorem dX4_cut_13 : decode cX4_cut 13 = .ok (.iaload, 1) := by decide +kernel
theorem dX4_cut_14 : decode cX4_cut 14 = .ok (.iload_n 3, 1) := by decide +kernel
theorem dX4_cut_15 : decode cX4_cut 15 = .ok (.isub, 1) := by decide +kernel
theorem dX4_cut_16 : decode cX4_cut 16 = .ok (.istore 5, 2) := by decide +kernel
theorem dX4_cut_18 : decode cX4_cut 18 = .ok (.aload_n 0, 1) := by decide +kernel
theorem dX4_cut_19 : decode cX4_cut 19 = .ok (.getfield 27, 3) := by decide +kernel
theorem dX4_cut_22 : decode cX4_cut 22 = .ok (.iload 4, 2) := by decide +kernel
theorem dX4_cut_24 : decode cX4_cut 24 = .ok (.iload 5, 2) := by decide +kernel
theorem dX4_cut_26 : decode cX4_cut 26 = .ok (.iastore, 1) := by decide +kernel
theorem dX4_cut_27 : decode cX4_cut 27 = .ok (.aload_n 0, 1) := by decide +kernel
theorem dX4_cut_28 : decode cX4_cut 28 = .ok (.getfield 18, 3) := by decide +kernel
theorem dX4_cut_31 : decode cX4_cut 31 = .ok (.iload_n 1, 1) := by decide +kernel
theorem dX4_cut_32 : decode cX4_cut 32 = .ok (.dup2, 1) := by decide +kernel
theorem dX4_cut_33 : decode cX4_cut 33 = .ok (.iaload, 1) := by decide +kernel
theorem dX4_cut_34 : decode cX4_cut 34 = .ok (.iload_n 3, 1) := by decide +kernel
theorem dX4_cut_35 : decode cX4_cut 35 = .ok (.iadd, 1) := by decide +kernel
theorem dX4_cut_36 : decode cX4_cut 36 = .ok (.iastore, 1) := by decide +kernel
theorem dX4_cut_37 : decode cX4_cut 37 = .ok (.aload_n 0, 1) := by decide +kernel
theorem dX4_cut_38 : decode cX4_cut 38 = .ok (.iload_n 1, 1) := by decide +kernel
theorem dX4_cut_39 : decode cX4_cut 39 = .ok (.invokevirtual 45, 3) := by decide +kernel
theorem dX4_cut_42 : decode cX4_cut 42 = .ok (.iload 5, 2) := by decide +kernel
theorem dX4_cut_44 : decode cX4_cut 44 = .ok (.ireturn, 1) := by decide +kernel
theorem dX4_melt_0 : decode cX4_melt 0 = .ok (.iconst 0, 1) := by decide +kernel
theorem dX4_melt_1 : decode cX4_melt 1 = .ok (.istore_n 2, 1) := by decide +kernel
theorem dX4_melt_2 : decode cX4_melt 2 = .ok (.iload_n 2, 1) := by decide +kernel
theorem dX4_melt_3 : decode cX4_melt 3 = .ok (.bipush 8, 2) := by decide +kernel
theorem dX4_melt_5 : decode cX4_melt 5 = .ok (.if_icmp .ge 73, 3) := by decide +kernel
theorem dX4_melt_8 : decode cX4_melt 8 = .ok (.iconst 0, 1) := by decide +kernel
theorem dX4_melt_9 : decode cX4_melt 9 = .ok (.istore_n 3, 1) := by decide +kernel
theorem dX4_melt_10 : decode cX4_melt 10 = .ok (.iload_n 3, 1) := by decide +kernel
theorem dX4_melt_11 : decode cX4_melt 11 = .ok (.aload_n 0, 1) := by decide +kernel
theorem dX4_melt_12 : decode cX4_melt 12 = .ok (.getfield 9, 3) := by decide +kernel
theorem dX4_melt_15 : decode cX4_melt 15 = .ok (.iload_n 2, 1) := by decide +kernel
theorem dX4_melt_16 : decode cX4_melt 16 = .ok (.iaload, 1) := by decide +kernel
theorem dX4_melt_17 : decode cX4_melt 17 = .ok (.if_icmp .ge 55, 3) := by decide +kernel
theorem dX4_melt_20 : decode cX4_melt 20 = .ok (.iload_n 2, 1) := by decide +kernel
theorem dX4_melt_21 : decode cX4_melt 21 = .ok (.iload_n 3, 1) := by decide +kernel
theorem dX4_melt_22 : decode cX4_melt 22 = .ok (.invokestatic 41, 3) := by decide +kernel
theorem dX4_melt_25 : decode cX4_melt 25 = .ok (.istore 4, 2) := by decide +kernel
theorem dX4_melt_27 : decode cX4_melt 27 = .ok (.aload_n 0, 1) := by decide +kernel
theorem dX4_melt_28 : decode cX4_melt 28 = .ok (.getfield 24, 3) := by decide +kernel
theorem dX4_melt_31 : decode cX4_melt 31 = .ok (.iload 4, 2) := by decide +kernel
theorem dX4_melt_33 : decode cX4_melt 33 = .ok (.iaload, 1) := by decide +kernel
theorem dX4_melt_34 : decode cX4_melt 34 = .ok (.invokestatic 49, 3) := by decide +kernel
theorem dX4_melt_37 : decode cX4_melt 37 = .ok (.aload_n 0, 1) := by decide +kernel
theorem dX4_melt_38 : decode cX4_melt 38 = .ok (.iload_n 2, 1) := by decide +kernel
theorem dX4_melt_39 : decode cX4_melt 39 = .ok (.iload_n 3, 1) := by decide +kernel
theorem dX4_melt_40 : decode cX4_melt 40 = .ok (.iload_n 1, 1) := by decide +kernel
theorem dX4_melt_41 : decode cX4_melt 41 = .ok (.invokevirtual 52, 3) := by decide +kernel
theorem dX4_melt_44 : decode cX4_melt 44 = .ok (.imul, 1) := by decide +kernel
theorem dX4_melt_45 : decode cX4_melt 45 = .ok (.istore 5, 2) := by decide +kernel
theorem dX4_melt_47 : decode cX4_melt 47 = .ok (.aload_n 0, 1) := by decide +kernel
theorem dX4_melt_48 : decode cX4_melt 48 = .ok (.getfield 30, 3) := by decide +kernel
theorem dX4_melt_51 : decode cX4_melt 51 = .ok (.iload 4, 2) := by decide +kernel
theorem dX4_melt_53 : decode cX4_melt 53 = .ok (.iload 5, 2) := by decide +kernel
theorem dX4_melt_55 : decode cX4_melt 55 = .ok (.aload_n 0, 1) := by decide +kernel
theorem dX4_melt_56 : decode cX4_melt 56 = .ok (.getfield 27, 3) := by decide +kernel
theorem dX4_melt_59 : decode cX4_melt 59 = .ok (.iload 4, 2) := by decide +kernel
theorem dX4_melt_61 : decode cX4_melt 61 = .ok (.iaload, 1) := by decide +kernel
theorem dX4_melt_62 : decode cX4_melt 62 = .ok (.invokestatic 56, 3) := by decide +kernel
theorem dX4_melt_65 : decode cX4_melt 65 = .ok (.iastore, 1) := by decide +kernel
theorem dX4_melt_66 : decode cX4_melt 66 = .ok (.iinc 3 1, 3) := by decide +kernel
theorem dX4_melt_69 : decode cX4_melt 69 = .ok (.goto (-59), 3) := by decide +kernel
theorem dX4_melt_72 : decode cX4_melt 72 = .ok (.iinc 2 1, 3) := by decide +kernel
theorem dX4_melt_75 : decode cX4_melt 75 = .ok (.goto (-73), 3) := by decide +kernel
theorem dX4_melt_78 : decode cX4_melt 78 = .ok (.iconst 0, 1) := by decide +kernel
theorem dX4_melt_79 : decode cX4_melt 79 = .ok (.istore_n 2, 1) := by decide +kernel
theorem dX4_melt_80 : decode cX4_melt 80 = .ok (.iconst 0, 1) := by decide +kernel
theorem dX4_melt_81 : decode cX4_melt 81 = .ok (.istore_n 3, 1) := by decide +kernel
theorem dX4_melt_82 : decode cX4_melt 82 = .ok (.iload_n 3, 1) := by decide +kernel
theorem dX4_melt_83 : decode cX4_melt 83 = .ok (.bipush 8, 2) := by decide +kernel
theorem dX4_melt_85 : decode cX4_melt 85 = .ok (.if_icmp .ge 17, 3) := by decide +kernel
theorem dX4_melt_88 : decode cX4_melt 88 = .ok (.iload_n 2, 1) := by decide +kernel
theorem dX4_melt_89 : decode cX4_melt 89 = .ok (.aload_n 0, 1) := by decide +kernel
theorem dX4_melt_90 : decode cX4_melt 90 = .ok (.iload_n 3, 1) := by decide +kernel
theorem dX4_melt_91 : decode cX4_melt 91 = .ok (.invokevirtual 61, 3) := by decide +kernel
theorem dX4_melt_94 : decode cX4_melt 94 = .ok (.iadd, 1) := by decide +kernel
theorem dX4_melt_95 : decode cX4_melt 95 = .ok (.istore_n 2, 1) := by decide +kernel
theorem dX4_melt_96 : decode cX4_melt 96 = .ok (.iinc 3 1, 3) := by decide +kernel
theorem dX4_melt_99 : decode cX4_melt 99 = .ok (.goto (-17), 3) := by decide +kernel
theorem dX4_melt_102 : decode cX4_melt 102 = .ok (.iload_n 2, 1) := by decide +kernel
theorem dX4_melt_103 : decode cX4_melt 103 = .ok (.ireturn, 1) := by decide +kernel
theorem dX4_takeLosses_0 : decode cX4_takeLosses 0 = .ok (.iconst 0, 1) := by decide +kernel
theorem dX4_takeLosses_1 : decode cX4_takeLosses 1 = .ok (.istore_n 2, 1) := by decide +kernel
theorem dX4_takeLosses_2 : decode cX4_takeLosses 2 = .ok (.iconst 0, 1) := by decide +kernel
theorem dX4_takeLosses_3 : decode cX4_takeLosses 3 = .ok (.istore_n 3, 1) := by decide +kernel
theorem dX4_takeLosses_4 : decode cX4_takeLosses 4 = .ok (.iload_n 3, 1) := by decide +kernel
theorem dX4_takeLosses_5 : decode cX4_takeLosses 5 = .ok (.aload_n 0, 1) := by decide +kernel
theorem dX4_takeLosses_6 : decode cX4_takeLosses 6 = .ok (.getfield 9, 3) := by decide +kernel
theorem dX4_takeLosses_9 : decode cX4_takeLosses 9 = .ok (.iload_n 1, 1) := by decide +kernel
theorem dX4_takeLosses_10 : decode cX4_takeLosses 10 = .ok (.iaload, 1) := by decide +kernel
theorem dX4_takeLosses_11 : decode cX4_takeLosses 11 = .ok (.if_icmp .ge 43, 3) := by decide +kernel
theorem dX4_takeLosses_14 : decode cX4_takeLosses 14 = .ok (.iload_n 1, 1) := by decide +kernel
theorem dX4_takeLosses_15 : decode cX4_takeLosses 15 = .ok (.iload_n 3, 1) := by decide +kernel
theorem dX4_takeLosses_16 : decode cX4_takeLosses 16 = .ok (.invokestatic 41, 3) := by decide +kernel
theorem dX4_takeLosses_19 : decode cX4_takeLosses 19 = .ok (.istore 4, 2) := by decide +kernel
theorem dX4_takeLosses_21 : decode cX4_takeLosses 21 = .ok (.aload_n 0, 1) := by decide +kernel
theorem dX4_takeLosses_22 : decode cX4_takeLosses 22 = .ok (.getfield 27, 3) := by decide +kernel
theorem dX4_takeLosses_25 : decode cX4_takeLosses 25 = .ok (.iload 4, 2) := by decide +kernel
theorem dX4_takeLosses_27 : decode cX4_takeLosses 27 = .ok (.dup2, 1) := by decide +kernel
theorem dX4_takeLosses_28 : decode cX4_takeLosses 28 = .ok (.iaload, 1) := by decide +kernel
theorem dX4_takeLosses_29 : decode cX4_takeLosses 29 = .ok (.aload_n 0, 1) := by decide +kernel
theorem dX4_takeLosses_30 : decode cX4_takeLosses 30 = .ok (.getfield 30, 3) := by decide +kernel
theorem dX4_takeLosses_33 : decode cX4_takeLosses 33 = .ok (.iload 4, 2) := by decide +kernel
theorem dX4_takeLosses_35 : decode cX4_takeLosses 35 = .ok (.iaload, 1) := by decide +kernel
theorem dX4_takeLosses_36 : decode cX4_takeLosses 36 = .ok (.isub, 1) := by decide +kernel
theorem dX4_takeLosses_37 : decode cX4_takeLosses 37 = .ok (.iastore, 1) := by decide +kernel
theorem dX4_takeLosses_38 : decode cX4_takeLosses 38 = .ok (.iload_n 2, 1) := by decide +kernel
theorem dX4_takeLosses_39 : decode cX4_takeLosses 39 = .ok (.aload_n 0, 1) := by decide +kernel
theorem dX4_takeLosses_40 : decode cX4_takeLosses 40 = .ok (.getfield 30, 3) := by decide +kernel
theorem dX4_takeLosses_43 : decode cX4_takeLosses 43 = .ok (.iload 4, 2) := by decide +kernel
theorem dX4_takeLosses_45 : decode cX4_takeLosses 45 = .ok (.iaload, 1) := by decide +kernel
theorem dX4_takeLosses_46 : decode cX4_takeLosses 46 = .ok (.iadd, 1) := by decide +kernel
theorem dX4_takeLosses_47 : decode cX4_takeLosses 47 = .ok (.istore_n 2, 1) := by decide +kernel
theorem dX4_takeLosses_48 : decode cX4_takeLosses 48 = .ok (.iinc 3 1, 3) := by decide +kernel
theorem dX4_takeLosses_51 : decode cX4_takeLosses 51 = .ok (.goto (-47), 3) := by decide +kernel
theorem dX4_takeLosses_54 : decode cX4_takeLosses 54 = .ok (.aload_n 0, 1) := by decide +kernel
theorem dX4_takeLosses_55 : decode cX4_takeLosses 55 = .ok (.getfield 21, 3) := by decide +kernel
theorem dX4_takeLosses_58 : decode cX4_takeLosses 58 = .ok (.iload_n 1, 1) := by decide +kernel
theorem dX4_takeLosses_59 : decode cX4_takeLosses 59 = .ok (.dup2, 1) := by decide +kernel
theorem dX4_takeLosses_60 : decode cX4_takeLosses 60 = .ok (.iaload, 1) := by decide +kernel
theorem dX4_takeLosses_61 : decode cX4_takeLosses 61 = .ok (.iload_n 2, 1) := by decide +kernel
theorem dX4_takeLosses_62 : decode cX4_takeLosses 62 = .ok (.iadd, 1) := by decide +kernel
theorem dX4_takeLosses_63 : decode cX4_takeLosses 63 = .ok (.iastore, 1) := by decide +kernel
theorem dX4_takeLosses_64 : decode cX4_takeLosses 64 = .ok (.aload_n 0, 1) := by decide +kernel
theorem dX4_takeLosses_65 : decode cX4_takeLosses 65 = .ok (.iload_n 1, 1) := by decide +kernel
theorem dX4_takeLosses_66 : decode cX4_takeLosses 66 = .ok (.invokevirtual 45, 3) := by decide +kernel
theorem dX4_takeLosses_69 : decode cX4_takeLosses 69 = .ok (.iload_n 2, 1) := by decide +kernel
theorem dX4_takeLosses_70 : decode cX4_takeLosses 70 = .ok (.ireturn, 1) := by decide +kernel
theorem dX4_dropGone_0 : decode cX4_dropGone 0 = .ok (.iconst 0, 1) := by decide +kernel
theorem dX4_dropGone_1 : decode cX4_dropGone 1 = .ok (.istore_n 2, 1) := by decide +kernel
theorem dX4_dropGone_2 : decode cX4_dropGone 2 = .ok (.iconst 0, 1) := by decide +kernel
theorem dX4_dropGone_3 : decode cX4_dropGone 3 = .ok (.istore_n 3, 1) := by decide +kernel
theorem dX4_dropGone_4 : decode cX4_dropGone 4 = .ok (.iload_n 3, 1) := by decide +kernel
theorem dX4_dropGone_5 : decode cX4_dropGone 5 = .ok (.aload_n 0, 1) := by decide +kernel
theorem dX4_dropGone_6 : decode cX4_dropGone 6 = .ok (.getfield 9, 3) := by decide +kernel
theorem dX4_dropGone_9 : decode cX4_dropGone 9 = .ok (.iload_n 1, 1) := by decide +kernel
theorem dX4_dropGone_10 : decode cX4_dropGone 10 = .ok (.iaload, 1) := by decide +kernel
theorem dX4_dropGone_11 : decode cX4_dropGone 11 = .ok (.if_icmp .ge 64, 3) := by decide +kernel
theorem dX4_dropGone_14 : decode cX4_dropGone 14 = .ok (.iload_n 1, 1) := by decide +kernel
theorem dX4_dropGone_15 : decode cX4_dropGone 15 = .ok (.iload_n 3, 1) := by decide +kernel
theorem dX4_dropGone_16 : decode cX4_dropGone 16 = .ok (.invokestatic 41, 3) := by decide +kernel
theorem dX4_dropGone_19 : decode cX4_dropGone 19 = .ok (.istore 4, 2) := by decide +kernel
theorem dX4_dropGone_21 : decode cX4_dropGone 21 = .ok (.aload_n 0, 1) := by decide +kernel
theorem dX4_dropGone_22 : decode cX4_dropGone 22 = .ok (.getfield 27, 3) := by decide +kernel
theorem dX4_dropGone_25 : decode cX4_dropGone 25 = .ok (.iload 4, 2) := by decide +kernel
theorem dX4_dropGone_27 : decode cX4_dropGone 27 = .ok (.iaload, 1) := by decide +kernel
theorem dX4_dropGone_28 : decode cX4_dropGone 28 = .ok (.ifCond .le 41, 3) := by decide +kernel
theorem dX4_dropGone_31 : decode cX4_dropGone 31 = .ok (.iload_n 1, 1) := by decide +kernel
theorem dX4_dropGone_32 : decode cX4_dropGone 32 = .ok (.iload_n 2, 1) := by decide +kernel
theorem dX4_dropGone_33 : decode cX4_dropGone 33 = .ok (.invokestatic 41, 3) := by decide +kernel
theorem dX4_dropGone_36 : decode cX4_dropGone 36 = .ok (.istore 5, 2) := by decide +kernel
theorem dX4_dropGone_38 : decode cX4_dropGone 38 = .ok (.aload_n 0, 1) := by decide +kernel
theorem dX4_dropGone_39 : decode cX4_dropGone 39 = .ok (.getfield 24, 3) := by decide +kernel
theorem dX4_dropGone_42 : decode cX4_dropGone 42 = .ok (.iload 5, 2) := by decide +kernel
theorem dX4_dropGone_44 : decode cX4_dropGone 44 = .ok (.aload_n 0, 1) := by decide +kernel
theorem dX4_dropGone_45 : decode cX4_dropGone 45 = .ok (.getfield 24, 3) := by decide +kernel
theorem dX4_dropGone_48 : decode cX4_dropGone 48 = .ok (.iload 4, 2) := by decide +kernel
theorem dX4_dropGone_50 : decode cX4_dropGone 50 = .ok (.iaload, 1) := by decide +kernel
theorem dX4_dropGone_51 : decode cX4_dropGone 51 = .ok (.iastore, 1) := by decide +kernel
theorem dX4_dropGone_52 : decode cX4_dropGone 52 = .ok (.aload_n 0, 1) := by decide +kernel
theorem dX4_dropGone_53 : decode cX4_dropGone 53 = .ok (.getfield 27, 3) := by decide +kernel
theorem dX4_dropGone_56 : decode cX4_dropGone 56 = .ok (.iload 5, 2) := by decide +kernel
theorem dX4_dropGone_58 : decode cX4_dropGone 58 = .ok (.aload_n 0, 1) := by decide +kernel
theorem dX4_dropGone_59 : decode cX4_dropGone 59 = .ok (.getfield 27, 3) := by decide +kernel
theorem dX4_dropGone_62 : decode cX4_dropGone 62 = .ok (.iload 4, 2) := by decide +kernel
theorem dX4_dropGone_64 : decode cX4_dropGone 64 = .ok (.iaload, 1) := by decide +kernel
theorem dX4_dropGone_65 : decode cX4_dropGone 65 = .ok (.iastore, 1) := by decide +kernel
theorem dX4_dropGone_66 : decode cX4_dropGone 66 = .ok (.iinc 2 1, 3) := by decide +kernel
theorem dX4_dropGone_69 : decode cX4_dropGone 69 = .ok (.iinc 3 1, 3) := by decide +kernel
theorem dX4_dropGone_72 : decode cX4_dropGone 72 = .ok (.goto (-68), 3) := by decide +kernel
theorem dX4_dropGone_75 : decode cX4_dropGone 75 = .ok (.aload_n 0, 1) := by decide +kernel
theorem dX4_dropGone_76 : decode cX4_dropGone 76 = .ok (.getfield 9, 3) := by decide +kernel
theorem dX4_dropGone_79 : decode cX4_dropGone 79 = .ok (.iload_n 1, 1) := by decide +kernel
theorem dX4_dropGone_80 : decode cX4_dropGone 80 = .ok (.iload_n 2, 1) := by decide +kernel
theorem dX4_dropGone_81 : decode cX4_dropGone 81 = .ok (.iastore, 1) := by decide +kernel
theorem dX4_dropGone_82 : decode cX4_dropGone 82 = .ok (.return_, 1) := by decide +kernel
theorem dX4_facesInSun_0 : decode cX4_facesInSun 0 = .ok (.iload_n 3, 1) := by decide +kernel
theorem dX4_facesInSun_1 : decode cX4_facesInSun 1 = .ok (.iconst 4, 1) := by decide +kernel
theorem dX4_facesInSun_2 : decode cX4_facesInSun 2 = .ok (.if_icmp .ge 24, 3) := by decide +kernel
theorem dX4_facesInSun_5 : decode cX4_facesInSun 5 = .ok (.iload_n 2, 1) := by decide +kernel
theorem dX4_facesInSun_6 : decode cX4_facesInSun 6 = .ok (.aload_n 0, 1) := by decide +kernel
theorem dX4_facesInSun_7 : decode cX4_facesInSun 7 = .ok (.iload_n 1, 1) := by decide +kernel
theorem dX4_facesInSun_8 : decode cX4_facesInSun 8 = .ok (.iconst 1, 1) := by decide +kernel
theorem dX4_facesInSun_9 : decode cX4_facesInSun 9 = .ok (.iadd, 1) := by decide +kernel
theorem dX4_facesInSun_10 : decode cX4_facesInSun 10 = .ok (.invokevirtual 37, 3) := by decide +kernel
theorem dX4_facesInSun_13 : decode cX4_facesInSun 13 = .ok (.if_icmp .ge 7, 3) := by decide +kernel
theorem dX4_facesInSun_16 : decode cX4_facesInSun 16 = .ok (.iconst 1, 1) := by decide +kernel
theorem dX4_facesInSun_17 : decode cX4_facesInSun 17 = .ok (.goto 4, 3) := by decide +kernel
theorem dX4_facesInSun_20 : decode cX4_facesInSun 20 = .ok (.iconst 0, 1) := by decide +kernel
theorem dX4_facesInSun_21 : decode cX4_facesInSun 21 = .ok (.istore 4, 2) := by decide +kernel
theorem dX4_facesInSun_23 : decode cX4_facesInSun 23 = .ok (.goto 47, 3) := by decide +kernel
theorem dX4_facesInSun_26 : decode cX4_facesInSun 26 = .ok (.iload_n 3, 1) := by decide +kernel
theorem dX4_facesInSun_27 : decode cX4_facesInSun 27 = .ok (.bipush 8, 2) := by decide +kernel
theorem dX4_facesInSun_29 : decode cX4_facesInSun 29 = .ok (.if_icmp .ge 23, 3) := by decide +kernel
theorem dX4_facesInSun_32 : decode cX4_facesInSun 32 = .ok (.aload_n 0, 1) := by decide +kernel
theorem dX4_facesInSun_33 : decode cX4_facesInSun 33 = .ok (.getfield 15, 3) := by decide +kernel
theorem dX4_facesInSun_36 : decode cX4_facesInSun 36 = .ok (.iload_n 1, 1) := by decide +kernel
theorem dX4_facesInSun_37 : decode cX4_facesInSun 37 = .ok (.iaload, 1) := by decide +kernel
theorem dX4_facesInSun_38 : decode cX4_facesInSun 38 = .ok (.iconst 1, 1) := by decide +kernel
theorem dX4_facesInSun_39 : decode cX4_facesInSun 39 = .ok (.if_icmp .ne 7, 3) := by decide +kernel
theorem dX4_facesInSun_42 : decode cX4_facesInSun 42 = .ok (.iconst 1, 1) := by decide +kernel
theorem dX4_facesInSun_43 : decode cX4_facesInSun 43 = .ok (.goto 4, 3) := by decide +kernel
theorem dX4_facesInSun_46 : decode cX4_facesInSun 46 = .ok (.iconst 0, 1) := by decide +kernel
theorem dX4_facesInSun_47 : decode cX4_facesInSun 47 = .ok (.istore 4, 2) := by decide +kernel
theorem dX4_facesInSun_49 : decode cX4_facesInSun 49 = .ok (.goto 21, 3) := by decide +kernel
theorem dX4_facesInSun_52 : decode cX4_facesInSun 52 = .ok (.iload_n 2, 1) := by decide +kernel
theorem dX4_facesInSun_53 : decode cX4_facesInSun 53 = .ok (.aload_n 0, 1) := by decide +kernel
theorem dX4_facesInSun_54 : decode cX4_facesInSun 54 = .ok (.iload_n 1, 1) := by decide +kernel
theorem dX4_facesInSun_55 : decode cX4_facesInSun 55 = .ok (.iconst 1, 1) := by decide +kernel
theorem dX4_facesInSun_56 : decode cX4_facesInSun 56 = .ok (.isub, 1) := by decide +kernel
theorem dX4_facesInSun_57 : decode cX4_facesInSun 57 = .ok (.invokevirtual 37, 3) := by decide +kernel
theorem dX4_facesInSun_60 : decode cX4_facesInSun 60 = .ok (.if_icmp .ge 7, 3) := by decide +kernel
theorem dX4_facesInSun_63 : decode cX4_facesInSun 63 = .ok (.iconst 1, 1) := by decide +kernel
theorem dX4_facesInSun_64 : decode cX4_facesInSun 64 = .ok (.goto 4, 3) := by decide +kernel
theorem dX4_facesInSun_67 : decode cX4_facesInSun 67 = .ok (.iconst 0, 1) := by decide +kernel
theorem dX4_facesInSun_68 : decode cX4_facesInSun 68 = .ok (.istore 4, 2) := by decide +kernel
theorem dX4_facesInSun_70 : decode cX4_facesInSun 70 = .ok (.iload 4, 2) := by decide +kernel
theorem dX4_facesInSun_72 : decode cX4_facesInSun 72 = .ok (.ifCond .eq 7, 3) := by decide +kernel
theorem dX4_facesInSun_75 : decode cX4_facesInSun 75 = .ok (.iconst 0, 1) := by decide +kernel
theorem dX4_facesInSun_76 : decode cX4_facesInSun 76 = .ok (.goto 4, 3) := by decide +kernel
theorem dX4_facesInSun_79 : decode cX4_facesInSun 79 = .ok (.iconst 1, 1) := by decide +kernel
theorem dX4_facesInSun_80 : decode cX4_facesInSun 80 = .ok (.istore 5, 2) := by decide +kernel
theorem dX4_facesInSun_82 : decode cX4_facesInSun 82 = .ok (.iload_n 2, 1) := by decide +kernel
theorem dX4_facesInSun_83 : decode cX4_facesInSun 83 = .ok (.aload_n 0, 1) := by decide +kernel
theorem dX4_facesInSun_84 : decode cX4_facesInSun 84 = .ok (.getfield 9, 3) := by decide +kernel
theorem dX4_facesInSun_87 : decode cX4_facesInSun 87 = .ok (.iload_n 1, 1) := by decide +kernel
theorem dX4_facesInSun_88 : decode cX4_facesInSun 88 = .ok (.iaload, 1) := by decide +kernel
theorem dX4_facesInSun_89 : decode cX4_facesInSun 89 = .ok (.iconst 1, 1) := by decide +kernel
theorem dX4_facesInSun_90 : decode cX4_facesInSun 90 = .ok (.isub, 1) := by decide +kernel
theorem dX4_facesInSun_91 : decode cX4_facesInSun 91 = .ok (.if_icmp .ne 7, 3) := by decide +kernel
theorem dX4_facesInSun_94 : decode cX4_facesInSun 94 = .ok (.iconst 1, 1) := by decide +kernel
theorem dX4_facesInSun_95 : decode cX4_facesInSun 95 = .ok (.goto 4, 3) := by decide +kernel
theorem dX4_facesInSun_98 : decode cX4_facesInSun 98 = .ok (.iconst 0, 1) := by decide +kernel
theorem dX4_facesInSun_99 : decode cX4_facesInSun 99 = .ok (.istore 6, 2) := by decide +kernel
theorem dX4_facesInSun_101 : decode cX4_facesInSun 101 = .ok (.iload 5, 2) := by decide +kernel
theorem dX4_facesInSun_103 : decode cX4_facesInSun 103 = .ok (.iload 6, 2) := by decide +kernel
theorem dX4_facesInSun_105 : decode cX4_facesInSun 105 = .ok (.iadd, 1) := by decide +kernel
theorem dX4_facesInSun_106 : decode cX4_facesInSun 106 = .ok (.ireturn, 1) := by decide +kernel
theorem dX4_rateOf_0 : decode cX4_rateOf 0 = .ok (.iload_n 0, 1) := by decide +kernel
theorem dX4_rateOf_1 : decode cX4_rateOf 1 = .ok (.lookupswitch 32 #[(0, 27), (1, 30)], 27) := by decide +kernel
theorem dX4_rateOf_28 : decode cX4_rateOf 28 = .ok (.bipush 6, 2) := by decide +kernel
theorem dX4_rateOf_30 : decode cX4_rateOf 30 = .ok (.ireturn, 1) := by decide +kernel
theorem dX4_rateOf_31 : decode cX4_rateOf 31 = .ok (.iconst 4, 1) := by decide +kernel
theorem dX4_rateOf_32 : decode cX4_rateOf 32 = .ok (.ireturn, 1) := by decide +kernel
theorem dX4_rateOf_33 : decode cX4_rateOf 33 = .ok (.iconst 2, 1) := by decide +kernel
theorem dX4_rateOf_34 : decode cX4_rateOf 34 = .ok (.ireturn, 1) := by decide +kernel
theorem dX4_volumeOf_0 : decode cX4_volumeOf 0 = .ok (.iconst 0, 1) := by decide +kernel
theorem dX4_volumeOf_1 : decode cX4_volumeOf 1 = .ok (.istore_n 2, 1) := by decide +kernel
theorem dX4_volumeOf_2 : decode cX4_volumeOf 2 = .ok (.iconst 0, 1) := by decide +kernel
theorem dX4_volumeOf_3 : decode cX4_volumeOf 3 = .ok (.istore_n 3, 1) := by decide +kernel
theorem dX4_volumeOf_4 : decode cX4_volumeOf 4 = .ok (.iload_n 3, 1) := by decide +kernel
theorem dX4_volumeOf_5 : decode cX4_volumeOf 5 = .ok (.aload_n 0, 1) := by decide +kernel
theorem dX4_volumeOf_6 : decode cX4_volumeOf 6 = .ok (.getfield 9, 3) := by decide +kernel
theorem dX4_volumeOf_9 : decode cX4_volumeOf 9 = .ok (.iload_n 1, 1) := by decide +kernel
theorem dX4_volumeOf_10 : decode cX4_volumeOf 10 = .ok (.iaload, 1) := by decide +kernel
theorem dX4_volumeOf_11 : decode cX4_volumeOf 11 = .ok (.if_icmp .ge 22, 3) := by decide +kernel
theorem dX4_volumeOf_14 : decode cX4_volumeOf 14 = .ok (.iload_n 2, 1) := by decide +kernel
theorem dX4_volumeOf_15 : decode cX4_volumeOf 15 = .ok (.aload_n 0, 1) := by decide +kernel
theorem dX4_volumeOf_16 : decode cX4_volumeOf 16 = .ok (.getfield 27, 3) := by decide +kernel
theorem dX4_volumeOf_19 : decode cX4_volumeOf 19 = .ok (.iload_n 1, 1) := by decide +kernel
theorem dX4_volumeOf_20 : decode cX4_volumeOf 20 = .ok (.iload_n 3, 1) := by decide +kernel
theorem dX4_volumeOf_21 : decode cX4_volumeOf 21 = .ok (.invokestatic 41, 3) := by decide +kernel
theorem dX4_volumeOf_24 : decode cX4_volumeOf 24 = .ok (.iaload, 1) := by decide +kernel
theorem dX4_volumeOf_25 : decode cX4_volumeOf 25 = .ok (.iadd, 1) := by decide +kernel
theorem dX4_volumeOf_26 : decode cX4_volumeOf 26 = .ok (.istore_n 2, 1) := by decide +kernel
theorem dX4_volumeOf_27 : decode cX4_volumeOf 27 = .ok (.iinc 3 1, 3) := by decide +kernel
theorem dX4_volumeOf_30 : decode cX4_volumeOf 30 = .ok (.goto (-26), 3) := by decide +kernel
theorem dX4_volumeOf_33 : decode cX4_volumeOf 33 = .ok (.iload_n 2, 1) := by decide +kernel
theorem dX4_volumeOf_34 : decode cX4_volumeOf 34 = .ok (.ireturn, 1) := by decide +kernel
theorem dX4_volumeOfAll_0 : decode cX4_volumeOfAll 0 = .ok (.iconst 0, 1) := by decide +kernel
theorem dX4_volumeOfAll_1 : decode cX4_volumeOfAll 1 = .ok (.istore_n 1, 1) := by decide +kernel
theorem dX4_volumeOfAll_2 : decode cX4_volumeOfAll 2 = .ok (.iconst 0, 1) := by decide +kernel
theorem dX4_volumeOfAll_3 : decode cX4_volumeOfAll 3 = .ok (.istore_n 2, 1) := by decide +kernel
theorem dX4_volumeOfAll_4 : decode cX4_volumeOfAll 4 = .ok (.iload_n 2, 1) := by decide +kernel
theorem dX4_volumeOfAll_5 : decode cX4_volumeOfAll 5 = .ok (.bipush 8, 2) := by decide +kernel
theorem dX4_volumeOfAll_7 : decode cX4_volumeOfAll 7 = .ok (.if_icmp .ge 17, 3) := by decide +kernel
theorem dX4_volumeOfAll_10 : decode cX4_volumeOfAll 10 = .ok (.iload_n 1, 1) := by decide +kernel
theorem dX4_volumeOfAll_11 : decode cX4_volumeOfAll 11 = .ok (.aload_n 0, 1) := by decide +kernel
theorem dX4_volumeOfAll_12 : decode cX4_volumeOfAll 12 = .ok (.iload_n 2, 1) := by decide +kernel
theorem dX4_volumeOfAll_13 : decode cX4_volumeOfAll 13 = .ok (.invokevirtual 64, 3) := by decide +kernel
theorem dX4_volumeOfAll_16 : decode cX4_volumeOfAll 16 = .ok (.iadd, 1) := by decide +kernel
theorem dX4_volumeOfAll_17 : decode cX4_volumeOfAll 17 = .ok (.istore_n 1, 1) := by decide +kernel
theorem dX4_volumeOfAll_18 : decode cX4_volumeOfAll 18 = .ok (.iinc 2 1, 3) := by decide +kernel
theorem dX4_volumeOfAll_21 : decode cX4_volumeOfAll 21 = .ok (.goto (-17), 3) := by decide +kernel
theorem dX4_volumeOfAll_24 : decode cX4_volumeOfAll 24 = .ok (.iload_n 1, 1) := by decide +kernel
theorem dX4_volumeOfAll_25 : decode cX4_volumeOfAll 25 = .ok (.ireturn, 1) := by decide +kernel
theorem dX4_sculptures_0 : decode cX4_sculptures 0 = .ok (.iconst 0, 1) := by decide +kernel
theorem dX4_sculptures_1 : decode cX4_sculptures 1 = .ok (.istore_n 1, 1) := by decide +kernel
theorem dX4_sculptures_2 : decode cX4_sculptures 2 = .ok (.iconst 0, 1) := by decide +kernel
theorem dX4_sculptures_3 : decode cX4_sculptures 3 = .ok (.istore_n 2, 1) := by decide +kernel
theorem dX4_sculptures_4 : decode cX4_sculptures 4 = .ok (.iload_n 2, 1) := by decide +kernel
theorem dX4_sculptures_5 : decode cX4_sculptures 5 = .ok (.bipush 8, 2) := by decide +kernel
theorem dX4_sculptures_7 : decode cX4_sculptures 7 = .ok (.if_icmp .ge 26, 3) := by decide +kernel
theorem dX4_sculptures_10 : decode cX4_sculptures 10 = .ok (.iload_n 1, 1) := by decide +kernel
theorem dX4_sculptures_11 : decode cX4_sculptures 11 = .ok (.aload_n 0, 1) := by decide +kernel
theorem dX4_sculptures_12 : decode cX4_sculptures 12 = .ok (.getfield 9, 3) := by decide +kernel
theorem dX4_sculptures_15 : decode cX4_sculptures 15 = .ok (.iload_n 2, 1) := by decide +kernel
theorem dX4_sculptures_16 : decode cX4_sculptures 16 = .ok (.iaload, 1) := by decide +kernel
theorem dX4_sculptures_17 : decode cX4_sculptures 17 = .ok (.ifCond .le 7, 3) := by decide +kernel
theorem dX4_sculptures_20 : decode cX4_sculptures 20 = .ok (.iconst 1, 1) := by decide +kernel
theorem dX4_sculptures_21 : decode cX4_sculptures 21 = .ok (.goto 4, 3) := by decide +kernel
theorem dX4_sculptures_24 : decode cX4_sculptures 24 = .ok (.iconst 0, 1) := by decide +kernel
theorem dX4_sculptures_25 : decode cX4_sculptures 25 = .ok (.iadd, 1) := by decide +kernel
theorem dX4_sculptures_26 : decode cX4_sculptures 26 = .ok (.istore_n 1, 1) := by decide +kernel
theorem dX4_sculptures_27 : decode cX4_sculptures 27 = .ok (.iinc 2 1, 3) := by decide +kernel
theorem dX4_sculptures_30 : decode cX4_sculptures 30 = .ok (.goto (-26), 3) := by decide +kernel
theorem dX4_sculptures_33 : decode cX4_sculptures 33 = .ok (.iload_n 1, 1) := by decide +kernel
theorem dX4_sculptures_34 : decode cX4_sculptures 34 = .ok (.ireturn, 1) := by decide +kernel
theorem dX5_init_0 : decode cX5_init 0 = .ok (.aload_n 0, 1) := by decide +kernel
theorem dX5_init_1 : decode cX5_init 1 = .ok (.invokespecial 3, 3) := by decide +kernel
theorem dX5_init_4 : decode cX5_init 4 = .ok (.aload_n 0, 1) := by decide +kernel
theorem dX5_init_5 : decode cX5_init 5 = .ok (.iconst 3, 1) := by decide +kernel
theorem dX5_init_6 : decode cX5_init 6 = .ok (.newarray .int, 2) := by decide +kernel
theorem dX5_init_8 : decode cX5_init 8 = .ok (.putfield 9, 3) := by decide +kernel
theorem dX5_init_11 : decode cX5_init 11 = .ok (.aload_n 0, 1) := by decide +kernel
theorem dX5_init_12 : decode cX5_init 12 = .ok (.new 15, 3) := by decide +kernel
theorem dX5_init_15 : decode cX5_init 15 = .ok (.dup, 1) := by decide +kernel
theorem dX5_init_16 : decode cX5_init 16 = .ok (.invokespecial 17, 3) := by decide +kernel
theorem dX5_init_19 : decode cX5_init 19 = .ok (.putfield 18, 3) := by decide +kernel
theorem dX5_init_22 : decode cX5_init 22 = .ok (.aload_n 0, 1) := by decide +kernel
theorem dX5_init_23 : decode cX5_init 23 = .ok (.new 22, 3) := by decide +kernel
theorem dX5_init_26 : decode cX5_init 26 = .ok (.dup, 1) := by decide +kernel
theorem dX5_init_27 : decode cX5_init 27 = .ok (.invokespecial 24, 3) := by decide +kernel
theorem dX5_init_30 : decode cX5_init 30 = .ok (.putfield 25, 3) := by decide +kernel
theorem dX5_init_33 : decode cX5_init 33 = .ok (.aload_n 0, 1) := by decide +kernel
theorem dX5_init_34 : decode cX5_init 34 = .ok (.new 29, 3) := by decide +kernel
theorem dX5_init_37 : decode cX5_init 37 = .ok (.dup, 1) := by decide +kernel
theorem dX5_init_38 : decode cX5_init 38 = .ok (.invokespecial 31, 3) := by decide +kernel
theorem dX5_init_41 : decode cX5_init 41 = .ok (.putfield 32, 3) := by decide +kernel
theorem dX5_init_44 : decode cX5_init 44 = .ok (.return_, 1) := by decide +kernel
theorem dX5_copyFrom_0 : decode cX5_copyFrom 0 = .ok (.aload_n 0, 1) := by decide +kernel
theorem dX5_copyFrom_1 : decode cX5_copyFrom 1 = .ok (.aload_n 1, 1) := by decide +kernel
theorem dX5_copyFrom_2 : decode cX5_copyFrom 2 = .ok (.getfield 36, 3) := by decide +kernel
theorem dX5_copyFrom_5 : decode cX5_copyFrom 5 = .ok (.putfield 36, 3) := by decide +kernel
theorem dX5_copyFrom_8 : decode cX5_copyFrom 8 = .ok (.aload_n 0, 1) := by decide +kernel
theorem dX5_copyFrom_9 : decode cX5_copyFrom 9 = .ok (.aload_n 1, 1) := by decide +kernel
theorem dX5_copyFrom_10 : decode cX5_copyFrom 10 = .ok (.getfield 40, 3) := by decide +kernel
theorem dX5_copyFrom_13 : decode cX5_copyFrom 13 = .ok (.putfield 40, 3) := by decide +kernel
theorem dX5_copyFrom_16 : decode cX5_copyFrom 16 = .ok (.aload_n 0, 1) := by decide +kernel
theorem dX5_copyFrom_17 : decode cX5_copyFrom 17 = .ok (.aload_n 1, 1) := by decide +kernel
theorem dX5_copyFrom_18 : decode cX5_copyFrom 18 = .ok (.getfield 43, 3) := by decide +kernel
theorem dX5_copyFrom_21 : decode cX5_copyFrom 21 = .ok (.putfield 43, 3) := by decide +kernel
theorem dX5_copyFrom_24 : decode cX5_copyFrom 24 = .ok (.aload_n 0, 1) := by decide +kernel
theorem dX5_copyFrom_25 : decode cX5_copyFrom 25 = .ok (.aload_n 1, 1) := by decide +kernel
theorem dX5_copyFrom_26 : decode cX5_copyFrom 26 = .ok (.getfield 46, 3) := by decide +kernel
theorem dX5_copyFrom_29 : decode cX5_copyFrom 29 = .ok (.putfield 46, 3) := by decide +kernel
theorem dX5_copyFrom_32 : decode cX5_copyFrom 32 = .ok (.aload_n 0, 1) := by decide +kernel
theorem dX5_copyFrom_33 : decode cX5_copyFrom 33 = .ok (.aload_n 1, 1) := by decide +kernel
theorem dX5_copyFrom_34 : decode cX5_copyFrom 34 = .ok (.getfield 49, 3) := by decide +kernel
theorem dX5_copyFrom_37 : decode cX5_copyFrom 37 = .ok (.putfield 49, 3) := by decide +kernel
theorem dX5_copyFrom_40 : decode cX5_copyFrom 40 = .ok (.aload_n 0, 1) := by decide +kernel
theorem dX5_copyFrom_41 : decode cX5_copyFrom 41 = .ok (.aload_n 1, 1) := by decide +kernel
theorem dX5_copyFrom_42 : decode cX5_copyFrom 42 = .ok (.getfield 52, 3) := by decide +kernel
theorem dX5_copyFrom_45 : decode cX5_copyFrom 45 = .ok (.putfield 52, 3) := by decide +kernel
theorem dX5_copyFrom_48 : decode cX5_copyFrom 48 = .ok (.aload_n 1, 1) := by decide +kernel
theorem dX5_copyFrom_49 : decode cX5_copyFrom 49 = .ok (.getfield 9, 3) := by decide +kernel
theorem dX5_copyFrom_52 : decode cX5_copyFrom 52 = .ok (.aload_n 0, 1) := by decide +kernel
theorem dX5_copyFrom_53 : decode cX5_copyFrom 53 = .ok (.getfield 9, 3) := by decide +kernel
theorem dX5_copyFrom_56 : decode cX5_copyFrom 56 = .ok (.invokestatic 55, 3) := by decide +kernel
theorem dX5_copyFrom_59 : decode cX5_copyFrom 59 = .ok (.aload_n 0, 1) := by decide +kernel
theorem dX5_copyFrom_60 : decode cX5_copyFrom 60 = .ok (.getfield 18, 3) := by decide +kernel
theorem dX5_copyFrom_63 : decode cX5_copyFrom 63 = .ok (.aload_n 1, 1) := by decide +kernel
theorem dX5_copyFrom_64 : decode cX5_copyFrom 64 = .ok (.getfield 18, 3) := by decide +kernel
theorem dX5_copyFrom_67 : decode cX5_copyFrom 67 = .ok (.invokevirtual 59, 3) := by decide +kernel
theorem dX5_copyFrom_70 : decode cX5_copyFrom 70 = .ok (.aload_n 0, 1) := by decide +kernel
theorem dX5_copyFrom_71 : decode cX5_copyFrom 71 = .ok (.getfield 25, 3) := by decide +kernel
theorem dX5_copyFrom_74 : decode cX5_copyFrom 74 = .ok (.aload_n 1, 1) := by decide +kernel
theorem dX5_copyFrom_75 : decode cX5_copyFrom 75 = .ok (.getfield 25, 3) := by decide +kernel
theorem dX5_copyFrom_78 : decode cX5_copyFrom 78 = .ok (.invokevirtual 63, 3) := by decide +kernel
theorem dX5_copyFrom_81 : decode cX5_copyFrom 81 = .ok (.aload_n 0, 1) := by decide +kernel
theorem dX5_copyFrom_82 : decode cX5_copyFrom 82 = .ok (.getfield 32, 3) := by decide +kernel
theorem dX5_copyFrom_85 : decode cX5_copyFrom 85 = .ok (.aload_n 1, 1) := by decide +kernel
theorem dX5_copyFrom_86 : decode cX5_copyFrom 86 = .ok (.getfield 32, 3) := by decide +kernel
theorem dX5_copyFrom_89 : decode cX5_copyFrom 89 = .ok (.invokevirtual 66, 3) := by decide +kernel
theorem dX5_copyFrom_92 : decode cX5_copyFrom 92 = .ok (.return_, 1) := by decide +kernel
theorem dX5_takeSnow_0 : decode cX5_takeSnow 0 = .ok (.aload_n 0, 1) := by decide +kernel
theorem dX5_takeSnow_1 : decode cX5_takeSnow 1 = .ok (.dup, 1) := by decide +kernel
theorem dX5_takeSnow_2 : decode cX5_takeSnow 2 = .ok (.getfield 36, 3) := by decide +kernel
theorem dX5_takeSnow_5 : decode cX5_takeSnow 5 = .ok (.iload_n 1, 1) := by decide +kernel
theorem dX5_takeSnow_6 : decode cX5_takeSnow 6 = .ok (.iadd, 1) := by decide +kernel
theorem dX5_takeSnow_7 : decode cX5_takeSnow 7 = .ok (.putfield 36, 3) := by decide +kernel
theorem dX5_takeSnow_10 : decode cX5_takeSnow 10 = .ok (.return_, 1) := by decide +kernel
theorem dX5_makeBlocks_0 : decode cX5_makeBlocks 0 = .ok (.aload_n 0, 1) := by decide +kernel
theorem dX5_makeBlocks_1 : decode cX5_makeBlocks 1 = .ok (.dup, 1) := by decide +kernel
theorem dX5_makeBlocks_2 : decode cX5_makeBlocks 2 = .ok (.getfield 36, 3) := by decide +kernel
theorem dX5_makeBlocks_5 : decode cX5_makeBlocks 5 = .ok (.iload_n 2, 1) := by decide +kernel
theorem dX5_makeBlocks_6 : decode cX5_makeBlocks 6 = .ok (.bipush 100, 2) := by decide +kernel
theorem dX5_makeBlocks_8 : decode cX5_makeBlocks 8 = .ok (.imul, 1) := by decide +kernel
theorem dX5_makeBlocks_9 : decode cX5_makeBlocks 9 = .ok (.isub, 1) := by decide +kernel
theorem dX5_makeBlocks_10 : decode cX5_makeBlocks 10 = .ok (.putfield 36, 3) := by decide +kernel
theorem dX5_makeBlocks_13 : decode cX5_makeBlocks 13 = .ok (.aload_n 0, 1) := by decide +kernel
theorem dX5_makeBlocks_14 : decode cX5_makeBlocks 14 = .ok (.getfield 9, 3) := by decide +kernel
theorem dX5_makeBlocks_17 : decode cX5_makeBlocks 17 = .ok (.iload_n 1, 1) := by decide +kernel
theorem dX5_makeBlocks_18 : decode cX5_makeBlocks 18 = .ok (.dup2, 1) := by decide +kernel
theorem dX5_makeBlocks_19 : decode cX5_makeBlocks 19 = .ok (.iaload, 1) := by decide +kernel
theorem dX5_makeBlocks_20 : decode cX5_makeBlocks 20 = .ok (.iload_n 2, 1) := by decide +kernel
theorem dX5_makeBlocks_21 : decode cX5_makeBlocks 21 = .ok (.iadd, 1) := by decide +kernel
theorem dX5_makeBlocks_22 : decode cX5_makeBlocks 22 = .ok (.iastore, 1) := by decide +kernel
theorem dX5_makeBlocks_23 : decode cX5_makeBlocks 23 = .ok (.aload_n 0, 1) := by decide +kernel
theorem dX5_makeBlocks_24 : decode cX5_makeBlocks 24 = .ok (.dup, 1) := by decide +kernel
theorem dX5_makeBlocks_25 : decode cX5_makeBlocks 25 = .ok (.getfield 40, 3) := by decide +kernel
theorem dX5_makeBlocks_28 : decode cX5_makeBlocks 28 = .ok (.iload_n 2, 1) := by decide +kernel
theorem dX5_makeBlocks_29 : decode cX5_makeBlocks 29 = .ok (.iadd, 1) := by decide +kernel
theorem dX5_makeBlocks_30 : decode cX5_makeBlocks 30 = .ok (.putfield 40, 3) := by decide +kernel
theorem dX5_makeBlocks_33 : decode cX5_makeBlocks 33 = .ok (.return_, 1) := by decide +kernel
theorem dX5_putBlock_0 : decode cX5_putBlock 0 = .ok (.aload_n 0, 1) := by decide +kernel
theorem dX5_putBlock_1 : decode cX5_putBlock 1 = .ok (.getfield 9, 3) := by decide +kernel
theorem dX5_putBlock_4 : decode cX5_putBlock 4 = .ok (.iload_n 2, 1) := by decide +kernel
theorem dX5_putBlock_5 : decode cX5_putBlock 5 = .ok (.dup2, 1) := by decide +kernel
theorem dX5_putBlock_6 : decode cX5_putBlock 6 = .ok (.iaload, 1) := by decide +kernel
theorem dX5_putBlock_7 : decode cX5_putBlock 7 = .ok (.iconst 1, 1) := by decide +kernel
theorem dX5_putBlock_8 : decode cX5_putBlock 8 = .ok (.isub, 1) := by decide +kernel
theorem dX5_putBlock_9 : decode cX5_putBlock 9 = .ok (.iastore, 1) := by decide +kernel
theorem dX5_putBlock_10 : decode cX5_putBlock 10 = .ok (.aload_n 0, 1) := by decide +kernel
theorem dX5_putBlock_11 : decode cX5_putBlock 11 = .ok (.getfield 18, 3) := by decide +kernel
theorem dX5_putBlock_14 : decode cX5_putBlock 14 = .ok (.iload_n 1, 1) := by decide +kernel
theorem dX5_putBlock_15 : decode cX5_putBlock 15 = .ok (.iload_n 2, 1) := by decide +kernel
theorem dX5_putBlock_16 : decode cX5_putBlock 16 = .ok (.invokevirtual 69, 3) := by decide +kernel
theorem dX5_putBlock_19 : decode cX5_putBlock 19 = .ok (.return_, 1) := by decide +kernel
theorem dX5_reasonAgainst_0 : decode cX5_reasonAgainst 0 = .ok (.aload_n 0, 1) := by decide +kernel
theorem dX5_reasonAgainst_1 : decode cX5_reasonAgainst 1 = .ok (.getfield 18, 3) := by decide +kernel
theorem dX5_reasonAgainst_4 : decode cX5_reasonAgainst 4 = .ok (.iload_n 2, 1) := by decide +kernel
theorem dX5_reasonAgainst_5 : decode cX5_reasonAgainst 5 = .ok (.iconst 0, 1) := by decide +kernel
theorem dX5_reasonAgainst_6 : decode cX5_reasonAgainst 6 = .ok (.invokevirtual 73, 3) := by decide +kernel
theorem dX5_reasonAgainst_9 : decode cX5_reasonAgainst 9 = .ok (.ifCond .ne 5, 3) := by decide +kernel
theorem dX5_reasonAgainst_12 : decode cX5_reasonAgainst 12 = .ok (.iconst 1, 1) := by decide +kernel
theorem dX5_reasonAgainst_13 : decode cX5_reasonAgainst 13 = .ok (.ireturn, 1) := by decide +kernel
theorem dX5_reasonAgainst_14 : decode cX5_reasonAgainst 14 = .ok (.aload_n 0, 1) := by decide +kernel
theorem dX5_reasonAgainst_15 : decode cX5_reasonAgainst 15 = .ok (.getfield 18, 3) := by decide +kernel
theorem dX5_reasonAgainst_18 : decode cX5_reasonAgainst 18 = .ok (.iload_n 2, 1) := by decide +kernel
theorem dX5_reasonAgainst_19 : decode cX5_reasonAgainst 19 = .ok (.iload_n 3, 1) := by decide +kernel
theorem dX5_reasonAgainst_20 : decode cX5_reasonAgainst 20 = .ok (.invokevirtual 73, 3) := by decide +kernel
theorem dX5_reasonAgainst_23 : decode cX5_reasonAgainst 23 = .ok (.ifCond .ne 5, 3) := by decide +kernel
theorem dX5_reasonAgainst_26 : decode cX5_reasonAgainst 26 = .ok (.iconst 2, 1) := by decide +kernel
theorem dX5_reasonAgainst_27 : decode cX5_reasonAgainst 27 = .ok (.ireturn, 1) := by decide +kernel
theorem dX5_reasonAgainst_28 : decode cX5_reasonAgainst 28 = .ok (.aload_n 0, 1) := by decide +kernel
theorem dX5_reasonAgainst_29 : decode cX5_reasonAgainst 29 = .ok (.getfield 18, 3) := by decide +kernel
theorem dX5_reasonAgainst_32 : decode cX5_reasonAgainst 32 = .ok (.getfield 77, 3) := by decide +kernel
theorem dX5_reasonAgainst_35 : decode cX5_reasonAgainst 35 = .ok (.iload_n 2, 1) := by decide +kernel
theorem dX5_reasonAgainst_36 : decode cX5_reasonAgainst 36 = .ok (.iload_n 3, 1) := by decide +kernel
theorem dX5_reasonAgainst_37 : decode cX5_reasonAgainst 37 = .ok (.invokestatic 80, 3) := by decide +kernel
theorem dX5_reasonAgainst_40 : decode cX5_reasonAgainst 40 = .ok (.iaload, 1) := by decide +kernel
theorem dX5_reasonAgainst_41 : decode cX5_reasonAgainst 41 = .ok (.iload 4, 2) := by decide +kernel
theorem dX5_reasonAgainst_43 : decode cX5_reasonAgainst 43 = .ok (.if_icmp .ge 5, 3) := by decide +kernel
theorem dX5_reasonAgainst_46 : decode cX5_reasonAgainst 46 = .ok (.iconst 3, 1) := by decide +kernel
theorem dX5_reasonAgainst_47 : decode cX5_reasonAgainst 47 = .ok (.ireturn, 1) := by decide +kernel
theorem dX5_reasonAgainst_48 : decode cX5_reasonAgainst 48 = .ok (.aload_n 0, 1) := by decide +kernel
theorem dX5_reasonAgainst_49 : decode cX5_reasonAgainst 49 = .ok (.getfield 25, 3) := by decide +kernel
theorem dX5_reasonAgainst_52 : decode cX5_reasonAgainst 52 = .ok (.getfield 84, 3) := by decide +kernel
theorem dX5_reasonAgainst_55 : decode cX5_reasonAgainst 55 = .ok (.iload_n 1, 1) := by decide +kernel
theorem dX5_reasonAgainst_56 : decode cX5_reasonAgainst 56 = .ok (.iaload, 1) := by decide +kernel
theorem dX5_reasonAgainst_57 : decode cX5_reasonAgainst 57 = .ok (.aload_n 0, 1) := by decide +kernel
theorem dX5_reasonAgainst_58 : decode cX5_reasonAgainst 58 = .ok (.getfield 25, 3) := by decide +kernel
theorem dX5_reasonAgainst_61 : decode cX5_reasonAgainst 61 = .ok (.iload_n 1, 1) := by decide +kernel
theorem dX5_reasonAgainst_62 : decode cX5_reasonAgainst 62 = .ok (.iload 4, 2) := by decide +kernel
theorem dX5_reasonAgainst_64 : decode cX5_reasonAgainst 64 = .ok (.invokevirtual 87, 3) := by decide +kernel
theorem dX5_reasonAgainst_67 : decode cX5_reasonAgainst 67 = .ok (.if_icmp .ge 7, 3) := by decide +kernel
theorem dX5_reasonAgainst_70 : decode cX5_reasonAgainst 70 = .ok (.iconst 4, 1) := by decide +kernel
theorem dX5_reasonAgainst_71 : decode cX5_reasonAgainst 71 = .ok (.goto 4, 3) := by decide +kernel
theorem dX5_reasonAgainst_74 : decode cX5_reasonAgainst 74 = .ok (.iconst 0, 1) := by decide +kernel
theorem dX5_reasonAgainst_75 : decode cX5_reasonAgainst 75 = .ok (.ireturn, 1) := by decide +kernel
theorem dX5_cutOff_0 : decode cX5_cutOff 0 = .ok (.aload_n 0, 1) := by decide +kernel
theorem dX5_cutOff_1 : decode cX5_cutOff 1 = .ok (.getfield 25, 3) := by decide +kernel
theorem dX5_cutOff_4 : decode cX5_cutOff 4 = .ok (.iload_n 1, 1) := by decide +kernel
theorem dX5_cutOff_5 : decode cX5_cutOff 5 = .ok (.aload_n 0, 1) := by decide +kernel
theorem dX5_cutOff_6 : decode cX5_cutOff 6 = .ok (.getfield 25, 3) := by decide +kernel
theorem dX5_cutOff_9 : decode cX5_cutOff 9 = .ok (.iload_n 1, 1) := by decide +kernel
theorem dX5_cutOff_10 : decode cX5_cutOff 10 = .ok (.iload 4, 2) := by decide +kernel
theorem dX5_cutOff_12 : decode cX5_cutOff 12 = .ok (.invokevirtual 87, 3) := by decide +kernel
theorem dX5_cutOff_15 : decode cX5_cutOff 15 = .ok (.invokevirtual 90, 3) := by decide +kernel
theorem dX5_cutOff_18 : decode cX5_cutOff 18 = .ok (.aload_n 0, 1) := by decide +kernel
theorem dX5_cutOff_19 : decode cX5_cutOff 19 = .ok (.dup, 1) := by decide +kernel
theorem dX5_cutOff_20 : decode cX5_cutOff 20 = .ok (.getfield 43, 3) := by decide +kernel
theorem dX5_cutOff_23 : decode cX5_cutOff 23 = .ok (.iload 4, 2) := by decide +kernel
theorem dX5_cutOff_25 : decode cX5_cutOff 25 = .ok (.iadd, 1) := by decide +kernel
theorem dX5_cutOff_26 : decode cX5_cutOff 26 = .ok (.putfield 43, 3) := by decide +kernel
theorem dX5_cutOff_29 : decode cX5_cutOff 29 = .ok (.aload_n 0, 1) := by decide +kernel
theorem dX5_cutOff_30 : decode cX5_cutOff 30 = .ok (.getfield 18, 3) := by decide +kernel
theorem dX5_cutOff_33 : decode cX5_cutOff 33 = .ok (.iload_n 2, 1) := by decide +kernel
theorem dX5_cutOff_34 : decode cX5_cutOff 34 = .ok (.iload_n 3, 1) := by decide +kernel
theorem dX5_cutOff_35 : decode cX5_cutOff 35 = .ok (.iload 4, 2) := by decide +kernel
theorem dX5_cutOff_37 : decode cX5_cutOff 37 = .ok (.invokevirtual 93, 3) := by decide +kernel
theorem dX5_cutOff_40 : decode cX5_cutOff 40 = .ok (.ireturn, 1) := by decide +kernel
theorem dX5_putOffcutsBack_0 : decode cX5_putOffcutsBack 0 = .ok (.aload_n 0, 1) := by decide +kernel
theorem dX5_putOffcutsBack_1 : decode cX5_putOffcutsBack 1 = .ok (.getfield 43, 3) := by decide +kernel
theorem dX5_putOffcutsBack_4 : decode cX5_putOffcutsBack 4 = .ok (.sipush 9999, 3) := by decide +kernel
theorem dX5_putOffcutsBack_7 : decode cX5_putOffcutsBack 7 = .ok (.aload_n 0, 1) := by decide +kernel
theorem dX5_putOffcutsBack_8 : decode cX5_putOffcutsBack 8 = .ok (.getfield 36, 3) := by decide +kernel
theorem dX5_putOffcutsBack_11 : decode cX5_putOffcutsBack 11 = .ok (.isub, 1) := by decide +kernel
theorem dX5_putOffcutsBack_12 : decode cX5_putOffcutsBack 12 = .ok (.invokestatic 97, 3) := by decide +kernel
theorem dX5_putOffcutsBack_15 : decode cX5_putOffcutsBack 15 = .ok (.istore_n 1, 1) := by decide +kernel
theorem dX5_putOffcutsBack_16 : decode cX5_putOffcutsBack 16 = .ok (.aload_n 0, 1) := by decide +kernel
theorem dX5_putOffcutsBack_17 : decode cX5_putOffcutsBack 17 = .ok (.dup, 1) := by decide +kernel
theorem dX5_putOffcutsBack_18 : decode cX5_putOffcutsBack 18 = .ok (.getfield 43, 3) := by decide +kernel
theorem dX5_putOffcutsBack_21 : decode cX5_putOffcutsBack 21 = .ok (.iload_n 1, 1) := by decide +kernel
theorem dX5_putOffcutsBack_22 : decode cX5_putOffcutsBack 22 = .ok (.isub, 1) := by decide +kernel
theorem dX5_putOffcutsBack_23 : decode cX5_putOffcutsBack 23 = .ok (.putfield 43, 3) := by decide +kernel
theorem dX5_putOffcutsBack_26 : decode cX5_putOffcutsBack 26 = .ok (.aload_n 0, 1) := by decide +kernel
theorem dX5_putOffcutsBack_27 : decode cX5_putOffcutsBack 27 = .ok (.dup, 1) := by decide +kernel
theorem dX5_putOffcutsBack_28 : decode cX5_putOffcutsBack 28 = .ok (.getfield 36, 3) := by decide +kernel
theorem dX5_putOffcutsBack_31 : decode cX5_putOffcutsBack 31 = .ok (.iload_n 1, 1) := by decide +kernel
theorem dX5_putOffcutsBack_32 : decode cX5_putOffcutsBack 32 = .ok (.iadd, 1) := by decide +kernel
theorem dX5_putOffcutsBack_33 : decode cX5_putOffcutsBack 33 = .ok (.putfield 36, 3) := by decide +kernel
theorem dX5_putOffcutsBack_36 : decode cX5_putOffcutsBack 36 = .ok (.aload_n 0, 1) := by decide +kernel
theorem dX5_putOffcutsBack_37 : decode cX5_putOffcutsBack 37 = .ok (.dup, 1) := by decide +kernel
theorem dX5_putOffcutsBack_38 : decode cX5_putOffcutsBack 38 = .ok (.getfield 46, 3) := by decide +kernel
theorem dX5_putOffcutsBack_41 : decode cX5_putOffcutsBack 41 = .ok (.iload_n 1, 1) := by decide +kernel
theorem dX5_putOffcutsBack_42 : decode cX5_putOffcutsBack 42 = .ok (.iadd, 1) := by decide +kernel
theorem dX5_putOffcutsBack_43 : decode cX5_putOffcutsBack 43 = .ok (.putfield 46, 3) := by decide +kernel
theorem dX5_putOffcutsBack_46 : decode cX5_putOffcutsBack 46 = .ok (.iload_n 1, 1) := by decide +kernel
theorem dX5_putOffcutsBack_47 : decode cX5_putOffcutsBack 47 = .ok (.ireturn, 1) := by decide +kernel
theorem dX5_passHours_0 : decode cX5_passHours 0 = .ok (.iconst 0, 1) := by decide +kernel
theorem dX5_passHours_1 : decode cX5_passHours 1 = .ok (.istore_n 3, 1) := by decide +kernel
theorem dX5_passHours_2 : decode cX5_passHours 2 = .ok (.iconst 0, 1) := by decide +kernel
theorem dX5_passHours_3 : decode cX5_passHours 3 = .ok (.istore 4, 2) := by decide +kernel
theorem dX5_passHours_5 : decode cX5_passHours 5 = .ok (.iload 4, 2) := by decide +kernel
theorem dX5_passHours_7 : decode cX5_passHours 7 = .ok (.iload_n 1, 1) := by decide +kernel
theorem dX5_passHours_8 : decode cX5_passHours 8 = .ok (.if_icmp .ge 72, 3) := by decide +kernel
theorem dX5_passHours_11 : decode cX5_passHours 11 = .ok (.iload_n 3, 1) := by decide +kernel
theorem dX5_passHours_12 : decode cX5_passHours 12 = .ok (.iload_n 2, 1) := by decide +kernel
theorem dX5_passHours_13 : decode cX5_passHours 13 = .ok (.ifCond .eq 7, 3) := by decide +kernel
theorem dX5_passHours_16 : decode cX5_passHours 16 = .ok (.iconst 0, 1) := by decide +kernel
theorem dX5_passHours_17 : decode cX5_passHours 17 = .ok (.goto 14, 3) := by decide +kernel
theorem dX5_passHours_20 : decode cX5_passHours 20 = .ok (.aload_n 0, 1) := by decide +kernel
theorem dX5_passHours_21 : decode cX5_passHours 21 = .ok (.getfield 18, 3) := by decide +kernel
theorem dX5_passHours_24 : decode cX5_passHours 24 = .ok (.aload_n 0, 1) := by decide +kernel
theorem dX5_passHours_25 : decode cX5_passHours 25 = .ok (.getfield 49, 3) := by decide +kernel
theorem dX5_passHours_28 : decode cX5_passHours 28 = .ok (.invokevirtual 102, 3) := by decide +kernel
theorem dX5_passHours_31 : decode cX5_passHours 31 = .ok (.iadd, 1) := by decide +kernel
theorem dX5_passHours_32 : decode cX5_passHours 32 = .ok (.istore_n 3, 1) := by decide +kernel
theorem dX5_passHours_33 : decode cX5_passHours 33 = .ok (.aload_n 0, 1) := by decide +kernel
theorem dX5_passHours_34 : decode cX5_passHours 34 = .ok (.getfield 25, 3) := by decide +kernel
theorem dX5_passHours_37 : decode cX5_passHours 37 = .ok (.invokevirtual 106, 3) := by decide +kernel
theorem dX5_passHours_40 : decode cX5_passHours 40 = .ok (.aload_n 0, 1) := by decide +kernel
theorem dX5_passHours_41 : decode cX5_passHours 41 = .ok (.dup, 1) := by decide +kernel
theorem dX5_passHours_42 : decode cX5_passHours 42 = .ok (.getfield 49, 3) := by decide +kernel
theorem dX5_passHours_45 : decode cX5_passHours 45 = .ok (.iconst 1, 1) := by decide +kernel
theorem dX5_passHours_46 : decode cX5_passHours 46 = .ok (.iadd, 1) := by decide +kernel
theorem dX5_passHours_47 : decode cX5_passHours 47 = .ok (.putfield 49, 3) := by decide +kernel
theorem dX5_passHours_50 : decode cX5_passHours 50 = .ok (.aload_n 0, 1) := by decide +kernel
theorem dX5_passHours_51 : decode cX5_passHours 51 = .ok (.getfield 49, 3) := by decide +kernel
theorem dX5_passHours_54 : decode cX5_passHours 54 = .ok (.bipush 12, 2) := by decide +kernel
theorem dX5_passHours_56 : decode cX5_passHours 56 = .ok (.if_icmp .lt 18, 3) := by decide +kernel
theorem dX5_passHours_59 : decode cX5_passHours 59 = .ok (.aload_n 0, 1) := by decide +kernel
theorem dX5_passHours_60 : decode cX5_passHours 60 = .ok (.iconst 0, 1) := by decide +kernel
theorem dX5_passHours_61 : decode cX5_passHours 61 = .ok (.putfield 49, 3) := by decide +kernel
theorem dX5_passHours_64 : decode cX5_passHours 64 = .ok (.aload_n 0, 1) := by decide +kernel
theorem dX5_passHours_65 : decode cX5_passHours 65 = .ok (.dup, 1) := by decide +kernel
theorem dX5_passHours_66 : decode cX5_passHours 66 = .ok (.getfield 52, 3) := by decide +kernel
theorem dX5_passHours_69 : decode cX5_passHours 69 = .ok (.iconst 1, 1) := by decide +kernel
theorem dX5_passHours_70 : decode cX5_passHours 70 = .ok (.iadd, 1) := by decide +kernel
theorem dX5_passHours_71 : decode cX5_passHours 71 = .ok (.putfield 52, 3) := by decide +kernel
theorem dX5_passHours_74 : decode cX5_passHours 74 = .ok (.iinc 4 1, 3) := by decide +kernel
theorem dX5_passHours_77 : decode cX5_passHours 77 = .ok (.goto (-72), 3) := by decide +kernel
theorem dX5_passHours_80 : decode cX5_passHours 80 = .ok (.iload_n 3, 1) := by decide +kernel
theorem dX5_passHours_81 : decode cX5_passHours 81 = .ok (.ireturn, 1) := by decide +kernel
theorem dX6_init_0 : decode cX6_init 0 = .ok (.aload_n 0, 1) := by decide +kernel
theorem dX6_init_1 : decode cX6_init 1 = .ok (.invokespecial 3, 3) := by decide +kernel
theorem dX6_init_4 : decode cX6_init 4 = .ok (.aload_n 0, 1) := by decide +kernel
theorem dX6_init_5 : decode cX6_init 5 = .ok (.iconst 5, 1) := by decide +kernel
theorem dX6_init_6 : decode cX6_init 6 = .ok (.newarray .int, 2) := by decide +kernel
theorem dX6_init_8 : decode cX6_init 8 = .ok (.putfield 9, 3) := by decide +kernel
theorem dX6_init_11 : decode cX6_init 11 = .ok (.aload_n 0, 1) := by decide +kernel
theorem dX6_init_12 : decode cX6_init 12 = .ok (.iconst 5, 1) := by decide +kernel
theorem dX6_init_13 : decode cX6_init 13 = .ok (.newarray .int, 2) := by decide +kernel
theorem dX6_init_15 : decode cX6_init 15 = .ok (.putfield 15, 3) := by decide +kernel
theorem dX6_init_18 : decode cX6_init 18 = .ok (.aload_n 0, 1) := by decide +kernel
theorem dX6_init_19 : decode cX6_init 19 = .ok (.iconst 5, 1) := by decide +kernel
theorem dX6_init_20 : decode cX6_init 20 = .ok (.newarray .int, 2) := by decide +kernel
theorem dX6_init_22 : decode cX6_init 22 = .ok (.putfield 18, 3) := by decide +kernel
theorem dX6_init_25 : decode cX6_init 25 = .ok (.return_, 1) := by decide +kernel
theorem dX6_copyFrom_0 : decode cX6_copyFrom 0 = .ok (.aload_n 0, 1) := by decide +kernel
theorem dX6_copyFrom_1 : decode cX6_copyFrom 1 = .ok (.aload_n 1, 1) := by decide +kernel
theorem dX6_copyFrom_2 : decode cX6_copyFrom 2 = .ok (.getfield 21, 3) := by decide +kernel
theorem dX6_copyFrom_5 : decode cX6_copyFrom 5 = .ok (.putfield 21, 3) := by decide +kernel
theorem dX6_copyFrom_8 : decode cX6_copyFrom 8 = .ok (.aload_n 1, 1) := by decide +kernel
theorem dX6_copyFrom_9 : decode cX6_copyFrom 9 = .ok (.getfield 9, 3) := by decide +kernel
theorem dX6_copyFrom_12 : decode cX6_copyFrom 12 = .ok (.aload_n 0, 1) := by decide +kernel
theorem dX6_copyFrom_13 : decode cX6_copyFrom 13 = .ok (.getfield 9, 3) := by decide +kernel
theorem dX6_copyFrom_16 : decode cX6_copyFrom 16 = .ok (.invokestatic 25, 3) := by decide +kernel
theorem dX6_copyFrom_19 : decode cX6_copyFrom 19 = .ok (.aload_n 1, 1) := by decide +kernel
theorem dX6_copyFrom_20 : decode cX6_copyFrom 20 = .ok (.getfield 15, 3) := by decide +kernel
theorem dX6_copyFrom_23 : decode cX6_copyFrom 23 = .ok (.aload_n 0, 1) := by decide +kernel
theorem dX6_copyFrom_24 : decode cX6_copyFrom 24 = .ok (.getfield 15, 3) := by decide +kernel
theorem dX6_copyFrom_27 : decode cX6_copyFrom 27 = .ok (.invokestatic 25, 3) := by decide +kernel
theorem dX6_copyFrom_30 : decode cX6_copyFrom 30 = .ok (.aload_n 1, 1) := by decide +kernel
theorem dX6_copyFrom_31 : decode cX6_copyFrom 31 = .ok (.getfield 18, 3) := by decide +kernel
theorem dX6_copyFrom_34 : decode cX6_copyFrom 34 = .ok (.aload_n 0, 1) := by decide +kernel
theorem dX6_copyFrom_35 : decode cX6_copyFrom 35 = .ok (.getfield 18, 3) := by decide +kernel
theorem dX6_copyFrom_38 : decode cX6_copyFrom 38 = .ok (.invokestatic 25, 3) := by decide +kernel
theorem dX6_copyFrom_41 : decode cX6_copyFrom 41 = .ok (.return_, 1) := by decide +kernel
theorem dX6_add_0 : decode cX6_add 0 = .ok (.aload_n 0, 1) := by decide +kernel
theorem dX6_add_1 : decode cX6_add 1 = .ok (.getfield 9, 3) := by decide +kernel
theorem dX6_add_4 : decode cX6_add 4 = .ok (.aload_n 0, 1) := by decide +kernel
theorem dX6_add_5 : decode cX6_add 5 = .ok (.getfield 21, 3) := by decide +kernel
theorem dX6_add_8 : decode cX6_add 8 = .ok (.iload_n 1, 1) := by decide +kernel
theorem dX6_add_9 : decode cX6_add 9 = .ok (.iastore, 1) := by decide +kernel
theorem dX6_add_10 : decode cX6_add 10 = .ok (.aload_n 0, 1) := by decide +kernel
theorem dX6_add_11 : decode cX6_add 11 = .ok (.getfield 15, 3) := by decide +kernel
theorem dX6_add_14 : decode cX6_add 14 = .ok (.aload_n 0, 1) := by decide +kernel
theorem dX6_add_15 : decode cX6_add 15 = .ok (.getfield 21, 3) := by decide +kernel
theorem dX6_add_18 : decode cX6_add 18 = .ok (.bipush 60, 2) := by decide +kernel
theorem dX6_add_20 : decode cX6_add 20 = .ok (.iastore, 1) := by decide +kernel
theorem dX6_add_21 : decode cX6_add 21 = .ok (.aload_n 0, 1) := by decide +kernel
theorem dX6_add_22 : decode cX6_add 22 = .ok (.getfield 18, 3) := by decide +kernel
theorem dX6_add_25 : decode cX6_add 25 = .ok (.aload_n 0, 1) := by decide +kernel
theorem dX6_add_26 : decode cX6_add 26 = .ok (.getfield 21, 3) := by decide +kernel
theorem dX6_add_29 : decode cX6_add 29 = .ok (.iconst 0, 1) := by decide +kernel
theorem dX6_add_30 : decode cX6_add 30 = .ok (.iastore, 1) := by decide +kernel
theorem dX6_add_31 : decode cX6_add 31 = .ok (.aload_n 0, 1) := by decide +kernel
theorem dX6_add_32 : decode cX6_add 32 = .ok (.dup, 1) := by decide +kernel
theorem dX6_add_33 : decode cX6_add 33 = .ok (.getfield 21, 3) := by decide +kernel
theorem dX6_add_36 : decode cX6_add 36 = .ok (.iconst 1, 1) := by decide +kernel
theorem dX6_add_37 : decode cX6_add 37 = .ok (.iadd, 1) := by decide +kernel
theorem dX6_add_38 : decode cX6_add 38 = .ok (.putfield 21, 3) := by decide +kernel
theorem dX6_add_41 : decode cX6_add 41 = .ok (.return_, 1) := by decide +kernel
theorem dX6_minutesToCarve_0 : decode cX6_minutesToCarve 0 = .ok (.aload_n 0, 1) := by decide +kernel
theorem dX6_minutesToCarve_1 : decode cX6_minutesToCarve 1 = .ok (.getfield 9, 3) := by decide +kernel
theorem dX6_minutesToCarve_4 : decode cX6_minutesToCarve 4 = .ok (.iload_n 1, 1) := by decide +kernel
theorem dX6_minutesToCarve_5 : decode cX6_minutesToCarve 5 = .ok (.iaload, 1) := by decide +kernel
theorem dX6_minutesToCarve_6 : decode cX6_minutesToCarve 6 = .ok (.istore_n 3, 1) := by decide +kernel
theorem dX6_minutesToCarve_7 : decode cX6_minutesToCarve 7 = .ok (.iload_n 3, 1) := by decide +kernel
theorem dX6_minutesToCarve_8 : decode cX6_minutesToCarve 8 = .ok (.iconst 1, 1) := by decide +kernel
theorem dX6_minutesToCarve_9 : decode cX6_minutesToCarve 9 = .ok (.if_icmp .ge 7, 3) := by decide +kernel
theorem dX6_minutesToCarve_12 : decode cX6_minutesToCarve 12 = .ok (.iconst 0, 1) := by decide +kernel
theorem dX6_minutesToCarve_13 : decode cX6_minutesToCarve 13 = .ok (.goto 10, 3) := by decide +kernel
theorem dX6_minutesToCarve_16 : decode cX6_minutesToCarve 16 = .ok (.iload_n 2, 1) := by decide +kernel
theorem dX6_minutesToCarve_17 : decode cX6_minutesToCarve 17 = .ok (.iload_n 3, 1) := by decide +kernel
theorem dX6_minutesToCarve_18 : decode cX6_minutesToCarve 18 = .ok (.iadd, 1) := by decide +kernel
theorem dX6_minutesToCarve_19 : decode cX6_minutesToCarve 19 = .ok (.iconst 1, 1) := by decide +kernel
theorem dX6_minutesToCarve_20 : decode cX6_minutesToCarve 20 = .ok (.isub, 1) := by decide +kernel
theorem dX6_minutesToCarve_21 : decode cX6_minutesToCarve 21 = .ok (.iload_n 3, 1) := by decide +kernel
theorem dX6_minutesToCarve_22 : decode cX6_minutesToCarve 22 = .ok (.idiv, 1) := by decide +kernel
theorem dX6_minutesToCarve_23 : decode cX6_minutesToCarve 23 = .ok (.ireturn, 1) := by decide +kernel
theorem dX6_use_0 : decode cX6_use 0 = .ok (.aload_n 0, 1) := by decide +kernel
theorem dX6_use_1 : decode cX6_use 1 = .ok (.getfield 15, 3) := by decide +kernel
theorem dX6_use_4 : decode cX6_use 4 = .ok (.iload_n 1, 1) := by decide +kernel
theorem dX6_use_5 : decode cX6_use 5 = .ok (.dup2, 1) := by decide +kernel
theorem dX6_use_6 : decode cX6_use 6 = .ok (.iaload, 1) := by decide +kernel
theorem dX6_use_7 : decode cX6_use 7 = .ok (.iload_n 2, 1) := by decide +kernel
theorem dX6_use_8 : decode cX6_use 8 = .ok (.isub, 1) := by decide +kernel
theorem dX6_use_9 : decode cX6_use 9 = .ok (.iastore, 1) := by decide +kernel
theorem dX6_use_10 : decode cX6_use 10 = .ok (.aload_n 0, 1) := by decide +kernel
theorem dX6_use_11 : decode cX6_use 11 = .ok (.getfield 18, 3) := by decide +kernel
theorem dX6_use_14 : decode cX6_use 14 = .ok (.iload_n 1, 1) := by decide +kernel
theorem dX6_use_15 : decode cX6_use 15 = .ok (.dup2, 1) := by decide +kernel
theorem dX6_use_16 : decode cX6_use 16 = .ok (.iaload, 1) := by decide +kernel
theorem dX6_use_17 : decode cX6_use 17 = .ok (.iload_n 2, 1) := by decide +kernel
theorem dX6_use_18 : decode cX6_use 18 = .ok (.iadd, 1) := by decide +kernel
theorem dX6_use_19 : decode cX6_use 19 = .ok (.iastore, 1) := by decide +kernel
theorem dX6_use_20 : decode cX6_use 20 = .ok (.return_, 1) := by decide +kernel
theorem dX6_restoreMinutes_0 : decode cX6_restoreMinutes 0 = .ok (.iconst 0, 1) := by decide +kernel
theorem dX6_restoreMinutes_1 : decode cX6_restoreMinutes 1 = .ok (.istore_n 1, 1) := by decide +kernel
theorem dX6_restoreMinutes_2 : decode cX6_restoreMinutes 2 = .ok (.iload_n 1, 1) := by decide +kernel
theorem dX6_restoreMinutes_3 : decode cX6_restoreMinutes 3 = .ok (.aload_n 0, 1) := by decide +kernel
theorem dX6_restoreMinutes_4 : decode cX6_restoreMinutes 4 = .ok (.getfield 21, 3) := by decide +kernel
theorem dX6_restoreMinutes_7 : decode cX6_restoreMinutes 7 = .ok (.if_icmp .ge 17, 3) := by decide +kernel
theorem dX6_restoreMinutes_10 : decode cX6_restoreMinutes 10 = .ok (.aload_n 0, 1) := by decide +kernel
theorem dX6_restoreMinutes_11 : decode cX6_restoreMinutes 11 = .ok (.getfield 15, 3) := by decide +kernel
theorem dX6_restoreMinutes_14 : decode cX6_restoreMinutes 14 = .ok (.iload_n 1, 1) := by decide +kernel
theorem dX6_restoreMinutes_15 : decode cX6_restoreMinutes 15 = .ok (.bipush 60, 2) := by decide +kernel
theorem dX6_restoreMinutes_17 : decode cX6_restoreMinutes 17 = .ok (.iastore, 1) := by decide +kernel
theorem dX6_restoreMinutes_18 : decode cX6_restoreMinutes 18 = .ok (.iinc 1 1, 3) := by decide +kernel
theorem dX6_restoreMinutes_21 : decode cX6_restoreMinutes 21 = .ok (.goto (-19), 3) := by decide +kernel
theorem dX6_restoreMinutes_24 : decode cX6_restoreMinutes 24 = .ok (.return_, 1) := by decide +kernel
theorem dX7_init_0 : decode cX7_init 0 = .ok (.aload_n 0, 1) := by decide +kernel
theorem dX7_init_1 : decode cX7_init 1 = .ok (.invokespecial 3, 3) := by decide +kernel
theorem dX7_init_4 : decode cX7_init 4 = .ok (.aload_n 0, 1) := by decide +kernel
theorem dX7_init_5 : decode cX7_init 5 = .ok (.iconst 4, 1) := by decide +kernel
theorem dX7_init_6 : decode cX7_init 6 = .ok (.anewarray 9, 3) := by decide +kernel
theorem dX7_init_9 : decode cX7_init 9 = .ok (.putfield 11, 3) := by decide +kernel
theorem dX7_init_12 : decode cX7_init 12 = .ok (.iconst 0, 1) := by decide +kernel
theorem dX7_init_13 : decode cX7_init 13 = .ok (.istore_n 1, 1) := by decide +kernel
theorem dX7_init_14 : decode cX7_init 14 = .ok (.iload_n 1, 1) := by decide +kernel
theorem dX7_init_15 : decode cX7_init 15 = .ok (.iconst 4, 1) := by decide +kernel
theorem dX7_init_16 : decode cX7_init 16 = .ok (.if_icmp .ge 22, 3) := by decide +kernel
theorem dX7_init_19 : decode cX7_init 19 = .ok (.aload_n 0, 1) := by decide +kernel
theorem dX7_init_20 : decode cX7_init 20 = .ok (.getfield 11, 3) := by decide +kernel
theorem dX7_init_23 : decode cX7_init 23 = .ok (.iload_n 1, 1) := by decide +kernel
theorem dX7_init_24 : decode cX7_init 24 = .ok (.new 9, 3) := by decide +kernel
theorem dX7_init_27 : decode cX7_init 27 = .ok (.dup, 1) := by decide +kernel
theorem dX7_init_28 : decode cX7_init 28 = .ok (.invokespecial 17, 3) := by decide +kernel
theorem dX7_init_31 : decode cX7_init 31 = .ok (.aastore, 1) := by decide +kernel
theorem dX7_init_32 : decode cX7_init 32 = .ok (.iinc 1 1, 3) := by decide +kernel
theorem dX7_init_35 : decode cX7_init 35 = .ok (.goto (-21), 3) := by decide +kernel
theorem dX7_init_38 : decode cX7_init 38 = .ok (.return_, 1) := by decide +kernel
theorem dX7_push_0 : decode cX7_push 0 = .ok (.aload_n 0, 1) := by decide +kernel
theorem dX7_push_1 : decode cX7_push 1 = .ok (.aload_n 0, 1) := by decide +kernel
theorem dX7_push_2 : decode cX7_push 2 = .ok (.getfield 18, 3) := by decide +kernel
theorem dX7_push_5 : decode cX7_push 5 = .ok (.iconst 1, 1) := by decide +kernel
theorem dX7_push_6 : decode cX7_push 6 = .ok (.iadd, 1) := by decide +kernel
theorem dX7_push_7 : decode cX7_push 7 = .ok (.iconst 4, 1) := by decide +kernel
theorem dX7_push_8 : decode cX7_push 8 = .ok (.irem, 1) := by decide +kernel
theorem dX7_push_9 : decode cX7_push 9 = .ok (.putfield 18, 3) := by decide +kernel
theorem dX7_push_12 : decode cX7_push 12 = .ok (.aload_n 0, 1) := by decide +kernel
theorem dX7_push_13 : decode cX7_push 13 = .ok (.getfield 11, 3) := by decide +kernel
theorem dX7_push_16 : decode cX7_push 16 = .ok (.aload_n 0, 1) := by decide +kernel
theorem dX7_push_17 : decode cX7_push 17 = .ok (.getfield 18, 3) := by decide +kernel
theorem dX7_push_20 : decode cX7_push 20 = .ok (.aaload, 1) := by decide +kernel
theorem dX7_push_21 : decode cX7_push 21 = .ok (.aload_n 1, 1) := by decide +kernel
theorem dX7_push_22 : decode cX7_push 22 = .ok (.invokevirtual 22, 3) := by decide +kernel
theorem dX7_push_25 : decode cX7_push 25 = .ok (.aload_n 0, 1) := by decide +kernel
theorem dX7_push_26 : decode cX7_push 26 = .ok (.aload_n 0, 1) := by decide +kernel
theorem dX7_push_27 : decode cX7_push 27 = .ok (.getfield 26, 3) := by decide +kernel
theorem dX7_push_30 : decode cX7_push 30 = .ok (.iconst 1, 1) := by decide +kernel
theorem dX7_push_31 : decode cX7_push 31 = .ok (.iadd, 1) := by decide +kernel
theorem dX7_push_32 : decode cX7_push 32 = .ok (.iconst 4, 1) := by decide +kernel
theorem dX7_push_33 : decode cX7_push 33 = .ok (.invokestatic 29, 3) := by decide +kernel
theorem dX7_push_36 : decode cX7_push 36 = .ok (.putfield 26, 3) := by decide +kernel
theorem dX7_push_39 : decode cX7_push 39 = .ok (.return_, 1) := by decide +kernel
theorem dX7_pop_0 : decode cX7_pop 0 = .ok (.aload_n 1, 1) := by decide +kernel
theorem dX7_pop_1 : decode cX7_pop 1 = .ok (.aload_n 0, 1) := by decide +kernel
theorem dX7_pop_2 : decode cX7_pop 2 = .ok (.getfield 11, 3) := by decide +kernel
theorem dX7_pop_5 : decode cX7_pop 5 = .ok (.aload_n 0, 1) := by decide +kernel
theorem dX7_pop_6 : decode cX7_pop 6 = .ok (.getfield 18, 3) := by decide +kernel
theorem dX7_pop_9 : decode cX7_pop 9 = .ok (.aaload, 1) := by decide +kernel
theorem dX7_pop_10 : decode cX7_pop 10 = .ok (.invokevirtual 22, 3) := by decide +kernel
theorem dX7_pop_13 : decode cX7_pop 13 = .ok (.aload_n 0, 1) := by decide +kernel
theorem dX7_pop_14 : decode cX7_pop 14 = .ok (.aload_n 0, 1) := by decide +kernel
theorem dX7_pop_15 : decode cX7_pop 15 = .ok (.getfield 18, 3) := by decide +kernel
theorem dX7_pop_18 : decode cX7_pop 18 = .ok (.iconst 4, 1) := by decide +kernel
theorem dX7_pop_19 : decode cX7_pop 19 = .ok (.iadd, 1) := by decide +kernel
theorem dX7_pop_20 : decode cX7_pop 20 = .ok (.iconst 1, 1) := by decide +kernel
theorem dX7_pop_21 : decode cX7_pop 21 = .ok (.isub, 1) := by decide +kernel
theorem dX7_pop_22 : decode cX7_pop 22 = .ok (.iconst 4, 1) := by decide +kernel
theorem dX7_pop_23 : decode cX7_pop 23 = .ok (.irem, 1) := by decide +kernel
theorem dX7_pop_24 : decode cX7_pop 24 = .ok (.putfield 18, 3) := by decide +kernel
theorem dX7_pop_27 : decode cX7_pop 27 = .ok (.aload_n 0, 1) := by decide +kernel
theorem dX7_pop_28 : decode cX7_pop 28 = .ok (.dup, 1) := by decide +kernel
theorem dX7_pop_29 : decode cX7_pop 29 = .ok (.getfield 26, 3) := by decide +kernel
theorem dX7_pop_32 : decode cX7_pop 32 = .ok (.iconst 1, 1) := by decide +kernel
theorem dX7_pop_33 : decode cX7_pop 33 = .ok (.isub, 1) := by decide +kernel
theorem dX7_pop_34 : decode cX7_pop 34 = .ok (.putfield 26, 3) := by decide +kernel
theorem dX7_pop_37 : decode cX7_pop 37 = .ok (.return_, 1) := by decide +kernel
theorem dJ9_min_7cf53_0 : decode cJ9_min_7cf53 0 = .ok (.iload_n 0, 1) := by decide +kernel
theorem dJ9_min_7cf53_1 : decode cJ9_min_7cf53 1 = .ok (.iload_n 1, 1) := by decide +kernel
theorem dJ9_min_7cf53_2 : decode cJ9_min_7cf53 2 = .ok (.if_icmp .gt 7, 3) := by decide +kernel
theorem dJ9_min_7cf53_5 : decode cJ9_min_7cf53 5 = .ok (.iload_n 0, 1) := by decide +kernel
theorem dJ9_min_7cf53_6 : decode cJ9_min_7cf53 6 = .ok (.goto 4, 3) := by decide +kernel
theorem dJ9_min_7cf53_9 : decode cJ9_min_7cf53 9 = .ok (.iload_n 1, 1) := by decide +kernel
theorem dJ9_min_7cf53_10 : decode cJ9_min_7cf53 10 = .ok (.ireturn, 1) := by decide +kernel
